/-! the reference's house -/
def Hm (μ μ' : xM) : Prop := (∀ a, a ≠ 95 → ¬ (110 ≤ a ∧ a ≤ 115) → μ' a = μ a) ∧ ∀ j, j ≠ 20 → j ≠ 29 → μ' 95 j = μ 95 j
theorem Hm.rf {μ : xM} : Hm μ μ := ⟨fun _ _ _ => rfl, fun _ _ _ => rfl⟩
theorem Hm.put {μ μ1 μ2 : xM} {k j : Nat} {v : Int32} (h : Hm μ μ1) (e : μ2 = xup μ1 k j v) (hk : (k = 95 ∧ (j = 20 ∨ j = 29)) ∨ (110 ≤ k ∧ k ≤ 115)) : Hm μ μ2 :=
  ⟨fun a h1 h2 => by rw [← h.1 a h1 h2, e]; funext b; rw [xup_at, if_neg (by omega)], fun i h1 h2 => by rw [e, xup_at, if_neg (by omega)]; exact h.2 i h1 h2⟩
def En (μ μ' : xM) : Prop := (∀ a, a ≠ 95 → a ≠ 115 → μ' a = μ a) ∧ ∀ j, j ≠ 20 → μ' 95 j = μ 95 j
theorem En.rf {μ : xM} : En μ μ := ⟨fun _ _ _ => rfl, fun _ _ => rfl⟩
theorem En.put {μ μ1 μ2 : xM} {k j : Nat} {v : Int32} (h : En μ μ1) (e : μ2 = xup μ1 k j v) (hk : (k = 95 ∧ j = 20) ∨ k = 115) : En μ μ2 :=
  ⟨fun a h1 h2 => by rw [← h.1 a h1 h2, e]; funext b; rw [xup_at, if_neg (by omega)], fun i h1 => by rw [e, xup_at, if_neg (by omega)]; exact h.2 i h1⟩
theorem Hm.en {μ μ1 μ2 : xM} (h : Hm μ μ1) (k : En μ1 μ2) : Hm μ μ2 := ⟨fun a h1 h2 => (k.1 a h1 (by omega)).trans (h.1 a h1 h2), fun j h1 h2 => (k.2 j h1).trans (h.2 j h1 h2)⟩
theorem Hm.tr {μ μ1 μ2 : xM} (h : Hm μ μ1) (k : Hm μ1 μ2) : Hm μ μ2 := ⟨fun a h1 h2 => (k.1 a h1 h2).trans (h.1 a h1 h2), fun j h1 h2 => (k.2 j h1 h2).trans (h.2 j h1 h2)⟩
theorem eix {k : Nat} (h : k < 1000) (t : Nat) (ht : t < 5) : vp_in (if t = 0 then 5 * nI k else 5 * nI k + nI t) 5000 := by
  rw [show (5 : Int32) = nI 5 from rfl, pk_mul]
  by_cases h0 : t = 0
  · rw [if_pos h0]; exact vp_in_nI (by omega) (by decide)
  · rw [if_neg h0, nI_add]; exact vp_in_nI (by omega) (by decide)
def hvw (μ : xM) : HT := (μ 110, μ 111, μ 112, μ 113, μ 114, μ 95 20, μ 115)
theorem hvw_eq {μ μ' : xM} (k : ∀ a, 110 ≤ a → a ≤ 115 → μ' a = μ a) (e : μ' 95 20 = μ 95 20) : hvw μ' = hvw μ := by
  unfold hvw
  rw [k 110 (by omega) (by omega), k 111 (by omega) (by omega), k 112 (by omega) (by omega), k 113 (by omega) (by omega), k 114 (by omega) (by omega), k 115 (by omega) (by omega), e]
theorem ent_y {h : HT} {k : Nat} (hk : vA h = nI k) (hlt : k < 1000) {dv n o i p : Int32} : ent h dv n o i p = (vO h, vL h, vR h, vW h, vQ h, nI (k + 1), upd (upd (upd (upd (upd (vJ h) (5 * nI k).toNatClampNeg dv) (5 * nI k + 1).toNatClampNeg o) (5 * nI k + 2).toNatClampNeg i) (5 * nI k + 3).toNatClampNeg p) (5 * nI k + 4).toNatClampNeg n) := by
  rw [ent, hk, if_pos (show nI k < 1000 from nI_lt (b := 1000) hlt (by decide)), nI_1]
theorem ent_n {h : HT} {k : Nat} (hk : vA h = nI k) (hlt : ¬ k < 1000) (hk2 : k < 2 ^ 20) {dv n o i p : Int32} : ent h dv n o i p = (vO h, vL h, vR h, vW h, vQ h, nI (k + 1), vJ h) := by
  rw [ent, hk, if_neg (fun z => hlt (by rw [show (1000 : Int32) = nI 1000 from rfl, nI_ltI (by omega) (by decide)] at z; exact z)), nI_1]
set_option maxHeartbeats 1000000 in
set_option maxRecDepth 20000 in
theorem c_enter (X : xD) (Ex : State → Prop) (hE : xEs X false shA.length Ex) (μ : xM) (d n o i p : Int32) (k : Nat) (hk2 : k < 2 ^ 20) (hk : μ 95 20 = nI k) : Ct X Ex false yX6_enter kX6_enter (rmN 0) [.ref (X.2 + 95), .int d, .int n, .int o, .int i, .int p] shA μ (fun r sh' μ' => shA = sh' ∧ r = none ∧ En μ μ' ∧ μ' 95 20 = nI (k + 1) ∧ hvw μ' = ent (hvw μ) d n o i p) := by
  refine Ct.of (L0 := [some (.ref (X.2 + 95)), some (.int d), some (.int n), some (.int o), some (.int i), some (.int p), none]) (by decide) rfl (fun h => by cases h) (by simp [Value.category]) (Nat.le_of_ble_eq_true rfl) rfl (fun l => ?_)
  refine sx_iconst (pc := 0) (v := 5) dX6_enter_0 (by decide) ?_
  refine sx_aload_n (pc := 1) dX6_enter_1 rfl rfl ?_
  refine sx_geti (pc := 2) (ci := 6) (j := 20) dX6_enter_2 rfl s_Mo rfl (by decide) lf_X6_152 ?_
  rw [hk]
  refine sx_imul (pc := 5) dX6_enter_5 ?_
  refine sx_istore (pc := 6) (L' := [some (.ref (X.2 + 95)), some (.int d), some (.int n), some (.int o), some (.int i), some (.int p), some (.int (5 * (nI k)))]) dX6_enter_6 (by decide) rfl ?_
  refine sx_aload_n (pc := 8) dX6_enter_8 rfl rfl ?_
  refine sx_geti (pc := 9) (ci := 6) (j := 20) dX6_enter_9 rfl s_Mo rfl (by decide) lf_X6_152 ?_
  rw [hk]
  refine sx_sipush (pc := 12) (v := 1000) dX6_enter_12 (by decide) ?_
  refine sx_icmp_ge (pc := 15) (tgt := 68) dX6_enter_15 (by decide) (fun c_15 => ?_) (fun c_15 => ?_)
  · have h_15t := c_15
    have hge : ¬ k < 1000 := fun z => absurd (nI_lt (b := 1000) z (by decide)) (Int32.not_lt.mpr h_15t)
    refine sx_aload_n (pc := 68) dX6_enter_68 rfl rfl ?_
    refine sx_dup (pc := 69) dX6_enter_69 rfl ?_
    refine sx_geti (pc := 70) (ci := 6) (j := 20) dX6_enter_70 rfl s_Mo rfl (by decide) lf_X6_152 ?_
    rw [hk]
    refine sx_iconst (pc := 73) (v := 1) dX6_enter_73 (by decide) ?_
    refine sx_iadd (pc := 74) dX6_enter_74 ?_
    rw [nI_1]
    refine sx_puti (pc := 75) (ci := 6) (j := 20) (ty := .int) dX6_enter_75 rfl s_Mo rfl (by decide) lf_X6_152 rfl (by decide +kernel) rfl rfl (fun μ1 hμ1 => ?_)
    have hk_μ1 : μ1 95 20 = nI (k + 1) := by rw [hμ1, xup_at, if_pos ⟨rfl, rfl⟩]
    exact sx_vret (pc := 78) dX6_enter_78 rfl (Nat.zero_le _) (Nat.zero_le _) (⟨rfl, rfl, (En.put En.rf hμ1 (by omega)), hk_μ1, by first | (rw [ent_y (h := hvw μ) hk hlt]; subst hμ1; rfl) | (rw [ent_n (h := hvw μ) hk hge hk2]; subst hμ1; rfl)⟩)
  · have h_15f := c_15
    have hlt : k < 1000 := Nat.lt_of_not_le fun z => h_15f (nI_le (a := 1000) z (by omega))
    refine sx_aload_n (pc := 18) dX6_enter_18 rfl rfl ?_
    refine sx_getr (pc := 19) (ci := 6) (j := 21) (r := 115) dX6_enter_19 rfl s_Mo rfl (by decide) lf_X6_69 ?_
    refine sx_iload (pc := 22) dX6_enter_22 rfl ?_
    refine sx_iload_n (pc := 24) dX6_enter_24 rfl rfl ?_
    refine sx_iast (pc := 25) dX6_enter_25 s_M21 (by decide) rfl (eix hlt 0 (by decide)) (fun μ2 hμ2 => ?_)
    have hk_μ2 : μ2 95 20 = nI k := by rw [hμ2, xup_at, if_neg (by omega)]; exact hk
    refine sx_aload_n (pc := 26) dX6_enter_26 rfl rfl ?_
    refine sx_getr (pc := 27) (ci := 6) (j := 21) (r := 115) dX6_enter_27 rfl s_Mo rfl (by decide) lf_X6_69 ?_
    refine sx_iload (pc := 30) dX6_enter_30 rfl ?_
    refine sx_iconst (pc := 32) (v := 1) dX6_enter_32 (by decide) ?_
    refine sx_iadd (pc := 33) dX6_enter_33 ?_
    refine sx_iload_n (pc := 34) dX6_enter_34 rfl rfl ?_
    refine sx_iast (pc := 35) dX6_enter_35 s_M21 (by decide) rfl (eix hlt 1 (by decide)) (fun μ3 hμ3 => ?_)
    have hk_μ3 : μ3 95 20 = nI k := by rw [hμ3, xup_at, if_neg (by omega)]; exact hk_μ2
    refine sx_aload_n (pc := 36) dX6_enter_36 rfl rfl ?_
    refine sx_getr (pc := 37) (ci := 6) (j := 21) (r := 115) dX6_enter_37 rfl s_Mo rfl (by decide) lf_X6_69 ?_
    refine sx_iload (pc := 40) dX6_enter_40 rfl ?_
    refine sx_iconst (pc := 42) (v := 2) dX6_enter_42 (by decide) ?_
    refine sx_iadd (pc := 43) dX6_enter_43 ?_
    refine sx_iload (pc := 44) dX6_enter_44 rfl ?_
    refine sx_iast (pc := 46) dX6_enter_46 s_M21 (by decide) rfl (eix hlt 2 (by decide)) (fun μ4 hμ4 => ?_)
    have hk_μ4 : μ4 95 20 = nI k := by rw [hμ4, xup_at, if_neg (by omega)]; exact hk_μ3
    refine sx_aload_n (pc := 47) dX6_enter_47 rfl rfl ?_
    refine sx_getr (pc := 48) (ci := 6) (j := 21) (r := 115) dX6_enter_48 rfl s_Mo rfl (by decide) lf_X6_69 ?_
    refine sx_iload (pc := 51) dX6_enter_51 rfl ?_
    refine sx_iconst (pc := 53) (v := 3) dX6_enter_53 (by decide) ?_
    refine sx_iadd (pc := 54) dX6_enter_54 ?_
    refine sx_iload (pc := 55) dX6_enter_55 rfl ?_
    refine sx_iast (pc := 57) dX6_enter_57 s_M21 (by decide) rfl (eix hlt 3 (by decide)) (fun μ5 hμ5 => ?_)
    have hk_μ5 : μ5 95 20 = nI k := by rw [hμ5, xup_at, if_neg (by omega)]; exact hk_μ4
    refine sx_aload_n (pc := 58) dX6_enter_58 rfl rfl ?_
    refine sx_getr (pc := 59) (ci := 6) (j := 21) (r := 115) dX6_enter_59 rfl s_Mo rfl (by decide) lf_X6_69 ?_
    refine sx_iload (pc := 62) dX6_enter_62 rfl ?_
    refine sx_iconst (pc := 64) (v := 4) dX6_enter_64 (by decide) ?_
    refine sx_iadd (pc := 65) dX6_enter_65 ?_
    refine sx_iload_n (pc := 66) dX6_enter_66 rfl rfl ?_
    refine sx_iast (pc := 67) dX6_enter_67 s_M21 (by decide) rfl (eix hlt 4 (by decide)) (fun μ6 hμ6 => ?_)
    have hk_μ6 : μ6 95 20 = nI k := by rw [hμ6, xup_at, if_neg (by omega)]; exact hk_μ5
    refine sx_aload_n (pc := 68) dX6_enter_68 rfl rfl ?_
    refine sx_dup (pc := 69) dX6_enter_69 rfl ?_
    refine sx_geti (pc := 70) (ci := 6) (j := 20) dX6_enter_70 rfl s_Mo rfl (by decide) lf_X6_152 ?_
    rw [hk_μ6]
    refine sx_iconst (pc := 73) (v := 1) dX6_enter_73 (by decide) ?_
    refine sx_iadd (pc := 74) dX6_enter_74 ?_
    rw [nI_1]
    refine sx_puti (pc := 75) (ci := 6) (j := 20) (ty := .int) dX6_enter_75 rfl s_Mo rfl (by decide) lf_X6_152 rfl (by decide +kernel) rfl rfl (fun μ7 hμ7 => ?_)
    have hk_μ7 : μ7 95 20 = nI (k + 1) := by rw [hμ7, xup_at, if_pos ⟨rfl, rfl⟩]
    exact sx_vret (pc := 78) dX6_enter_78 rfl (Nat.zero_le _) (Nat.zero_le _) (⟨rfl, rfl, (En.put (En.put (En.put (En.put (En.put (En.put En.rf hμ2 (by omega)) hμ3 (by omega)) hμ4 (by omega)) hμ5 (by omega)) hμ6 (by omega)) hμ7 (by omega)), hk_μ7, by first | (rw [ent_y (h := hvw μ) hk hlt]; subst hμ7; subst hμ6; subst hμ5; subst hμ4; subst hμ3; subst hμ2; rfl) | (rw [ent_n (h := hvw μ) hk hge hk2]; subst hμ7; subst hμ6; subst hμ5; subst hμ4; subst hμ3; subst hμ2; rfl)⟩)
set_option maxHeartbeats 1000000 in
set_option maxRecDepth 20000 in
theorem l_ritems {X : xD} {Ex : State → Prop} {l : Launch} {ps : Int32} {μ : xM} : ∀ (t j : Nat) (v : Int32), 30 - j ≤ t → j ≤ 30 → (∃ c, c ≤ j ∧ v = nI c) → sx l (rmN 0) X Ex false kX6_items shA.length (xZ X false shA.length (fun r sh' μ' => shA = sh' ∧ μ = μ' ∧ ∃ x : Int32, r = some (.int x) ∧ 0 ≤ x) 0 0) 4 [some (.ref (X.2 + 95)), some (.int ps), some (.int v), some (.int (nI j))] [] shA μ 0 0 := by
  intro t
  induction t with
  | zero =>
    intro j v htt hj hc
    refine sx_iload_n (pc := 4) dX6_items_4 rfl rfl ?_
    refine sx_bipush (pc := 5) (v := 30) dX6_items_5 (by decide) ?_
    refine sx_icmp_ge (pc := 7) (tgt := 36) dX6_items_7 (by decide) (fun c_7 => ?_) (fun c_7 => absurd (nI_le (a := 30) (b := j) (by omega) (by omega)) c_7)
    refine sx_iload_n (pc := 36) dX6_items_36 rfl rfl ?_
    exact sx_iret (pc := 37) dX6_items_37 rfl rfl (Nat.zero_le _) (Nat.zero_le _) (⟨rfl, rfl, _, rfl, by obtain ⟨c, hc1, hc2⟩ := hc; rw [hc2]; exact nI_pos' (by omega)⟩)
  | succ t ih =>
    intro j v htt hj hc
    refine sx_iload_n (pc := 4) dX6_items_4 rfl rfl ?_
    refine sx_bipush (pc := 5) (v := 30) dX6_items_5 (by decide) ?_
    refine sx_icmp_ge (pc := 7) (tgt := 36) dX6_items_7 (by decide) (fun c_7 => ?_) (fun c_7 => ?_)
    · have h_7t := c_7
      refine sx_iload_n (pc := 36) dX6_items_36 rfl rfl ?_
      exact sx_iret (pc := 37) dX6_items_37 rfl rfl (Nat.zero_le _) (Nat.zero_le _) (⟨rfl, rfl, _, rfl, by obtain ⟨c, hc1, hc2⟩ := hc; rw [hc2]; exact nI_pos' (by omega)⟩)
    · have h_7f := c_7
      have hlt : j < 30 := Nat.lt_of_not_le fun z => h_7f (nI_le (a := 30) z (by omega))
      refine sx_iload_n (pc := 10) dX6_items_10 rfl rfl ?_
      refine sx_aload_n (pc := 11) dX6_items_11 rfl rfl ?_
      refine sx_getr (pc := 12) (ci := 6) (j := 16) (r := 111) dX6_items_12 rfl s_Mo rfl (by decide) lf_X6_57 ?_
      refine sx_iload_n (pc := 15) dX6_items_15 rfl rfl ?_
      refine sx_iald (pc := 16) dX6_items_16 s_M16 (by decide) rfl (vp_in_nI (by omega) (by decide)) ?_
      refine sx_iload_n (pc := 17) dX6_items_17 rfl rfl ?_
      refine sx_iconst (pc := 18) (v := 1) dX6_items_18 (by decide) ?_
      refine sx_iadd (pc := 19) dX6_items_19 ?_
      refine sx_icmp_ne (pc := 20) (tgt := 27) dX6_items_20 (by decide) (fun c_20 => ?_) (fun c_20 => ?_)
      · have h_20t := c_20
        refine sx_iconst (pc := 27) (v := 0) dX6_items_27 (by decide) ?_
        refine sx_iadd (pc := 28) dX6_items_28 ?_
        refine sx_istore_n (pc := 29) (L' := [some (.ref (X.2 + 95)), some (.int ps), some (.int (v + 0)), some (.int (nI j))]) dX6_items_29 rfl (by decide) rfl ?_
        refine sx_iinc (pc := 30) (v := nI (j + 1)) (L' := [some (.ref (X.2 + 95)), some (.int ps), some (.int (v + 0)), some (.int (nI (j + 1)))]) dX6_items_30 rfl (nI_1 j) (by decide) rfl ?_
        refine sx_goto (pc := 33) (tgt := 4) dX6_items_33 (by decide) ?_
        exact ih (j + 1) _ (by omega) (by omega) (by obtain ⟨c, hc1, rfl⟩ := hc; first | exact ⟨c + 1, by omega, nI_1 c⟩ | exact ⟨c, by omega, Int32.add_zero _⟩)
      · have h_20f := c_20
        refine sx_iconst (pc := 23) (v := 1) dX6_items_23 (by decide) ?_
        refine sx_goto (pc := 24) (tgt := 28) dX6_items_24 (by decide) ?_
        refine sx_iadd (pc := 28) dX6_items_28 ?_
        refine sx_istore_n (pc := 29) (L' := [some (.ref (X.2 + 95)), some (.int ps), some (.int (v + 1)), some (.int (nI j))]) dX6_items_29 rfl (by decide) rfl ?_
        refine sx_iinc (pc := 30) (v := nI (j + 1)) (L' := [some (.ref (X.2 + 95)), some (.int ps), some (.int (v + 1)), some (.int (nI (j + 1)))]) dX6_items_30 rfl (nI_1 j) (by decide) rfl ?_
        refine sx_goto (pc := 33) (tgt := 4) dX6_items_33 (by decide) ?_
        exact ih (j + 1) _ (by omega) (by omega) (by obtain ⟨c, hc1, rfl⟩ := hc; first | exact ⟨c + 1, by omega, nI_1 c⟩ | exact ⟨c, by omega, Int32.add_zero _⟩)
set_option maxHeartbeats 1000000 in
set_option maxRecDepth 20000 in
theorem c_ritems (X : xD) (Ex : State → Prop) (hE : xEs X false shA.length Ex) (μ : xM) (ps : Int32) : Ct X Ex false yX6_items kX6_items (rmN 0) [.ref (X.2 + 95), .int ps] shA μ (fun r sh' μ' => shA = sh' ∧ μ = μ' ∧ ∃ x : Int32, r = some (.int x) ∧ 0 ≤ x) := by
  refine Ct.of (L0 := [some (.ref (X.2 + 95)), some (.int ps), none, none]) (by decide) rfl (fun h => by cases h) (by simp [Value.category]) (Nat.le_of_ble_eq_true rfl) rfl (fun l => ?_)
  refine sx_iconst (pc := 0) (v := 0) dX6_items_0 (by decide) ?_
  refine sx_istore_n (pc := 1) (L' := [some (.ref (X.2 + 95)), some (.int ps), some (.int 0), none]) dX6_items_1 rfl (by decide) rfl ?_
  refine sx_iconst (pc := 2) (v := 0) dX6_items_2 (by decide) ?_
  refine sx_istore_n (pc := 3) (L' := [some (.ref (X.2 + 95)), some (.int ps), some (.int 0), some (.int 0)]) dX6_items_3 rfl (by decide) rfl ?_
  exact l_ritems 30 0 0 (by omega) (Nat.zero_le _) ⟨0, Nat.le_refl _, rfl⟩
set_option maxHeartbeats 1000000 in
set_option maxRecDepth 20000 in
theorem l_place {X : xD} {Ex : State → Prop} {l : Launch} {ps : Int32} {i q : Nat} (hi : i < 30) (hq : q ≤ 30) {μ : xM} (hw : μ 113 (nI i).toNatClampNeg = nI q) : ∀ (t j : Nat), q - j ≤ t → j ≤ q → (∀ a, a < j → ¬ μ 114 (30 * i + a) = ps) → sx l (rmN 0) X Ex false kX6_placeOf shA.length (xZ X false shA.length (fun r sh' μ' => shA = sh' ∧ μ = μ' ∧ ∃ x : Int32, r = some (.int x) ∧ ((x < 0 ∧ ∀ a, a < q → ¬ μ 114 (30 * i + a) = ps) ∨ (¬ x < 0 ∧ ¬ (∀ a, a < q → ¬ μ 114 (30 * i + a) = ps)))) 0 0) 2 [some (.ref (X.2 + 95)), some (.int (nI i)), some (.int ps), some (.int (nI j))] [] shA μ 0 0 := by
  intro t
  induction t with
  | zero =>
    intro j htt hj hN
    refine sx_iload_n (pc := 2) dX6_placeOf_2 rfl rfl ?_
    refine sx_aload_n (pc := 3) dX6_placeOf_3 rfl rfl ?_
    refine sx_getr (pc := 4) (ci := 6) (j := 18) (r := 113) dX6_placeOf_4 rfl s_Mo rfl (by decide) lf_X6_63 ?_
    refine sx_iload_n (pc := 7) dX6_placeOf_7 rfl rfl ?_
    refine sx_iald (pc := 8) dX6_placeOf_8 s_M18 (by decide) rfl (vp_in_nI (by omega) (by decide)) ?_
    rw [hw]
    refine sx_icmp_ge (pc := 9) (tgt := 35) dX6_placeOf_9 (by decide) (fun c_9 => ?_) (fun c_9 => absurd (nI_le (by omega) (by omega)) c_9)
    refine sx_iconst (pc := 35) (v := (-1)) dX6_placeOf_35 (by decide) ?_
    exact sx_iret (pc := 36) dX6_placeOf_36 rfl rfl (Nat.zero_le _) (Nat.zero_le _) (⟨rfl, rfl, _, rfl, Or.inl ⟨by decide, fun a ha => hN a (by omega)⟩⟩)
  | succ t ih =>
    intro j htt hj hN
    refine sx_iload_n (pc := 2) dX6_placeOf_2 rfl rfl ?_
    refine sx_aload_n (pc := 3) dX6_placeOf_3 rfl rfl ?_
    refine sx_getr (pc := 4) (ci := 6) (j := 18) (r := 113) dX6_placeOf_4 rfl s_Mo rfl (by decide) lf_X6_63 ?_
    refine sx_iload_n (pc := 7) dX6_placeOf_7 rfl rfl ?_
    refine sx_iald (pc := 8) dX6_placeOf_8 s_M18 (by decide) rfl (vp_in_nI (by omega) (by decide)) ?_
    rw [hw]
    refine sx_icmp_ge (pc := 9) (tgt := 35) dX6_placeOf_9 (by decide) (fun c_9 => ?_) (fun c_9 => ?_)
    · have h_9t := c_9
      have hge : q ≤ j := Nat.le_of_not_lt fun z => absurd (nI_lt z (by omega)) (Int32.not_lt.mpr h_9t)
      refine sx_iconst (pc := 35) (v := (-1)) dX6_placeOf_35 (by decide) ?_
      exact sx_iret (pc := 36) dX6_placeOf_36 rfl rfl (Nat.zero_le _) (Nat.zero_le _) (⟨rfl, rfl, _, rfl, Or.inl ⟨by decide, fun a ha => hN a (by omega)⟩⟩)
    · have h_9f := c_9
      have hlt : j < q := Nat.lt_of_not_le fun z => h_9f (nI_le z (by omega))
      refine sx_aload_n (pc := 12) dX6_placeOf_12 rfl rfl ?_
      refine sx_getr (pc := 13) (ci := 6) (j := 19) (r := 114) dX6_placeOf_13 rfl s_Mo rfl (by decide) lf_X6_66 ?_
      refine sx_bipush (pc := 16) (v := 30) dX6_placeOf_16 (by decide) ?_
      refine sx_iload_n (pc := 18) dX6_placeOf_18 rfl rfl ?_
      refine sx_imul (pc := 19) dX6_placeOf_19 ?_
      rw [show (30 : Int32) = nI 30 from rfl, pk_mul]
      refine sx_iload_n (pc := 20) dX6_placeOf_20 rfl rfl ?_
      refine sx_iadd (pc := 21) dX6_placeOf_21 ?_
      rw [nI_add]
      refine sx_iald (pc := 22) dX6_placeOf_22 s_M19 (by decide) rfl (vp_in_nI (by omega) (by decide)) ?_
      rw [nI_clamp (n := 30 * i + j) (by omega)]
      refine sx_iload_n (pc := 23) dX6_placeOf_23 rfl rfl ?_
      refine sx_icmp_ne (pc := 24) (tgt := 29) dX6_placeOf_24 (by decide) (fun c_24 => ?_) (fun c_24 => ?_)
      · have h_24t := c_24
        refine sx_iinc (pc := 29) (v := nI (j + 1)) (L' := [some (.ref (X.2 + 95)), some (.int (nI i)), some (.int ps), some (.int (nI (j + 1)))]) dX6_placeOf_29 rfl (nI_1 j) (by decide) rfl ?_
        refine sx_goto (pc := 32) (tgt := 2) dX6_placeOf_32 (by decide) ?_
        exact ih (j + 1) (by omega) (by omega) (fun a ha => by rcases (show a < j ∨ a = j by omega) with z | rfl; exact hN a z; exact h_24t)
      · have h_24f := c_24
        refine sx_iload_n (pc := 27) dX6_placeOf_27 rfl rfl ?_
        exact sx_iret (pc := 28) dX6_placeOf_28 rfl rfl (Nat.zero_le _) (Nat.zero_le _) (⟨rfl, rfl, _, rfl, Or.inr ⟨nI_pos (by omega), fun z => z j hlt h_24f⟩⟩)
set_option maxHeartbeats 1000000 in
set_option maxRecDepth 20000 in
theorem c_place (X : xD) (Ex : State → Prop) (hE : xEs X false shA.length Ex) (μ : xM) (i q : Nat) (hi : i < 30) (hq : q ≤ 30) (hw : μ 113 (nI i).toNatClampNeg = nI q) (ps : Int32) : Ct X Ex false yX6_placeOf kX6_placeOf (rmN 0) [.ref (X.2 + 95), .int (nI i), .int ps] shA μ (fun r sh' μ' => shA = sh' ∧ μ = μ' ∧ ∃ x : Int32, r = some (.int x) ∧ ((x < 0 ∧ ∀ a, a < q → ¬ μ 114 (30 * i + a) = ps) ∨ (¬ x < 0 ∧ ¬ (∀ a, a < q → ¬ μ 114 (30 * i + a) = ps)))) := by
  refine Ct.of (L0 := [some (.ref (X.2 + 95)), some (.int (nI i)), some (.int ps), none]) (by decide) rfl (fun h => by cases h) (by simp [Value.category]) (Nat.le_of_ble_eq_true rfl) rfl (fun l => ?_)
  refine sx_iconst (pc := 0) (v := 0) dX6_placeOf_0 (by decide) ?_
  refine sx_istore_n (pc := 1) (L' := [some (.ref (X.2 + 95)), some (.int (nI i)), some (.int ps), some (.int 0)]) dX6_placeOf_1 rfl (by decide) rfl ?_
  exact l_place hi hq hw 30 0 (by omega) (Nat.zero_le _) (fun a ha => absurd ha (Nat.not_lt_zero _))
set_option maxHeartbeats 1000000 in
set_option maxRecDepth 20000 in
theorem l_lend_tail {X : xD} {Ex : State → Prop} (hE : xEs X false shA.length Ex) {l : Launch} {dv n : Int32} {i p k : Nat} (hi : i < 30) (hp : p < 30) (hk2 : k < 2 ^ 20) {μ0 μ : xM} {T : HT} {vv : Int32} (hit : μ 95 27 = nI i) (hpn : μ 95 26 = nI p) (hvv : μ 95 29 = vv) (hC : Hm μ0 μ) (hT : hvw μ = T) (f : Int32) : sx l (rmN 1) X Ex false kX6_lends shA.length (xZ X false shA.length (fun r sh' μ' => shA = sh' ∧ Hm μ0 μ' ∧ hvw μ' = T ∧ μ' 95 29 = vv ∧ ∃ x : Int32, r = some (.int x) ∧ 0 ≤ x) 0 0) 204 [some (.ref (X.2 + 95)), some (.int dv), some (.int n), some (.int f), none] [] shA μ 0 0 := by
  refine sx_aload_n (pc := 204) dX6_lends_204 rfl rfl ?_
  refine sx_aload_n (pc := 205) dX6_lends_205 rfl rfl ?_
  refine sx_geti (pc := 206) (ci := 6) (j := 26) dX6_lends_206 rfl s_Mo rfl (by decide) lf_X6_104 ?_
  rw [hpn]
  refine sx_callV (pc := 209) (As := [.int (nI p)]) dX6_lends_209 (c_ritems X Ex hE μ _) mX6_items lm_X6_159 rfl s_Mo rfl ⟨Nat.le_of_ble_eq_true rfl, Nat.le_of_ble_eq_true rfl⟩ ⟨Nat.le_of_ble_eq_true rfl, Nat.le_of_ble_eq_true rfl⟩ (Nat.le_of_ble_eq_true rfl) hE (fun r_209 sh1 μ1 h_209 => ?_)
  obtain ⟨rfl, rfl, x_209, rfl, hx_209⟩ := h_209
  exact sx_iret (pc := 212) dX6_lends_212 rfl rfl (Nat.zero_le _) (Nat.zero_le _) (⟨rfl, hC, hT, hvv, _, rfl, hx_209⟩)
set_option maxHeartbeats 1000000 in
set_option maxRecDepth 20000 in
theorem l_lend_fin {X : xD} {Ex : State → Prop} (hE : xEs X false shA.length Ex) {l : Launch} {dv n : Int32} {i p k : Nat} (hi : i < 30) (hp : p < 30) (hk2 : k < 2 ^ 20) {μ0 μ : xM} {T : HT} {vv : Int32} (hit : μ 95 27 = nI i) (hpn : μ 95 26 = nI p) (hvv : μ 95 29 = vv) (hk : μ 95 20 = nI k) (hC : Hm μ0 μ) {T0 : HT} (hT0 : (μ 110, upd (μ 111) i (nI p + 1), upd (μ 112) i 0, μ 113, μ 114, μ 95 20, μ 115) = T0) (hT : ent T0 dv n 67 (nI i) (nI p) = T) (f : Int32) : sx l (rmN 1) X Ex false kX6_lends shA.length (xZ X false shA.length (fun r sh' μ' => shA = sh' ∧ Hm μ0 μ' ∧ hvw μ' = T ∧ μ' 95 29 = vv ∧ ∃ x : Int32, r = some (.int x) ∧ 0 ≤ x) 0 0) 163 [some (.ref (X.2 + 95)), some (.int dv), some (.int n), some (.int f), none] [] shA μ 0 0 := by
  refine sx_aload_n (pc := 163) dX6_lends_163 rfl rfl ?_
  refine sx_getr (pc := 164) (ci := 6) (j := 16) (r := 111) dX6_lends_164 rfl s_Mo rfl (by decide) lf_X6_57 ?_
  refine sx_aload_n (pc := 167) dX6_lends_167 rfl rfl ?_
  refine sx_geti (pc := 168) (ci := 6) (j := 27) dX6_lends_168 rfl s_Mo rfl (by decide) lf_X6_110 ?_
  rw [hit]
  refine sx_aload_n (pc := 171) dX6_lends_171 rfl rfl ?_
  refine sx_geti (pc := 172) (ci := 6) (j := 26) dX6_lends_172 rfl s_Mo rfl (by decide) lf_X6_104 ?_
  rw [hpn]
  refine sx_iconst (pc := 175) (v := 1) dX6_lends_175 (by decide) ?_
  refine sx_iadd (pc := 176) dX6_lends_176 ?_
  refine sx_iast (pc := 177) dX6_lends_177 s_M16 (by decide) rfl (vp_in_nI (by omega) (by decide)) (fun μ1 hμ1 => ?_)
  have hit_μ1 : μ1 95 27 = nI i := by rw [hμ1, xup_at, if_neg (by omega)]; exact hit
  have hpn_μ1 : μ1 95 26 = nI p := by rw [hμ1, xup_at, if_neg (by omega)]; exact hpn
  have hvv_μ1 : μ1 95 29 = vv := by rw [hμ1, xup_at, if_neg (by omega)]; exact hvv
  have hk_μ1 : μ1 95 20 = nI k := by rw [hμ1, xup_at, if_neg (by omega)]; exact hk
  refine sx_aload_n (pc := 178) dX6_lends_178 rfl rfl ?_
  refine sx_getr (pc := 179) (ci := 6) (j := 17) (r := 112) dX6_lends_179 rfl s_Mo rfl (by decide) lf_X6_60 ?_
  refine sx_aload_n (pc := 182) dX6_lends_182 rfl rfl ?_
  refine sx_geti (pc := 183) (ci := 6) (j := 27) dX6_lends_183 rfl s_Mo rfl (by decide) lf_X6_110 ?_
  rw [hit_μ1]
  refine sx_iconst (pc := 186) (v := 0) dX6_lends_186 (by decide) ?_
  refine sx_iast (pc := 187) dX6_lends_187 s_M17 (by decide) rfl (vp_in_nI (by omega) (by decide)) (fun μ2 hμ2 => ?_)
  have hit_μ2 : μ2 95 27 = nI i := by rw [hμ2, xup_at, if_neg (by omega)]; exact hit_μ1
  have hpn_μ2 : μ2 95 26 = nI p := by rw [hμ2, xup_at, if_neg (by omega)]; exact hpn_μ1
  have hvv_μ2 : μ2 95 29 = vv := by rw [hμ2, xup_at, if_neg (by omega)]; exact hvv_μ1
  have hk_μ2 : μ2 95 20 = nI k := by rw [hμ2, xup_at, if_neg (by omega)]; exact hk_μ1
  refine sx_aload_n (pc := 188) dX6_lends_188 rfl rfl ?_
  refine sx_iload_n (pc := 189) dX6_lends_189 rfl rfl ?_
  refine sx_iload_n (pc := 190) dX6_lends_190 rfl rfl ?_
  refine sx_bipush (pc := 191) (v := 67) dX6_lends_191 (by decide) ?_
  refine sx_aload_n (pc := 193) dX6_lends_193 rfl rfl ?_
  refine sx_geti (pc := 194) (ci := 6) (j := 27) dX6_lends_194 rfl s_Mo rfl (by decide) lf_X6_110 ?_
  rw [hit_μ2]
  refine sx_aload_n (pc := 197) dX6_lends_197 rfl rfl ?_
  refine sx_geti (pc := 198) (ci := 6) (j := 26) dX6_lends_198 rfl s_Mo rfl (by decide) lf_X6_104 ?_
  rw [hpn_μ2]
  refine sx_callV (pc := 201) (As := [.int dv, .int n, .int 67, .int (nI i), .int (nI p)]) dX6_lends_201 (c_enter X Ex hE μ2 _ _ _ _ _ k hk2 hk_μ2) mX6_enter lm_X6_155 rfl s_Mo rfl ⟨Nat.le_of_ble_eq_true rfl, Nat.le_of_ble_eq_true rfl⟩ ⟨Nat.le_of_ble_eq_true rfl, Nat.le_of_ble_eq_true rfl⟩ (Nat.le_of_ble_eq_true rfl) hE (fun r_201 sh1 μ3 h_201 => ?_)
  obtain ⟨rfl, rfl, k_201, e_201, t_201⟩ := h_201
  have hit_μ3 : μ3 95 27 = nI i := (k_201.2 27 (by decide)).trans hit_μ2
  have hpn_μ3 : μ3 95 26 = nI p := (k_201.2 26 (by decide)).trans hpn_μ2
  have hvv_μ3 : μ3 95 29 = vv := (k_201.2 29 (by decide)).trans hvv_μ2
  exact l_lend_tail hE hi hp hk2 hit_μ3 hpn_μ3 hvv_μ3 (Hm.en (Hm.put (Hm.put hC hμ1 (by omega)) hμ2 (by omega)) k_201) (by rw [t_201, ← hT, ← hT0]; congr 1; rw [hμ2, hμ1, (nI_clamp (n := i) (by omega))]; rfl) _
set_option maxHeartbeats 1000000 in
set_option maxRecDepth 20000 in
theorem l_lend_tail2 {X : xD} {Ex : State → Prop} (hE : xEs X false shA.length Ex) {l : Launch} {dv n : Int32} {i p k : Nat} (hi : i < 30) (hp : p < 30) (hk2 : k < 2 ^ 20) {μ0 μ : xM} {T : HT} {vv : Int32} (hit : μ 95 27 = nI i) (hpn : μ 95 26 = nI p) (hvv : μ 95 29 = vv) (hC : Hm μ0 μ) (hT : hvw μ = T) (f : Int32) (o : Int32) : sx l (rmN 1) X Ex false kX6_lends shA.length (xZ X false shA.length (fun r sh' μ' => shA = sh' ∧ Hm μ0 μ' ∧ hvw μ' = T ∧ μ' 95 29 = vv ∧ ∃ x : Int32, r = some (.int x) ∧ 0 ≤ x) 0 0) 204 [some (.ref (X.2 + 95)), some (.int dv), some (.int n), some (.int f), some (.int o)] [] shA μ 0 0 := by
  refine sx_aload_n (pc := 204) dX6_lends_204 rfl rfl ?_
  refine sx_aload_n (pc := 205) dX6_lends_205 rfl rfl ?_
  refine sx_geti (pc := 206) (ci := 6) (j := 26) dX6_lends_206 rfl s_Mo rfl (by decide) lf_X6_104 ?_
  rw [hpn]
  refine sx_callV (pc := 209) (As := [.int (nI p)]) dX6_lends_209 (c_ritems X Ex hE μ _) mX6_items lm_X6_159 rfl s_Mo rfl ⟨Nat.le_of_ble_eq_true rfl, Nat.le_of_ble_eq_true rfl⟩ ⟨Nat.le_of_ble_eq_true rfl, Nat.le_of_ble_eq_true rfl⟩ (Nat.le_of_ble_eq_true rfl) hE (fun r_209 sh1 μ1 h_209 => ?_)
  obtain ⟨rfl, rfl, x_209, rfl, hx_209⟩ := h_209
  exact sx_iret (pc := 212) dX6_lends_212 rfl rfl (Nat.zero_le _) (Nat.zero_le _) (⟨rfl, hC, hT, hvv, _, rfl, hx_209⟩)
set_option maxHeartbeats 1000000 in
set_option maxRecDepth 20000 in
theorem l_lend_fin2 {X : xD} {Ex : State → Prop} (hE : xEs X false shA.length Ex) {l : Launch} {dv n : Int32} {i p k : Nat} (hi : i < 30) (hp : p < 30) (hk2 : k < 2 ^ 20) {μ0 μ : xM} {T : HT} {vv : Int32} (hit : μ 95 27 = nI i) (hpn : μ 95 26 = nI p) (hvv : μ 95 29 = vv) (hk : μ 95 20 = nI k) (hC : Hm μ0 μ) {T0 : HT} (hT0 : (μ 110, upd (μ 111) i (nI p + 1), upd (μ 112) i 0, μ 113, μ 114, μ 95 20, μ 115) = T0) (hT : ent T0 dv n 67 (nI i) (nI p) = T) (f : Int32) (o : Int32) : sx l (rmN 1) X Ex false kX6_lends shA.length (xZ X false shA.length (fun r sh' μ' => shA = sh' ∧ Hm μ0 μ' ∧ hvw μ' = T ∧ μ' 95 29 = vv ∧ ∃ x : Int32, r = some (.int x) ∧ 0 ≤ x) 0 0) 163 [some (.ref (X.2 + 95)), some (.int dv), some (.int n), some (.int f), some (.int o)] [] shA μ 0 0 := by
  refine sx_aload_n (pc := 163) dX6_lends_163 rfl rfl ?_
  refine sx_getr (pc := 164) (ci := 6) (j := 16) (r := 111) dX6_lends_164 rfl s_Mo rfl (by decide) lf_X6_57 ?_
  refine sx_aload_n (pc := 167) dX6_lends_167 rfl rfl ?_
  refine sx_geti (pc := 168) (ci := 6) (j := 27) dX6_lends_168 rfl s_Mo rfl (by decide) lf_X6_110 ?_
  rw [hit]
  refine sx_aload_n (pc := 171) dX6_lends_171 rfl rfl ?_
  refine sx_geti (pc := 172) (ci := 6) (j := 26) dX6_lends_172 rfl s_Mo rfl (by decide) lf_X6_104 ?_
  rw [hpn]
  refine sx_iconst (pc := 175) (v := 1) dX6_lends_175 (by decide) ?_
  refine sx_iadd (pc := 176) dX6_lends_176 ?_
  refine sx_iast (pc := 177) dX6_lends_177 s_M16 (by decide) rfl (vp_in_nI (by omega) (by decide)) (fun μ1 hμ1 => ?_)
  have hit_μ1 : μ1 95 27 = nI i := by rw [hμ1, xup_at, if_neg (by omega)]; exact hit
  have hpn_μ1 : μ1 95 26 = nI p := by rw [hμ1, xup_at, if_neg (by omega)]; exact hpn
  have hvv_μ1 : μ1 95 29 = vv := by rw [hμ1, xup_at, if_neg (by omega)]; exact hvv
  have hk_μ1 : μ1 95 20 = nI k := by rw [hμ1, xup_at, if_neg (by omega)]; exact hk
  refine sx_aload_n (pc := 178) dX6_lends_178 rfl rfl ?_
  refine sx_getr (pc := 179) (ci := 6) (j := 17) (r := 112) dX6_lends_179 rfl s_Mo rfl (by decide) lf_X6_60 ?_
  refine sx_aload_n (pc := 182) dX6_lends_182 rfl rfl ?_
  refine sx_geti (pc := 183) (ci := 6) (j := 27) dX6_lends_183 rfl s_Mo rfl (by decide) lf_X6_110 ?_
  rw [hit_μ1]
  refine sx_iconst (pc := 186) (v := 0) dX6_lends_186 (by decide) ?_
  refine sx_iast (pc := 187) dX6_lends_187 s_M17 (by decide) rfl (vp_in_nI (by omega) (by decide)) (fun μ2 hμ2 => ?_)
  have hit_μ2 : μ2 95 27 = nI i := by rw [hμ2, xup_at, if_neg (by omega)]; exact hit_μ1
  have hpn_μ2 : μ2 95 26 = nI p := by rw [hμ2, xup_at, if_neg (by omega)]; exact hpn_μ1
  have hvv_μ2 : μ2 95 29 = vv := by rw [hμ2, xup_at, if_neg (by omega)]; exact hvv_μ1
  have hk_μ2 : μ2 95 20 = nI k := by rw [hμ2, xup_at, if_neg (by omega)]; exact hk_μ1
  refine sx_aload_n (pc := 188) dX6_lends_188 rfl rfl ?_
  refine sx_iload_n (pc := 189) dX6_lends_189 rfl rfl ?_
  refine sx_iload_n (pc := 190) dX6_lends_190 rfl rfl ?_
  refine sx_bipush (pc := 191) (v := 67) dX6_lends_191 (by decide) ?_
  refine sx_aload_n (pc := 193) dX6_lends_193 rfl rfl ?_
  refine sx_geti (pc := 194) (ci := 6) (j := 27) dX6_lends_194 rfl s_Mo rfl (by decide) lf_X6_110 ?_
  rw [hit_μ2]
  refine sx_aload_n (pc := 197) dX6_lends_197 rfl rfl ?_
  refine sx_geti (pc := 198) (ci := 6) (j := 26) dX6_lends_198 rfl s_Mo rfl (by decide) lf_X6_104 ?_
  rw [hpn_μ2]
  refine sx_callV (pc := 201) (As := [.int dv, .int n, .int 67, .int (nI i), .int (nI p)]) dX6_lends_201 (c_enter X Ex hE μ2 _ _ _ _ _ k hk2 hk_μ2) mX6_enter lm_X6_155 rfl s_Mo rfl ⟨Nat.le_of_ble_eq_true rfl, Nat.le_of_ble_eq_true rfl⟩ ⟨Nat.le_of_ble_eq_true rfl, Nat.le_of_ble_eq_true rfl⟩ (Nat.le_of_ble_eq_true rfl) hE (fun r_201 sh1 μ3 h_201 => ?_)
  obtain ⟨rfl, rfl, k_201, e_201, t_201⟩ := h_201
  have hit_μ3 : μ3 95 27 = nI i := (k_201.2 27 (by decide)).trans hit_μ2
  have hpn_μ3 : μ3 95 26 = nI p := (k_201.2 26 (by decide)).trans hpn_μ2
  have hvv_μ3 : μ3 95 29 = vv := (k_201.2 29 (by decide)).trans hvv_μ2
  exact l_lend_tail2 hE hi hp hk2 hit_μ3 hpn_μ3 hvv_μ3 (Hm.en (Hm.put (Hm.put hC hμ1 (by omega)) hμ2 (by omega)) k_201) (by rw [t_201, ← hT, ← hT0]; congr 1; rw [hμ2, hμ1, (nI_clamp (n := i) (by omega))]; rfl) _ _
theorem sft_step {μ μ1 μ2 : xM} {i j : Nat} (hS : ∀ b, μ 114 b = if 30 * i ≤ b ∧ b < 30 * i + j then μ1 114 (b + 1) else μ1 114 b) (e : μ2 = xup μ 114 (30 * i + j) (μ 114 (30 * i + j + 1))) : ∀ b, μ2 114 b = if 30 * i ≤ b ∧ b < 30 * i + (j + 1) then μ1 114 (b + 1) else μ1 114 b := by
  intro b
  rw [e, xup_at]
  by_cases hb : b = 30 * i + j
  · rw [if_pos ⟨rfl, hb⟩, if_pos (by omega), hS, if_neg (by omega), hb]
  · rw [if_neg (fun z => hb z.2), hS]
    by_cases h2 : 30 * i ≤ b ∧ b < 30 * i + j
    · rw [if_pos h2, if_pos (by omega)]
    · rw [if_neg h2, if_neg (by omega)]
set_option maxHeartbeats 1000000 in
set_option maxRecDepth 20000 in
theorem l_shift {X : xD} {Ex : State → Prop} {l : Launch} {dv n f : Int32} {Z : List Frame → Array Value → State → State → Prop} {i q : Nat} (hi : i < 30) (hq : q + 1 ≤ 30) {μ1 : xM} (hZ : ∀ (μ : xM) (o : Int32), (∀ a, a ≠ 114 → μ a = μ1 a) → (∀ b, μ 114 b = if 30 * i ≤ b ∧ b < 30 * i + q then μ1 114 (b + 1) else μ1 114 b) → sx l (rmN 1) X Ex false kX6_lends shA.length Z 163 [some (.ref (X.2 + 95)), some (.int dv), some (.int n), some (.int f), some (.int o)] [] shA μ 0 0) : ∀ (t j : Nat) (μ : xM), q - j ≤ t → j ≤ q → μ 95 27 = nI i → μ 113 (nI i).toNatClampNeg = nI q → (∀ a, a ≠ 114 → μ a = μ1 a) → (∀ b, μ 114 b = if 30 * i ≤ b ∧ b < 30 * i + j then μ1 114 (b + 1) else μ1 114 b) → sx l (rmN 1) X Ex false kX6_lends shA.length Z 111 [some (.ref (X.2 + 95)), some (.int dv), some (.int n), some (.int f), some (.int (nI j))] [] shA μ 0 0 := by
  intro t
  induction t with
  | zero =>
    intro j μ htt hj hit hw hO hS
    refine sx_iload (pc := 111) dX6_lends_111 rfl ?_
    refine sx_aload_n (pc := 113) dX6_lends_113 rfl rfl ?_
    refine sx_getr (pc := 114) (ci := 6) (j := 18) (r := 113) dX6_lends_114 rfl s_Mo rfl (by decide) lf_X6_63 ?_
    refine sx_aload_n (pc := 117) dX6_lends_117 rfl rfl ?_
    refine sx_geti (pc := 118) (ci := 6) (j := 27) dX6_lends_118 rfl s_Mo rfl (by decide) lf_X6_110 ?_
    rw [hit]
    refine sx_iald (pc := 121) dX6_lends_121 s_M18 (by decide) rfl (vp_in_nI (by omega) (by decide)) ?_
    rw [hw]
    refine sx_icmp_ge (pc := 122) (tgt := 163) dX6_lends_122 (by decide) (fun c_122 => ?_) (fun c_122 => absurd (nI_le (by omega) (by omega)) c_122)
    exact hZ _ _ hO (by rw [show q = j by omega]; exact hS)
  | succ t ih =>
    intro j μ htt hj hit hw hO hS
    refine sx_iload (pc := 111) dX6_lends_111 rfl ?_
    refine sx_aload_n (pc := 113) dX6_lends_113 rfl rfl ?_
    refine sx_getr (pc := 114) (ci := 6) (j := 18) (r := 113) dX6_lends_114 rfl s_Mo rfl (by decide) lf_X6_63 ?_
    refine sx_aload_n (pc := 117) dX6_lends_117 rfl rfl ?_
    refine sx_geti (pc := 118) (ci := 6) (j := 27) dX6_lends_118 rfl s_Mo rfl (by decide) lf_X6_110 ?_
    rw [hit]
    refine sx_iald (pc := 121) dX6_lends_121 s_M18 (by decide) rfl (vp_in_nI (by omega) (by decide)) ?_
    rw [hw]
    refine sx_icmp_ge (pc := 122) (tgt := 163) dX6_lends_122 (by decide) (fun c_122 => ?_) (fun c_122 => ?_)
    · have h_122t := c_122
      exact hZ _ _ hO (by rw [show q = j from by have hge : q ≤ j := Nat.le_of_not_lt (fun z => absurd (nI_lt z (by omega)) (Int32.not_lt.mpr h_122t)); omega]; exact hS)
    · have h_122f := c_122
      have hlt : j < q := Nat.lt_of_not_le fun z => h_122f (nI_le z (by omega))
      refine sx_aload_n (pc := 125) dX6_lends_125 rfl rfl ?_
      refine sx_getr (pc := 126) (ci := 6) (j := 19) (r := 114) dX6_lends_126 rfl s_Mo rfl (by decide) lf_X6_66 ?_
      refine sx_bipush (pc := 129) (v := 30) dX6_lends_129 (by decide) ?_
      refine sx_aload_n (pc := 131) dX6_lends_131 rfl rfl ?_
      refine sx_geti (pc := 132) (ci := 6) (j := 27) dX6_lends_132 rfl s_Mo rfl (by decide) lf_X6_110 ?_
      rw [hit]
      refine sx_imul (pc := 135) dX6_lends_135 ?_
      rw [show (30 : Int32) = nI 30 from rfl, pk_mul]
      refine sx_iload (pc := 136) dX6_lends_136 rfl ?_
      refine sx_iadd (pc := 138) dX6_lends_138 ?_
      rw [nI_add]
      refine sx_aload_n (pc := 139) dX6_lends_139 rfl rfl ?_
      refine sx_getr (pc := 140) (ci := 6) (j := 19) (r := 114) dX6_lends_140 rfl s_Mo rfl (by decide) lf_X6_66 ?_
      refine sx_bipush (pc := 143) (v := 30) dX6_lends_143 (by decide) ?_
      refine sx_aload_n (pc := 145) dX6_lends_145 rfl rfl ?_
      refine sx_geti (pc := 146) (ci := 6) (j := 27) dX6_lends_146 rfl s_Mo rfl (by decide) lf_X6_110 ?_
      rw [hit]
      refine sx_imul (pc := 149) dX6_lends_149 ?_
      rw [show (30 : Int32) = nI 30 from rfl, pk_mul]
      refine sx_iload (pc := 150) dX6_lends_150 rfl ?_
      refine sx_iadd (pc := 152) dX6_lends_152 ?_
      rw [nI_add]
      refine sx_iconst (pc := 153) (v := 1) dX6_lends_153 (by decide) ?_
      refine sx_iadd (pc := 154) dX6_lends_154 ?_
      rw [nI_1]
      refine sx_iald (pc := 155) dX6_lends_155 s_M19 (by decide) rfl (vp_in_nI (by omega) (by decide)) ?_
      rw [nI_clamp (n := 30 * i + j + 1) (by omega)]
      refine sx_iast (pc := 156) dX6_lends_156 s_M19 (by decide) rfl (vp_in_nI (by omega) (by decide)) (fun μ1 hμ1 => ?_)
      rw [nI_clamp (n := 30 * i + j) (by omega)] at hμ1
      have hit_μ1 : μ1 95 27 = nI i := by rw [hμ1, xup_at, if_neg (by omega)]; exact hit
      have hw_μ1 : μ1 113 ((nI i).toNatClampNeg) = nI q := by rw [hμ1, xup_at, if_neg (by omega)]; exact hw
      refine sx_iinc (pc := 157) (v := nI (j + 1)) (L' := [some (.ref (X.2 + 95)), some (.int dv), some (.int n), some (.int f), some (.int (nI (j + 1)))]) dX6_lends_157 rfl (nI_1 j) (by decide) rfl ?_
      refine sx_goto (pc := 160) (tgt := 111) dX6_lends_160 (by decide) ?_
      exact ih (j + 1) _ (by omega) (by omega) hit_μ1 hw_μ1 (fun a ha => by rw [hμ1, ← hO a ha]; funext b; rw [xup_at, if_neg (fun z => ha z.1)]) (sft_step hS hμ1)
theorem tc0 {μ : xM} {i p : Nat} (hq : μ 113 i = 0) : (μ 110, upd (μ 111) i (nI p + 1), upd (μ 112) i 0, μ 113, μ 114, μ 95 20, μ 115) = tC (hvw μ) i p := by
  unfold tC
  rw [if_pos (show vW (hvw μ) i = 0 from hq), if_pos (show vW (hvw μ) i = 0 from hq)]
  rfl
theorem tc1 {μ μ1 μ9 : xM} {i p q : Nat} (hq : 1 ≤ q) (hq30 : q ≤ 30) (hw : μ 113 i = nI q) (e1 : μ1 = xup μ 113 i (nI (q - 1))) (h9 : ∀ a, a ≠ 114 → μ9 a = μ1 a) (s9 : ∀ b, μ9 114 b = if 30 * i ≤ b ∧ b < 30 * i + (q - 1) then μ1 114 (b + 1) else μ1 114 b) : (μ9 110, upd (μ9 111) i (nI p + 1), upd (μ9 112) i 0, μ9 113, μ9 114, μ9 95 20, μ9 115) = tC (hvw μ) i p := by
  have hn : ¬ vW (hvw μ) i = 0 := fun z => by
    have z : μ 113 i = 0 := z
    rw [hw, show (0 : Int32) = nI 0 from rfl, nI_eq (by omega) (by decide)] at z
    omega
  unfold tC
  rw [if_neg hn, if_neg hn]
  have e14 : μ9 114 = shf (μ 114) i (q - 1) := by
    funext b
    rw [s9, e1]
    rfl
  have e13 : μ9 113 = upd (μ 113) i (μ 113 i - 1) := by
    rw [h9 113 (by decide), e1, hw, show (1 : Int32) = nI 1 from rfl, pk_sub hq]
    rfl
  have ec : (vW (hvw μ) i).toNatClampNeg = q := by
    show (μ 113 i).toNatClampNeg = q
    rw [hw, nI_clamp (by omega)]
  rw [ec, e14, e13, h9 110 (by decide), h9 111 (by decide), h9 112 (by decide), h9 95 (by decide), h9 115 (by decide), e1]
  rfl
set_option maxHeartbeats 1000000 in
set_option maxRecDepth 20000 in
theorem l_lend_yes {X : xD} {Ex : State → Prop} (hE : xEs X false shA.length Ex) {l : Launch} {dv n : Int32} {i p k : Nat} (hi : i < 30) (hp : p < 30) (hk2 : k < 2 ^ 20) {μ0 μ : xM} {T : HT} {vv : Int32} (hit : μ 95 27 = nI i) (hpn : μ 95 26 = nI p) (hvv : μ 95 29 = vv) (hk : μ 95 20 = nI k) (hC : Hm μ0 μ) {q : Nat} (hq : q ≤ 30) (hw0 : μ 113 i = nI q) (hT : ent (tC (hvw μ) i p) dv n 67 (nI i) (nI p) = T) (f : Int32) : sx l (rmN 1) X Ex false kX6_lends shA.length (xZ X false shA.length (fun r sh' μ' => shA = sh' ∧ Hm μ0 μ' ∧ hvw μ' = T ∧ μ' 95 29 = vv ∧ ∃ x : Int32, r = some (.int x) ∧ 0 ≤ x) 0 0) 83 [some (.ref (X.2 + 95)), some (.int dv), some (.int n), some (.int f), none] [] shA μ 0 0 := by
  have hw : μ 113 (nI i).toNatClampNeg = nI q := by rw [nI_clamp (n := i) (by omega)]; exact hw0
  refine sx_aload_n (pc := 83) dX6_lends_83 rfl rfl ?_
  refine sx_getr (pc := 84) (ci := 6) (j := 18) (r := 113) dX6_lends_84 rfl s_Mo rfl (by decide) lf_X6_63 ?_
  refine sx_aload_n (pc := 87) dX6_lends_87 rfl rfl ?_
  refine sx_geti (pc := 88) (ci := 6) (j := 27) dX6_lends_88 rfl s_Mo rfl (by decide) lf_X6_110 ?_
  rw [hit]
  refine sx_iald (pc := 91) dX6_lends_91 s_M18 (by decide) rfl (vp_in_nI (by omega) (by decide)) ?_
  rw [hw]
  refine sx_if_le (pc := 92) (tgt := 163) dX6_lends_92 (by decide) (fun c_92 => ?_) (fun c_92 => ?_)
  · have h_92t := c_92
    have hq0 : q = 0 := Nat.le_zero.mp (Nat.le_of_not_lt fun z => absurd h_92t (Int32.not_le.mpr (nI_lt (a := 0) z (by omega))))
    exact l_lend_fin hE hi hp hk2 hit hpn hvv hk hC (tc0 (by rw [hw0, hq0]; rfl)) hT _
  · have h_92f := c_92
    have hq1 : 1 ≤ q := Nat.pos_of_ne_zero fun z => h_92f (by rw [z]; decide)
    refine sx_aload_n (pc := 95) dX6_lends_95 rfl rfl ?_
    refine sx_getr (pc := 96) (ci := 6) (j := 18) (r := 113) dX6_lends_96 rfl s_Mo rfl (by decide) lf_X6_63 ?_
    refine sx_aload_n (pc := 99) dX6_lends_99 rfl rfl ?_
    refine sx_geti (pc := 100) (ci := 6) (j := 27) dX6_lends_100 rfl s_Mo rfl (by decide) lf_X6_110 ?_
    rw [hit]
    refine sx_dup2 (pc := 103) dX6_lends_103 rfl rfl ?_
    refine sx_iald (pc := 104) dX6_lends_104 s_M18 (by decide) rfl (vp_in_nI (by omega) (by decide)) ?_
    rw [hw]
    refine sx_iconst (pc := 105) (v := 1) dX6_lends_105 (by decide) ?_
    refine sx_isub (pc := 106) dX6_lends_106 ?_
    rw [show (1 : Int32) = nI 1 from rfl, pk_sub hq1]
    refine sx_iast (pc := 107) dX6_lends_107 s_M18 (by decide) rfl (vp_in_nI (by omega) (by decide)) (fun μ1 hμ1 => ?_)
    have hit_μ1 : μ1 95 27 = nI i := by rw [hμ1, xup_at, if_neg (by omega)]; exact hit
    have hpn_μ1 : μ1 95 26 = nI p := by rw [hμ1, xup_at, if_neg (by omega)]; exact hpn
    have hvv_μ1 : μ1 95 29 = vv := by rw [hμ1, xup_at, if_neg (by omega)]; exact hvv
    have hk_μ1 : μ1 95 20 = nI k := by rw [hμ1, xup_at, if_neg (by omega)]; exact hk
    have hw_μ1 : μ1 113 ((nI i).toNatClampNeg) = nI (q - 1) := by rw [hμ1, xup_at, if_pos ⟨rfl, rfl⟩]
    refine sx_iconst (pc := 108) (v := 0) dX6_lends_108 (by decide) ?_
    refine sx_istore (pc := 109) (L' := [some (.ref (X.2 + 95)), some (.int dv), some (.int n), some (.int f), some (.int 0)]) dX6_lends_109 (by decide) rfl ?_
    refine l_shift hi (q := q - 1) (by omega) (fun μ9 o h9 s9 => ?_) 30 0 _ (by omega) (Nat.zero_le _) hit_μ1 hw_μ1 (fun _ _ => rfl) (fun b => by rw [if_neg (by omega)])
    have c9 : ∀ a, a ≠ 113 → a ≠ 114 → μ9 a = μ a := fun a a3 a4 => by rw [h9 a a4, hμ1]; funext b; rw [xup_at, if_neg (fun z => a3 z.1)]
    exact l_lend_fin2 hE hi hp hk2 (by rw [c9 95 (by decide) (by decide)]; exact hit) (by rw [c9 95 (by decide) (by decide)]; exact hpn) (by rw [c9 95 (by decide) (by decide)]; exact hvv) (by rw [c9 95 (by decide) (by decide)]; exact hk) ⟨fun a a1 a2 => by rw [c9 a (by omega) (by omega)]; exact hC.1 a a1 a2, fun j j1 j2 => by rw [c9 95 (by decide) (by decide)]; exact hC.2 j j1 j2⟩ (tc1 hq1 hq hw0 (by rw [(nI_clamp (n := i) (by omega))] at hμ1; exact hμ1) h9 s9) hT _ _
set_option maxHeartbeats 1000000 in
set_option maxRecDepth 20000 in
theorem c_lends (X : xD) (Ex : State → Prop) (hE : xEs X false shA.length Ex) (μ : xM) (dv n : Int32) (i p k : Nat) (hi : i < 30) (hp : p < 30) (hk2 : k < 2 ^ 20) (hit : μ 95 27 = nI i) (hpn : μ 95 26 = nI p) (hk : μ 95 20 = nI k) {q : Nat} (hq : q ≤ 30) (hw0 : μ 113 i = nI q) : Ct X Ex false yX6_lends kX6_lends (rmN 1) [.ref (X.2 + 95), .int dv, .int n] shA μ (fun r sh' μ' => shA = sh' ∧ Hm μ μ' ∧ hvw μ' = sC (hvw μ) dv n i p ∧ μ' 95 29 = (if oC (hvw μ) i p then 1 else 0) ∧ ∃ x : Int32, r = some (.int x) ∧ 0 ≤ x) := by
  refine Ct.of (L0 := [some (.ref (X.2 + 95)), some (.int dv), some (.int n), none, none]) (by decide) rfl (fun h => by cases h) (by simp [Value.category]) (Nat.le_of_ble_eq_true rfl) rfl (fun l => ?_)
  have hw : μ 113 (nI i).toNatClampNeg = nI q := by rw [nI_clamp (n := i) (by omega)]; exact hw0
  have e111 : μ 111 (nI i).toNatClampNeg = vL (hvw μ) i := by rw [nI_clamp (n := i) (by omega)]; rfl
  have e110 : μ 110 (nI p).toNatClampNeg = vO (hvw μ) p := by rw [nI_clamp (n := p) (by omega)]; rfl
  have e114 : μ 114 (nI (30 * i)).toNatClampNeg = vQ (hvw μ) (30 * i) := by rw [nI_clamp (n := 30 * i) (by omega)]; rfl
  refine sx_aload_n (pc := 0) dX6_lends_0 rfl rfl ?_
  refine sx_getr (pc := 1) (ci := 6) (j := 18) (r := 113) dX6_lends_1 rfl s_Mo rfl (by decide) lf_X6_63 ?_
  refine sx_aload_n (pc := 4) dX6_lends_4 rfl rfl ?_
  refine sx_geti (pc := 5) (ci := 6) (j := 27) dX6_lends_5 rfl s_Mo rfl (by decide) lf_X6_110 ?_
  rw [hit]
  refine sx_iald (pc := 8) dX6_lends_8 s_M18 (by decide) rfl (vp_in_nI (by omega) (by decide)) ?_
  rw [hw]
  refine sx_if_ne (pc := 9) (tgt := 19) dX6_lends_9 (by decide) (fun c_9 => ?_) (fun c_9 => ?_)
  · have h_9t := c_9
    refine sx_aload_n (pc := 19) dX6_lends_19 rfl rfl ?_
    refine sx_getr (pc := 20) (ci := 6) (j := 19) (r := 114) dX6_lends_20 rfl s_Mo rfl (by decide) lf_X6_66 ?_
    refine sx_bipush (pc := 23) (v := 30) dX6_lends_23 (by decide) ?_
    refine sx_aload_n (pc := 25) dX6_lends_25 rfl rfl ?_
    refine sx_geti (pc := 26) (ci := 6) (j := 27) dX6_lends_26 rfl s_Mo rfl (by decide) lf_X6_110 ?_
    rw [hit]
    refine sx_imul (pc := 29) dX6_lends_29 ?_
    rw [show (30 : Int32) = nI 30 from rfl, pk_mul]
    refine sx_iald (pc := 30) dX6_lends_30 s_M19 (by decide) rfl (vp_in_nI (by omega) (by decide)) ?_
    refine sx_istore_n (pc := 31) (L' := [some (.ref (X.2 + 95)), some (.int dv), some (.int n), some (.int (μ 114 (nI (30 * i)).toNatClampNeg)), none]) dX6_lends_31 rfl (by decide) rfl ?_
    refine sx_aload_n (pc := 32) dX6_lends_32 rfl rfl ?_
    refine sx_aload_n (pc := 33) dX6_lends_33 rfl rfl ?_
    refine sx_getr (pc := 34) (ci := 6) (j := 16) (r := 111) dX6_lends_34 rfl s_Mo rfl (by decide) lf_X6_57 ?_
    refine sx_aload_n (pc := 37) dX6_lends_37 rfl rfl ?_
    refine sx_geti (pc := 38) (ci := 6) (j := 27) dX6_lends_38 rfl s_Mo rfl (by decide) lf_X6_110 ?_
    rw [hit]
    refine sx_iald (pc := 41) dX6_lends_41 s_M16 (by decide) rfl (vp_in_nI (by omega) (by decide)) ?_
    refine sx_if_ne (pc := 42) (tgt := 72) dX6_lends_42 (by decide) (fun c_42 => ?_) (fun c_42 => ?_)
    · have h_42t := c_42
      refine sx_iconst (pc := 72) (v := 0) dX6_lends_72 (by decide) ?_
      refine sx_puti (pc := 73) (ci := 6) (j := 29) (ty := .boolean) dX6_lends_73 rfl s_Mo rfl (by decide) lf_X6_148 rfl (by decide +kernel) rfl rfl (fun μ1 hμ1 => ?_)
      have hit_μ1 : μ1 95 27 = nI i := by rw [hμ1, xup_at, if_neg (by omega)]; exact hit
      have hpn_μ1 : μ1 95 26 = nI p := by rw [hμ1, xup_at, if_neg (by omega)]; exact hpn
      have hk_μ1 : μ1 95 20 = nI k := by rw [hμ1, xup_at, if_neg (by omega)]; exact hk
      have hw_μ1 : μ1 113 ((nI i).toNatClampNeg) = nI q := by rw [hμ1, xup_at, if_neg (by omega)]; exact hw
      have hv_μ1 : μ1 95 29 = 0 := by rw [hμ1, xup_at, if_pos ⟨rfl, rfl⟩]
      refine sx_aload_n (pc := 76) dX6_lends_76 rfl rfl ?_
      refine sx_geti (pc := 77) (ci := 6) (j := 29) dX6_lends_77 rfl s_Mo rfl (by decide) lf_X6_148 ?_
      rw [hv_μ1]
      refine sx_if_eq (pc := 80) (tgt := 204) dX6_lends_80 (by decide) (fun c_80 => ?_) (fun c_80 => absurd c_80 (by decide))
      have hy : ¬ oC (hvw μ) i p := (fun z : oC (hvw μ) i p => by first | exact h_42t (by rw [e111]; exact z.1) | exact absurd h_65t (Int32.not_lt.mpr (by rw [e110]; exact z.2.2)) | exact z.2.1.elim (fun w => absurd (show nI q = 0 by rw [← hw0]; exact w) h_9t) (fun w => h_50t (by rw [e114]; exact w)) | exact h_50t rfl)
      exact l_lend_tail hE hi hp hk2 hit_μ1 hpn_μ1 (hv_μ1.trans (if_neg hy).symm) (Hm.put Hm.rf hμ1 (by omega)) (by rw [(hvw_eq (μ := μ) (μ' := μ1) (fun a a1 a2 => by rw [hμ1]; funext b; rw [xup_at, if_neg (by omega)]) (by rw [hμ1, xup_at, if_neg (by omega)])), sC, if_neg hy]) _
    · have h_42f := c_42
      refine sx_iload_n (pc := 45) dX6_lends_45 rfl rfl ?_
      refine sx_aload_n (pc := 46) dX6_lends_46 rfl rfl ?_
      refine sx_geti (pc := 47) (ci := 6) (j := 26) dX6_lends_47 rfl s_Mo rfl (by decide) lf_X6_104 ?_
      rw [hpn]
      refine sx_icmp_ne (pc := 50) (tgt := 72) dX6_lends_50 (by decide) (fun c_50 => ?_) (fun c_50 => ?_)
      · have h_50t := c_50
        refine sx_iconst (pc := 72) (v := 0) dX6_lends_72 (by decide) ?_
        refine sx_puti (pc := 73) (ci := 6) (j := 29) (ty := .boolean) dX6_lends_73 rfl s_Mo rfl (by decide) lf_X6_148 rfl (by decide +kernel) rfl rfl (fun μ2 hμ2 => ?_)
        have hit_μ2 : μ2 95 27 = nI i := by rw [hμ2, xup_at, if_neg (by omega)]; exact hit
        have hpn_μ2 : μ2 95 26 = nI p := by rw [hμ2, xup_at, if_neg (by omega)]; exact hpn
        have hk_μ2 : μ2 95 20 = nI k := by rw [hμ2, xup_at, if_neg (by omega)]; exact hk
        have hw_μ2 : μ2 113 ((nI i).toNatClampNeg) = nI q := by rw [hμ2, xup_at, if_neg (by omega)]; exact hw
        have hv_μ2 : μ2 95 29 = 0 := by rw [hμ2, xup_at, if_pos ⟨rfl, rfl⟩]
        refine sx_aload_n (pc := 76) dX6_lends_76 rfl rfl ?_
        refine sx_geti (pc := 77) (ci := 6) (j := 29) dX6_lends_77 rfl s_Mo rfl (by decide) lf_X6_148 ?_
        rw [hv_μ2]
        refine sx_if_eq (pc := 80) (tgt := 204) dX6_lends_80 (by decide) (fun c_80 => ?_) (fun c_80 => absurd c_80 (by decide))
        have hy : ¬ oC (hvw μ) i p := (fun z : oC (hvw μ) i p => by first | exact h_42t (by rw [e111]; exact z.1) | exact absurd h_65t (Int32.not_lt.mpr (by rw [e110]; exact z.2.2)) | exact z.2.1.elim (fun w => absurd (show nI q = 0 by rw [← hw0]; exact w) h_9t) (fun w => h_50t (by rw [e114]; exact w)) | exact h_50t rfl)
        exact l_lend_tail hE hi hp hk2 hit_μ2 hpn_μ2 (hv_μ2.trans (if_neg hy).symm) (Hm.put Hm.rf hμ2 (by omega)) (by rw [(hvw_eq (μ := μ) (μ' := μ2) (fun a a1 a2 => by rw [hμ2]; funext b; rw [xup_at, if_neg (by omega)]) (by rw [hμ2, xup_at, if_neg (by omega)])), sC, if_neg hy]) _
      · have h_50f := c_50
        refine sx_aload_n (pc := 53) dX6_lends_53 rfl rfl ?_
        refine sx_getr (pc := 54) (ci := 6) (j := 15) (r := 110) dX6_lends_54 rfl s_Mo rfl (by decide) lf_X6_54 ?_
        refine sx_aload_n (pc := 57) dX6_lends_57 rfl rfl ?_
        refine sx_geti (pc := 58) (ci := 6) (j := 26) dX6_lends_58 rfl s_Mo rfl (by decide) lf_X6_104 ?_
        rw [hpn]
        refine sx_iald (pc := 61) dX6_lends_61 s_M15 (by decide) rfl (vp_in_nI (by omega) (by decide)) ?_
        refine sx_sipush (pc := 62) (v := 500) dX6_lends_62 (by decide) ?_
        refine sx_icmp_gt (pc := 65) (tgt := 72) dX6_lends_65 (by decide) (fun c_65 => ?_) (fun c_65 => ?_)
        · have h_65t := c_65
          refine sx_iconst (pc := 72) (v := 0) dX6_lends_72 (by decide) ?_
          refine sx_puti (pc := 73) (ci := 6) (j := 29) (ty := .boolean) dX6_lends_73 rfl s_Mo rfl (by decide) lf_X6_148 rfl (by decide +kernel) rfl rfl (fun μ3 hμ3 => ?_)
          have hit_μ3 : μ3 95 27 = nI i := by rw [hμ3, xup_at, if_neg (by omega)]; exact hit
          have hpn_μ3 : μ3 95 26 = nI p := by rw [hμ3, xup_at, if_neg (by omega)]; exact hpn
          have hk_μ3 : μ3 95 20 = nI k := by rw [hμ3, xup_at, if_neg (by omega)]; exact hk
          have hw_μ3 : μ3 113 ((nI i).toNatClampNeg) = nI q := by rw [hμ3, xup_at, if_neg (by omega)]; exact hw
          have hv_μ3 : μ3 95 29 = 0 := by rw [hμ3, xup_at, if_pos ⟨rfl, rfl⟩]
          refine sx_aload_n (pc := 76) dX6_lends_76 rfl rfl ?_
          refine sx_geti (pc := 77) (ci := 6) (j := 29) dX6_lends_77 rfl s_Mo rfl (by decide) lf_X6_148 ?_
          rw [hv_μ3]
          refine sx_if_eq (pc := 80) (tgt := 204) dX6_lends_80 (by decide) (fun c_80 => ?_) (fun c_80 => absurd c_80 (by decide))
          have hy : ¬ oC (hvw μ) i p := (fun z : oC (hvw μ) i p => by first | exact h_42t (by rw [e111]; exact z.1) | exact absurd h_65t (Int32.not_lt.mpr (by rw [e110]; exact z.2.2)) | exact z.2.1.elim (fun w => absurd (show nI q = 0 by rw [← hw0]; exact w) h_9t) (fun w => h_50t (by rw [e114]; exact w)) | exact h_50t rfl)
          exact l_lend_tail hE hi hp hk2 hit_μ3 hpn_μ3 (hv_μ3.trans (if_neg hy).symm) (Hm.put Hm.rf hμ3 (by omega)) (by rw [(hvw_eq (μ := μ) (μ' := μ3) (fun a a1 a2 => by rw [hμ3]; funext b; rw [xup_at, if_neg (by omega)]) (by rw [hμ3, xup_at, if_neg (by omega)])), sC, if_neg hy]) _
        · have h_65f := c_65
          refine sx_iconst (pc := 68) (v := 1) dX6_lends_68 (by decide) ?_
          refine sx_goto (pc := 69) (tgt := 73) dX6_lends_69 (by decide) ?_
          refine sx_puti (pc := 73) (ci := 6) (j := 29) (ty := .boolean) dX6_lends_73 rfl s_Mo rfl (by decide) lf_X6_148 rfl (by decide +kernel) rfl rfl (fun μ4 hμ4 => ?_)
          have hit_μ4 : μ4 95 27 = nI i := by rw [hμ4, xup_at, if_neg (by omega)]; exact hit
          have hpn_μ4 : μ4 95 26 = nI p := by rw [hμ4, xup_at, if_neg (by omega)]; exact hpn
          have hk_μ4 : μ4 95 20 = nI k := by rw [hμ4, xup_at, if_neg (by omega)]; exact hk
          have hw_μ4 : μ4 113 ((nI i).toNatClampNeg) = nI q := by rw [hμ4, xup_at, if_neg (by omega)]; exact hw
          have hv_μ4 : μ4 95 29 = 1 := by rw [hμ4, xup_at, if_pos ⟨rfl, rfl⟩]
          refine sx_aload_n (pc := 76) dX6_lends_76 rfl rfl ?_
          refine sx_geti (pc := 77) (ci := 6) (j := 29) dX6_lends_77 rfl s_Mo rfl (by decide) lf_X6_148 ?_
          rw [hv_μ4]
          refine sx_if_eq (pc := 80) (tgt := 204) dX6_lends_80 (by decide) (fun c_80 => absurd c_80 (by decide)) (fun c_80 => ?_)
          have hy : oC (hvw μ) i p := (⟨by rw [← e111]; exact h_42f, by first | exact Or.inl (by rw [show vW (hvw μ) i = μ 113 i from rfl, hw0]; exact h_9f) | exact Or.inr (by rw [← e114]; exact h_50f), by rw [← e110]; exact Int32.not_lt.mp h_65f⟩ : oC (hvw μ) i p)
          exact l_lend_yes hE hi hp hk2 hit_μ4 hpn_μ4 (hv_μ4.trans (if_pos hy).symm) hk_μ4 (Hm.put Hm.rf hμ4 (by omega)) hq (by rw [hμ4, xup_at, if_neg (by omega)]; exact hw0) (by rw [(hvw_eq (μ := μ) (μ' := μ4) (fun a a1 a2 => by rw [hμ4]; funext b; rw [xup_at, if_neg (by omega)]) (by rw [hμ4, xup_at, if_neg (by omega)])), sC, if_pos hy]) _
  · have h_9f := c_9
    refine sx_aload_n (pc := 12) dX6_lends_12 rfl rfl ?_
    refine sx_geti (pc := 13) (ci := 6) (j := 26) dX6_lends_13 rfl s_Mo rfl (by decide) lf_X6_104 ?_
    rw [hpn]
    refine sx_goto (pc := 16) (tgt := 31) dX6_lends_16 (by decide) ?_
    refine sx_istore_n (pc := 31) (L' := [some (.ref (X.2 + 95)), some (.int dv), some (.int n), some (.int (nI p)), none]) dX6_lends_31 rfl (by decide) rfl ?_
    refine sx_aload_n (pc := 32) dX6_lends_32 rfl rfl ?_
    refine sx_aload_n (pc := 33) dX6_lends_33 rfl rfl ?_
    refine sx_getr (pc := 34) (ci := 6) (j := 16) (r := 111) dX6_lends_34 rfl s_Mo rfl (by decide) lf_X6_57 ?_
    refine sx_aload_n (pc := 37) dX6_lends_37 rfl rfl ?_
    refine sx_geti (pc := 38) (ci := 6) (j := 27) dX6_lends_38 rfl s_Mo rfl (by decide) lf_X6_110 ?_
    rw [hit]
    refine sx_iald (pc := 41) dX6_lends_41 s_M16 (by decide) rfl (vp_in_nI (by omega) (by decide)) ?_
    refine sx_if_ne (pc := 42) (tgt := 72) dX6_lends_42 (by decide) (fun c_42 => ?_) (fun c_42 => ?_)
    · have h_42t := c_42
      refine sx_iconst (pc := 72) (v := 0) dX6_lends_72 (by decide) ?_
      refine sx_puti (pc := 73) (ci := 6) (j := 29) (ty := .boolean) dX6_lends_73 rfl s_Mo rfl (by decide) lf_X6_148 rfl (by decide +kernel) rfl rfl (fun μ5 hμ5 => ?_)
      have hit_μ5 : μ5 95 27 = nI i := by rw [hμ5, xup_at, if_neg (by omega)]; exact hit
      have hpn_μ5 : μ5 95 26 = nI p := by rw [hμ5, xup_at, if_neg (by omega)]; exact hpn
      have hk_μ5 : μ5 95 20 = nI k := by rw [hμ5, xup_at, if_neg (by omega)]; exact hk
      have hw_μ5 : μ5 113 ((nI i).toNatClampNeg) = nI q := by rw [hμ5, xup_at, if_neg (by omega)]; exact hw
      have hv_μ5 : μ5 95 29 = 0 := by rw [hμ5, xup_at, if_pos ⟨rfl, rfl⟩]
      refine sx_aload_n (pc := 76) dX6_lends_76 rfl rfl ?_
      refine sx_geti (pc := 77) (ci := 6) (j := 29) dX6_lends_77 rfl s_Mo rfl (by decide) lf_X6_148 ?_
      rw [hv_μ5]
      refine sx_if_eq (pc := 80) (tgt := 204) dX6_lends_80 (by decide) (fun c_80 => ?_) (fun c_80 => absurd c_80 (by decide))
      have hy : ¬ oC (hvw μ) i p := (fun z : oC (hvw μ) i p => by first | exact h_42t (by rw [e111]; exact z.1) | exact absurd h_65t (Int32.not_lt.mpr (by rw [e110]; exact z.2.2)) | exact z.2.1.elim (fun w => absurd (show nI q = 0 by rw [← hw0]; exact w) h_9t) (fun w => h_50t (by rw [e114]; exact w)) | exact h_50t rfl)
      exact l_lend_tail hE hi hp hk2 hit_μ5 hpn_μ5 (hv_μ5.trans (if_neg hy).symm) (Hm.put Hm.rf hμ5 (by omega)) (by rw [(hvw_eq (μ := μ) (μ' := μ5) (fun a a1 a2 => by rw [hμ5]; funext b; rw [xup_at, if_neg (by omega)]) (by rw [hμ5, xup_at, if_neg (by omega)])), sC, if_neg hy]) _
    · have h_42f := c_42
      refine sx_iload_n (pc := 45) dX6_lends_45 rfl rfl ?_
      refine sx_aload_n (pc := 46) dX6_lends_46 rfl rfl ?_
      refine sx_geti (pc := 47) (ci := 6) (j := 26) dX6_lends_47 rfl s_Mo rfl (by decide) lf_X6_104 ?_
      rw [hpn]
      refine sx_icmp_ne (pc := 50) (tgt := 72) dX6_lends_50 (by decide) (fun c_50 => ?_) (fun c_50 => ?_)
      · have h_50t := c_50
        refine sx_iconst (pc := 72) (v := 0) dX6_lends_72 (by decide) ?_
        refine sx_puti (pc := 73) (ci := 6) (j := 29) (ty := .boolean) dX6_lends_73 rfl s_Mo rfl (by decide) lf_X6_148 rfl (by decide +kernel) rfl rfl (fun μ6 hμ6 => ?_)
        have hit_μ6 : μ6 95 27 = nI i := by rw [hμ6, xup_at, if_neg (by omega)]; exact hit
        have hpn_μ6 : μ6 95 26 = nI p := by rw [hμ6, xup_at, if_neg (by omega)]; exact hpn
        have hk_μ6 : μ6 95 20 = nI k := by rw [hμ6, xup_at, if_neg (by omega)]; exact hk
        have hw_μ6 : μ6 113 ((nI i).toNatClampNeg) = nI q := by rw [hμ6, xup_at, if_neg (by omega)]; exact hw
        have hv_μ6 : μ6 95 29 = 0 := by rw [hμ6, xup_at, if_pos ⟨rfl, rfl⟩]
        refine sx_aload_n (pc := 76) dX6_lends_76 rfl rfl ?_
        refine sx_geti (pc := 77) (ci := 6) (j := 29) dX6_lends_77 rfl s_Mo rfl (by decide) lf_X6_148 ?_
        rw [hv_μ6]
        refine sx_if_eq (pc := 80) (tgt := 204) dX6_lends_80 (by decide) (fun c_80 => ?_) (fun c_80 => absurd c_80 (by decide))
        have hy : ¬ oC (hvw μ) i p := (fun z : oC (hvw μ) i p => by first | exact h_42t (by rw [e111]; exact z.1) | exact absurd h_65t (Int32.not_lt.mpr (by rw [e110]; exact z.2.2)) | exact z.2.1.elim (fun w => absurd (show nI q = 0 by rw [← hw0]; exact w) h_9t) (fun w => h_50t (by rw [e114]; exact w)) | exact h_50t rfl)
        exact l_lend_tail hE hi hp hk2 hit_μ6 hpn_μ6 (hv_μ6.trans (if_neg hy).symm) (Hm.put Hm.rf hμ6 (by omega)) (by rw [(hvw_eq (μ := μ) (μ' := μ6) (fun a a1 a2 => by rw [hμ6]; funext b; rw [xup_at, if_neg (by omega)]) (by rw [hμ6, xup_at, if_neg (by omega)])), sC, if_neg hy]) _
      · have h_50f := c_50
        refine sx_aload_n (pc := 53) dX6_lends_53 rfl rfl ?_
        refine sx_getr (pc := 54) (ci := 6) (j := 15) (r := 110) dX6_lends_54 rfl s_Mo rfl (by decide) lf_X6_54 ?_
        refine sx_aload_n (pc := 57) dX6_lends_57 rfl rfl ?_
        refine sx_geti (pc := 58) (ci := 6) (j := 26) dX6_lends_58 rfl s_Mo rfl (by decide) lf_X6_104 ?_
        rw [hpn]
        refine sx_iald (pc := 61) dX6_lends_61 s_M15 (by decide) rfl (vp_in_nI (by omega) (by decide)) ?_
        refine sx_sipush (pc := 62) (v := 500) dX6_lends_62 (by decide) ?_
        refine sx_icmp_gt (pc := 65) (tgt := 72) dX6_lends_65 (by decide) (fun c_65 => ?_) (fun c_65 => ?_)
        · have h_65t := c_65
          refine sx_iconst (pc := 72) (v := 0) dX6_lends_72 (by decide) ?_
          refine sx_puti (pc := 73) (ci := 6) (j := 29) (ty := .boolean) dX6_lends_73 rfl s_Mo rfl (by decide) lf_X6_148 rfl (by decide +kernel) rfl rfl (fun μ7 hμ7 => ?_)
          have hit_μ7 : μ7 95 27 = nI i := by rw [hμ7, xup_at, if_neg (by omega)]; exact hit
          have hpn_μ7 : μ7 95 26 = nI p := by rw [hμ7, xup_at, if_neg (by omega)]; exact hpn
          have hk_μ7 : μ7 95 20 = nI k := by rw [hμ7, xup_at, if_neg (by omega)]; exact hk
          have hw_μ7 : μ7 113 ((nI i).toNatClampNeg) = nI q := by rw [hμ7, xup_at, if_neg (by omega)]; exact hw
          have hv_μ7 : μ7 95 29 = 0 := by rw [hμ7, xup_at, if_pos ⟨rfl, rfl⟩]
          refine sx_aload_n (pc := 76) dX6_lends_76 rfl rfl ?_
          refine sx_geti (pc := 77) (ci := 6) (j := 29) dX6_lends_77 rfl s_Mo rfl (by decide) lf_X6_148 ?_
          rw [hv_μ7]
          refine sx_if_eq (pc := 80) (tgt := 204) dX6_lends_80 (by decide) (fun c_80 => ?_) (fun c_80 => absurd c_80 (by decide))
          have hy : ¬ oC (hvw μ) i p := (fun z : oC (hvw μ) i p => by first | exact h_42t (by rw [e111]; exact z.1) | exact absurd h_65t (Int32.not_lt.mpr (by rw [e110]; exact z.2.2)) | exact z.2.1.elim (fun w => absurd (show nI q = 0 by rw [← hw0]; exact w) h_9t) (fun w => h_50t (by rw [e114]; exact w)) | exact h_50t rfl)
          exact l_lend_tail hE hi hp hk2 hit_μ7 hpn_μ7 (hv_μ7.trans (if_neg hy).symm) (Hm.put Hm.rf hμ7 (by omega)) (by rw [(hvw_eq (μ := μ) (μ' := μ7) (fun a a1 a2 => by rw [hμ7]; funext b; rw [xup_at, if_neg (by omega)]) (by rw [hμ7, xup_at, if_neg (by omega)])), sC, if_neg hy]) _
        · have h_65f := c_65
          refine sx_iconst (pc := 68) (v := 1) dX6_lends_68 (by decide) ?_
          refine sx_goto (pc := 69) (tgt := 73) dX6_lends_69 (by decide) ?_
          refine sx_puti (pc := 73) (ci := 6) (j := 29) (ty := .boolean) dX6_lends_73 rfl s_Mo rfl (by decide) lf_X6_148 rfl (by decide +kernel) rfl rfl (fun μ8 hμ8 => ?_)
          have hit_μ8 : μ8 95 27 = nI i := by rw [hμ8, xup_at, if_neg (by omega)]; exact hit
          have hpn_μ8 : μ8 95 26 = nI p := by rw [hμ8, xup_at, if_neg (by omega)]; exact hpn
          have hk_μ8 : μ8 95 20 = nI k := by rw [hμ8, xup_at, if_neg (by omega)]; exact hk
          have hw_μ8 : μ8 113 ((nI i).toNatClampNeg) = nI q := by rw [hμ8, xup_at, if_neg (by omega)]; exact hw
          have hv_μ8 : μ8 95 29 = 1 := by rw [hμ8, xup_at, if_pos ⟨rfl, rfl⟩]
          refine sx_aload_n (pc := 76) dX6_lends_76 rfl rfl ?_
          refine sx_geti (pc := 77) (ci := 6) (j := 29) dX6_lends_77 rfl s_Mo rfl (by decide) lf_X6_148 ?_
          rw [hv_μ8]
          refine sx_if_eq (pc := 80) (tgt := 204) dX6_lends_80 (by decide) (fun c_80 => absurd c_80 (by decide)) (fun c_80 => ?_)
          have hy : oC (hvw μ) i p := (⟨by rw [← e111]; exact h_42f, by first | exact Or.inl (by rw [show vW (hvw μ) i = μ 113 i from rfl, hw0]; exact h_9f) | exact Or.inr (by rw [← e114]; exact h_50f), by rw [← e110]; exact Int32.not_lt.mp h_65f⟩ : oC (hvw μ) i p)
          exact l_lend_yes hE hi hp hk2 hit_μ8 hpn_μ8 (hv_μ8.trans (if_pos hy).symm) hk_μ8 (Hm.put Hm.rf hμ8 (by omega)) hq (by rw [hμ8, xup_at, if_neg (by omega)]; exact hw0) (by rw [(hvw_eq (μ := μ) (μ' := μ8) (fun a a1 a2 => by rw [hμ8]; funext b; rw [xup_at, if_neg (by omega)]) (by rw [hμ8, xup_at, if_neg (by omega)])), sC, if_pos hy]) _
theorem hv_B {μ m1 m2 m3 m4 : xM} {i : Nat} {dv n : Int32} (e1 : hvw m1 = hvw μ) (e2 : hvw m2 = ent (hvw m1) dv n 66 (nI i) (m1 111 i - 1)) (e3 : m3 = xup m2 111 i 0) (e4 : m4 = xup m3 112 i 0) : hvw m4 = ent (tB (hvw μ) i) dv n 66 (nI i) (vL (hvw μ) i - 1) := by
  have c9 : m1 111 = μ 111 := congrArg (fun z : HT => vL z) e1
  rw [e1, c9] at e2
  have c0 : m2 110 = μ 110 := congrArg (fun z : HT => vO z) e2
  have c1 : m2 111 = μ 111 := congrArg (fun z : HT => vL z) e2
  have c2 : m2 112 = μ 112 := congrArg (fun z : HT => vR z) e2
  have c3 : m2 113 = μ 113 := congrArg (fun z : HT => vW z) e2
  have c4 : m2 114 = μ 114 := congrArg (fun z : HT => vQ z) e2
  have c5 : m2 95 20 = vA (ent (hvw μ) dv n 66 (nI i) (μ 111 i - 1)) := congrArg (fun z : HT => vA z) e2
  have c6 : m2 115 = vJ (ent (hvw μ) dv n 66 (nI i) (μ 111 i - 1)) := congrArg (fun z : HT => vJ z) e2
  have h4 : hvw m4 = (m2 110, upd (m2 111) i 0, upd (m2 112) i 0, m2 113, m2 114, m2 95 20, m2 115) := by rw [e4, e3]; rfl
  rw [h4, c0, c1, c2, c3, c4, c5, c6]
  rfl
set_option maxHeartbeats 1000000 in
set_option maxRecDepth 20000 in
theorem c_brings (X : xD) (Ex : State → Prop) (hE : xEs X false shA.length Ex) (μ : xM) (dv n : Int32) (i k : Nat) (hi : i < 30) (hk2 : k < 2 ^ 20) (hit : μ 95 27 = nI i) (hk : μ 95 20 = nI k) {q : Nat} (hq : q ≤ 30) (hw0 : μ 113 i = nI q) : Ct X Ex false yX6_brings kX6_brings (rmN 1) [.ref (X.2 + 95), .int dv, .int n] shA μ (fun r sh' μ' => shA = sh' ∧ Hm μ μ' ∧ hvw μ' = sB (hvw μ) dv n i ∧ μ' 95 29 = (if oB (hvw μ) i then 1 else 0) ∧ ∃ x : Int32, r = some (.int x) ∧ 0 ≤ x) := by
  refine Ct.of (L0 := [some (.ref (X.2 + 95)), some (.int dv), some (.int n)]) (by decide) rfl (fun h => by cases h) (by simp [Value.category]) (Nat.le_of_ble_eq_true rfl) rfl (fun l => ?_)
  have hw : μ 113 (nI i).toNatClampNeg = nI q := by rw [nI_clamp (n := i) (by omega)]; exact hw0
  have e111 : μ 111 (nI i).toNatClampNeg = vL (hvw μ) i := by rw [nI_clamp (n := i) (by omega)]; rfl
  refine sx_aload_n (pc := 0) dX6_brings_0 rfl rfl ?_
  refine sx_aload_n (pc := 1) dX6_brings_1 rfl rfl ?_
  refine sx_getr (pc := 2) (ci := 6) (j := 16) (r := 111) dX6_brings_2 rfl s_Mo rfl (by decide) lf_X6_57 ?_
  refine sx_aload_n (pc := 5) dX6_brings_5 rfl rfl ?_
  refine sx_geti (pc := 6) (ci := 6) (j := 27) dX6_brings_6 rfl s_Mo rfl (by decide) lf_X6_110 ?_
  rw [hit]
  refine sx_iald (pc := 9) dX6_brings_9 s_M16 (by decide) rfl (vp_in_nI (by omega) (by decide)) ?_
  refine sx_if_le (pc := 10) (tgt := 17) dX6_brings_10 (by decide) (fun c_10 => ?_) (fun c_10 => ?_)
  · have h_10t := c_10
    have hy : ¬ oB (hvw μ) i := fun z => absurd h_10t (Int32.not_le.mpr (by rw [e111]; exact z))
    refine sx_iconst (pc := 17) (v := 0) dX6_brings_17 (by decide) ?_
    refine sx_puti (pc := 18) (ci := 6) (j := 29) (ty := .boolean) dX6_brings_18 rfl s_Mo rfl (by decide) lf_X6_148 rfl (by decide +kernel) rfl rfl (fun μ1 hμ1 => ?_)
    have hvB : hvw μ1 = hvw μ := hvw_eq (fun a a1 a2 => by rw [hμ1]; funext b; rw [xup_at, if_neg (by omega)]) (by rw [hμ1, xup_at, if_neg (by omega)])
    have hit_μ1 : μ1 95 27 = nI i := by rw [hμ1, xup_at, if_neg (by omega)]; exact hit
    have hk_μ1 : μ1 95 20 = nI k := by rw [hμ1, xup_at, if_neg (by omega)]; exact hk
    have hw_μ1 : μ1 113 ((nI i).toNatClampNeg) = nI q := by rw [hμ1, xup_at, if_neg (by omega)]; exact hw
    have hv_μ1 : μ1 95 29 = 0 := by rw [hμ1, xup_at, if_pos ⟨rfl, rfl⟩]
    refine sx_aload_n (pc := 21) dX6_brings_21 rfl rfl ?_
    refine sx_geti (pc := 22) (ci := 6) (j := 29) dX6_brings_22 rfl s_Mo rfl (by decide) lf_X6_148 ?_
    rw [hv_μ1]
    refine sx_if_eq (pc := 25) (tgt := 71) dX6_brings_25 (by decide) (fun c_25 => ?_) (fun c_25 => absurd c_25 (by decide))
    refine sx_aload_n (pc := 71) dX6_brings_71 rfl rfl ?_
    refine sx_getr (pc := 72) (ci := 6) (j := 18) (r := 113) dX6_brings_72 rfl s_Mo rfl (by decide) lf_X6_63 ?_
    refine sx_aload_n (pc := 75) dX6_brings_75 rfl rfl ?_
    refine sx_geti (pc := 76) (ci := 6) (j := 27) dX6_brings_76 rfl s_Mo rfl (by decide) lf_X6_110 ?_
    rw [hit_μ1]
    refine sx_iald (pc := 79) dX6_brings_79 s_M18 (by decide) rfl (vp_in_nI (by omega) (by decide)) ?_
    rw [hw_μ1]
    exact sx_iret (pc := 80) dX6_brings_80 rfl rfl (Nat.zero_le _) (Nat.zero_le _) (by first | (exact ⟨rfl, (Hm.put Hm.rf hμ1 (by omega)), by rw [sB, if_pos hy]; exact hv_B hvB t_48 b_60 b_70, hv_μ1.trans (if_pos hy).symm, _, rfl, nI_pos' (by omega)⟩) | (exact ⟨rfl, (Hm.put Hm.rf hμ1 (by omega)), by rw [sB, if_neg hy]; exact hvB, hv_μ1.trans (if_neg hy).symm, _, rfl, nI_pos' (by omega)⟩))
  · have h_10f := c_10
    have hy : oB (hvw μ) i := by have := Int32.not_le.mp h_10f; rw [e111] at this; exact this
    refine sx_iconst (pc := 13) (v := 1) dX6_brings_13 (by decide) ?_
    refine sx_goto (pc := 14) (tgt := 18) dX6_brings_14 (by decide) ?_
    refine sx_puti (pc := 18) (ci := 6) (j := 29) (ty := .boolean) dX6_brings_18 rfl s_Mo rfl (by decide) lf_X6_148 rfl (by decide +kernel) rfl rfl (fun μ2 hμ2 => ?_)
    have hvB : hvw μ2 = hvw μ := hvw_eq (fun a a1 a2 => by rw [hμ2]; funext b; rw [xup_at, if_neg (by omega)]) (by rw [hμ2, xup_at, if_neg (by omega)])
    have hit_μ2 : μ2 95 27 = nI i := by rw [hμ2, xup_at, if_neg (by omega)]; exact hit
    have hk_μ2 : μ2 95 20 = nI k := by rw [hμ2, xup_at, if_neg (by omega)]; exact hk
    have hw_μ2 : μ2 113 ((nI i).toNatClampNeg) = nI q := by rw [hμ2, xup_at, if_neg (by omega)]; exact hw
    have hv_μ2 : μ2 95 29 = 1 := by rw [hμ2, xup_at, if_pos ⟨rfl, rfl⟩]
    refine sx_aload_n (pc := 21) dX6_brings_21 rfl rfl ?_
    refine sx_geti (pc := 22) (ci := 6) (j := 29) dX6_brings_22 rfl s_Mo rfl (by decide) lf_X6_148 ?_
    rw [hv_μ2]
    refine sx_if_eq (pc := 25) (tgt := 71) dX6_brings_25 (by decide) (fun c_25 => absurd c_25 (by decide)) (fun c_25 => ?_)
    refine sx_aload_n (pc := 28) dX6_brings_28 rfl rfl ?_
    refine sx_iload_n (pc := 29) dX6_brings_29 rfl rfl ?_
    refine sx_iload_n (pc := 30) dX6_brings_30 rfl rfl ?_
    refine sx_bipush (pc := 31) (v := 66) dX6_brings_31 (by decide) ?_
    refine sx_aload_n (pc := 33) dX6_brings_33 rfl rfl ?_
    refine sx_geti (pc := 34) (ci := 6) (j := 27) dX6_brings_34 rfl s_Mo rfl (by decide) lf_X6_110 ?_
    rw [hit_μ2]
    refine sx_aload_n (pc := 37) dX6_brings_37 rfl rfl ?_
    refine sx_getr (pc := 38) (ci := 6) (j := 16) (r := 111) dX6_brings_38 rfl s_Mo rfl (by decide) lf_X6_57 ?_
    refine sx_aload_n (pc := 41) dX6_brings_41 rfl rfl ?_
    refine sx_geti (pc := 42) (ci := 6) (j := 27) dX6_brings_42 rfl s_Mo rfl (by decide) lf_X6_110 ?_
    rw [hit_μ2]
    refine sx_iald (pc := 45) dX6_brings_45 s_M16 (by decide) rfl (vp_in_nI (by omega) (by decide)) ?_
    rw [(nI_clamp (n := i) (by omega))]
    refine sx_iconst (pc := 46) (v := 1) dX6_brings_46 (by decide) ?_
    refine sx_isub (pc := 47) dX6_brings_47 ?_
    refine sx_callV (pc := 48) (As := [.int dv, .int n, .int 66, .int (nI i), .int ((μ2 111 i) - 1)]) dX6_brings_48 (c_enter X Ex hE μ2 _ _ _ _ _ k hk2 hk_μ2) mX6_enter lm_X6_155 rfl s_Mo rfl ⟨Nat.le_of_ble_eq_true rfl, Nat.le_of_ble_eq_true rfl⟩ ⟨Nat.le_of_ble_eq_true rfl, Nat.le_of_ble_eq_true rfl⟩ (Nat.le_of_ble_eq_true rfl) hE (fun r_48 sh1 μ3 h_48 => ?_)
    obtain ⟨rfl, rfl, k_48, e_48, t_48⟩ := h_48
    have hit_μ3 : μ3 95 27 = nI i := (k_48.2 27 (by decide)).trans hit_μ2
    have hw_μ3 : μ3 113 ((nI i).toNatClampNeg) = nI q := by rw [k_48.1 113 (by decide) (by decide)]; exact hw_μ2
    have hv_μ3 : μ3 95 29 = 1 := (k_48.2 29 (by decide)).trans hv_μ2
    have hk_μ3 : μ3 95 20 = nI (k + 1) := e_48
    refine sx_aload_n (pc := 51) dX6_brings_51 rfl rfl ?_
    refine sx_getr (pc := 52) (ci := 6) (j := 16) (r := 111) dX6_brings_52 rfl s_Mo rfl (by decide) lf_X6_57 ?_
    refine sx_aload_n (pc := 55) dX6_brings_55 rfl rfl ?_
    refine sx_geti (pc := 56) (ci := 6) (j := 27) dX6_brings_56 rfl s_Mo rfl (by decide) lf_X6_110 ?_
    rw [hit_μ3]
    refine sx_iconst (pc := 59) (v := 0) dX6_brings_59 (by decide) ?_
    refine sx_iast (pc := 60) dX6_brings_60 s_M16 (by decide) rfl (vp_in_nI (by omega) (by decide)) (fun μ4 hμ4 => ?_)
    have b_60 := hμ4; rw [(nI_clamp (n := i) (by omega))] at b_60
    have hit_μ4 : μ4 95 27 = nI i := by rw [hμ4, xup_at, if_neg (by omega)]; exact hit_μ3
    have hw_μ4 : μ4 113 ((nI i).toNatClampNeg) = nI q := by rw [hμ4, xup_at, if_neg (by omega)]; exact hw_μ3
    have hv_μ4 : μ4 95 29 = 1 := by rw [hμ4, xup_at, if_neg (by omega)]; exact hv_μ3
    have hk_μ4 : μ4 95 20 = nI (k + 1) := by rw [hμ4, xup_at, if_neg (by omega)]; exact hk_μ3
    refine sx_aload_n (pc := 61) dX6_brings_61 rfl rfl ?_
    refine sx_getr (pc := 62) (ci := 6) (j := 17) (r := 112) dX6_brings_62 rfl s_Mo rfl (by decide) lf_X6_60 ?_
    refine sx_aload_n (pc := 65) dX6_brings_65 rfl rfl ?_
    refine sx_geti (pc := 66) (ci := 6) (j := 27) dX6_brings_66 rfl s_Mo rfl (by decide) lf_X6_110 ?_
    rw [hit_μ4]
    refine sx_iconst (pc := 69) (v := 0) dX6_brings_69 (by decide) ?_
    refine sx_iast (pc := 70) dX6_brings_70 s_M17 (by decide) rfl (vp_in_nI (by omega) (by decide)) (fun μ5 hμ5 => ?_)
    have b_70 := hμ5; rw [(nI_clamp (n := i) (by omega))] at b_70
    have hit_μ5 : μ5 95 27 = nI i := by rw [hμ5, xup_at, if_neg (by omega)]; exact hit_μ4
    have hw_μ5 : μ5 113 ((nI i).toNatClampNeg) = nI q := by rw [hμ5, xup_at, if_neg (by omega)]; exact hw_μ4
    have hv_μ5 : μ5 95 29 = 1 := by rw [hμ5, xup_at, if_neg (by omega)]; exact hv_μ4
    have hk_μ5 : μ5 95 20 = nI (k + 1) := by rw [hμ5, xup_at, if_neg (by omega)]; exact hk_μ4
    refine sx_aload_n (pc := 71) dX6_brings_71 rfl rfl ?_
    refine sx_getr (pc := 72) (ci := 6) (j := 18) (r := 113) dX6_brings_72 rfl s_Mo rfl (by decide) lf_X6_63 ?_
    refine sx_aload_n (pc := 75) dX6_brings_75 rfl rfl ?_
    refine sx_geti (pc := 76) (ci := 6) (j := 27) dX6_brings_76 rfl s_Mo rfl (by decide) lf_X6_110 ?_
    rw [hit_μ5]
    refine sx_iald (pc := 79) dX6_brings_79 s_M18 (by decide) rfl (vp_in_nI (by omega) (by decide)) ?_
    rw [hw_μ5]
    exact sx_iret (pc := 80) dX6_brings_80 rfl rfl (Nat.zero_le _) (Nat.zero_le _) (by first | (exact ⟨rfl, (Hm.put (Hm.put (Hm.en (Hm.put Hm.rf hμ2 (by omega)) k_48) hμ4 (by omega)) hμ5 (by omega)), by rw [sB, if_pos hy]; exact hv_B hvB t_48 b_60 b_70, hv_μ5.trans (if_pos hy).symm, _, rfl, nI_pos' (by omega)⟩) | (exact ⟨rfl, (Hm.put (Hm.put (Hm.en (Hm.put Hm.rf hμ2 (by omega)) k_48) hμ4 (by omega)) hμ5 (by omega)), by rw [sB, if_neg hy]; exact hvB, hv_μ5.trans (if_neg hy).symm, _, rfl, nI_pos' (by omega)⟩))
theorem upd_id {f : Nat → Int32} {i : Nat} {v : Int32} (h : v = f i) : upd f i v = f := by
  funext j
  rw [upd_at]
  split
  · rename_i e; rw [h, e]
  · rfl
section HVJ
variable {μ m1 m2 m3 m4 : xM} {i p q : Nat} {dv n c : Int32}
theorem hv_F (e1 : m1 = xup μ 95 29 1) (e2 : m2 = xup m1 110 p (m1 110 p - c)) (e3 : hvw m3 = ent (hvw m2) dv n 70 (-1) (nI p)) : hvw m3 = ent (tF (hvw μ) p c) dv n 70 (-1) (nI p) := by
  rw [e3, e2, e1]; rfl
theorem hv_F0 (e1 : m1 = xup μ 95 29 0) (e2 : m2 = xup m1 110 p (m1 110 p - 0)) : hvw m2 = hvw μ := by
  have h : hvw m2 = (upd (μ 110) p (μ 110 p - 0), μ 111, μ 112, μ 113, μ 114, μ 95 20, μ 115) := by rw [e2, e1]; rfl
  rw [h, upd_id (by simp)]; rfl
theorem hv_R (e1 : m1 = xup μ 95 29 1) (e2 : m2 = xup m1 112 i (m1 112 i + 1)) (e3 : hvw m3 = ent (hvw m2) dv n 82 (nI i) (nI p)) : hvw m3 = ent (tR (hvw μ) i p) dv n 82 (nI i) (nI p) := by
  rw [e3, e2, e1]; rfl
theorem hv_R0 (e1 : m1 = xup μ 95 29 0) (e2 : m2 = xup m1 112 i (m1 112 i + 0)) : hvw m2 = hvw μ := by
  have h : hvw m2 = (μ 110, μ 111, upd (μ 112) i (μ 112 i + 0), μ 113, μ 114, μ 95 20, μ 115) := by rw [e2, e1]; rfl
  rw [h, upd_id (by simp)]; rfl
theorem hv_H (hq : q ≤ 30) (hw : μ 113 i = nI q) (e1 : m1 = xup μ 95 29 1) (e2 : m2 = xup m1 114 (30 * i + q) (nI p)) (e3 : m3 = xup m2 113 i (nI (q + 1))) (e4 : hvw m4 = ent (hvw m3) dv n 72 (nI i) (nI p)) : hvw m4 = ent (tH (hvw μ) i p) dv n 72 (nI i) (nI p) := by
  have h : hvw m3 = (μ 110, μ 111, μ 112, upd (μ 113) i (nI (q + 1)), upd (μ 114) (30 * i + q) (nI p), μ 95 20, μ 115) := by rw [e3, e2, e1]; rfl
  have t : tH (hvw μ) i p = (μ 110, μ 111, μ 112, upd (μ 113) i (μ 113 i + 1), upd (μ 114) (30 * i + (μ 113 i).toNatClampNeg) (nI p), μ 95 20, μ 115) := rfl
  rw [e4, h, t, hw, nI_1, nI_clamp (by omega)]
end HVJ
set_option maxHeartbeats 1000000 in
set_option maxRecDepth 20000 in
theorem c_judge (X : xD) (Ex : State → Prop) (hE : xEs X false shA.length Ex) (μ : xM) (dv n kd ce : Int32) (k m : Nat) (hk2 : k < 2 ^ 20) (hkd : μ 95 24 = kd) (hce : μ 95 28 = ce) (hK : KS kd) (hQ : kd ≠ 81) (hPp : hP kd → ∃ p, p < 30 ∧ μ 95 26 = nI p) (hIi : hI kd → ∃ i, i < 30 ∧ μ 95 27 = nI i) (hk : μ 95 20 = nI k) (hW : HW m (hvw μ)) : Ct X Ex false yX6_judge kX6_judge (rmN 2) [.ref (X.2 + 95), .int dv, .int n] shA μ (fun r sh' μ' => shA = sh' ∧ Hm μ μ' ∧ hvw μ' = jud (hvw μ) dv n kd ((μ 95 27).toNatClampNeg) ((μ 95 26).toNatClampNeg) ce ∧ ∃ x : Int32, r = some (.int x)) := by
  refine Ct.of (L0 := [some (.ref (X.2 + 95)), some (.int dv), some (.int n)]) (by decide) rfl (fun h => by cases h) (by simp [Value.category]) (Nat.le_of_ble_eq_true rfl) rfl (fun l => ?_)
  refine sx_aload_n (pc := 0) dX6_judge_0 rfl rfl ?_
  refine sx_geti (pc := 1) (ci := 6) (j := 24) dX6_judge_1 rfl s_Mo rfl (by decide) lf_X6_87 ?_
  rw [hkd]
  rcases hK with rfl | rfl | rfl | rfl | rfl | rfl | rfl | rfl | rfl
  · skip
    refine sx_tableIn (pc := 4) (off := 88) (tgt := 92) dX6_judge_4 (by decide) (by decide) (by decide) (by decide) ?_
    refine sx_aload_n (pc := 92) dX6_judge_92 rfl rfl ?_
    refine sx_iconst (pc := 93) (v := 1) dX6_judge_93 (by decide) ?_
    refine sx_puti (pc := 94) (ci := 6) (j := 29) (ty := .boolean) dX6_judge_94 rfl s_Mo rfl (by decide) lf_X6_148 rfl (by decide +kernel) rfl rfl (fun μ1 hμ1 => ?_)
    have s_94 := hμ1
    have hk_μ1 : μ1 95 20 = nI k := by rw [hμ1, xup_at, if_neg (by omega)]; exact hk
    have hce_μ1 : μ1 95 28 = ce := by rw [hμ1, xup_at, if_neg (by omega)]; exact hce
    have hv_μ1 : μ1 95 29 = 1 := by rw [hμ1, xup_at, if_pos ⟨rfl, rfl⟩]
    refine sx_iconst (pc := 97) (v := 0) dX6_judge_97 (by decide) ?_
    exact sx_iret (pc := 98) dX6_judge_98 rfl rfl (Nat.zero_le _) (Nat.zero_le _) (⟨rfl, (Hm.put Hm.rf hμ1 (by omega)), by rw [jud_o ⟨by decide, by decide, by decide, by decide, by decide⟩]; exact hvw_eq (fun a a1 a2 => by rw [s_94]; funext b; rw [xup_at, if_neg (by omega)]) (by rw [s_94, xup_at, if_neg (by omega)]), _, rfl⟩)
  · skip
    obtain ⟨p, hp, hpn⟩ := hPp (by decide)
    have ecp2 : (nI p).toNatClampNeg = p := nI_clamp (by omega)
    have ecp : (μ 95 26).toNatClampNeg = p := by rw [hpn]; exact ecp2
    have e110 : μ 110 (nI p).toNatClampNeg = vO (hvw μ) p := by rw [nI_clamp (n := p) (by omega)]; rfl
    obtain ⟨i, hi, hit⟩ := hIi (by decide)
    have eci2 : (nI i).toNatClampNeg = i := nI_clamp (by omega)
    have eci : (μ 95 27).toNatClampNeg = i := by rw [hit]; exact eci2
    obtain ⟨⟨q, hq, hw0, hwi⟩, -⟩ := hW.1 i hi
    have hw0 : μ 113 i = nI q := hw0
    have e111 : μ 111 (nI i).toNatClampNeg = vL (hvw μ) i := by rw [nI_clamp (n := i) (by omega)]; rfl
    have e112 : μ 112 (nI i).toNatClampNeg = vR (hvw μ) i := by rw [nI_clamp (n := i) (by omega)]; rfl
    refine sx_tableIn (pc := 4) (off := 95) (tgt := 99) dX6_judge_4 (by decide) (by decide) (by decide) (by decide) ?_
    refine sx_aload_n (pc := 99) dX6_judge_99 rfl rfl ?_
    refine sx_iload_n (pc := 100) dX6_judge_100 rfl rfl ?_
    refine sx_iload_n (pc := 101) dX6_judge_101 rfl rfl ?_
    refine sx_callV (pc := 102) (As := [.int dv, .int n]) dX6_judge_102 (c_lends X Ex hE μ _ _ i p k hi hp hk2 hit hpn hk hq hw0) mX6_lends lm_X6_162 rfl s_Mo rfl ⟨Nat.le_of_ble_eq_true rfl, Nat.le_of_ble_eq_true rfl⟩ ⟨Nat.le_of_ble_eq_true rfl, Nat.le_of_ble_eq_true rfl⟩ (Nat.le_of_ble_eq_true rfl) hE (fun r_102 sh1 μ1 h_102 => ?_)
    obtain ⟨rfl, k_102, t_102, v_102, x_102, rfl, hx_102⟩ := h_102
    exact sx_iret (pc := 105) dX6_judge_105 rfl rfl (Nat.zero_le _) (Nat.zero_le _) (⟨rfl, k_102, by rw [jud_C]; (first | rw [ecp] | rw [ecp2]); (first | rw [eci] | rw [eci2]); exact t_102, _, rfl⟩)
  · skip
    obtain ⟨i, hi, hit⟩ := hIi (by decide)
    have eci2 : (nI i).toNatClampNeg = i := nI_clamp (by omega)
    have eci : (μ 95 27).toNatClampNeg = i := by rw [hit]; exact eci2
    obtain ⟨⟨q, hq, hw0, hwi⟩, -⟩ := hW.1 i hi
    have hw0 : μ 113 i = nI q := hw0
    have e111 : μ 111 (nI i).toNatClampNeg = vL (hvw μ) i := by rw [nI_clamp (n := i) (by omega)]; rfl
    have e112 : μ 112 (nI i).toNatClampNeg = vR (hvw μ) i := by rw [nI_clamp (n := i) (by omega)]; rfl
    refine sx_tableIn (pc := 4) (off := 102) (tgt := 106) dX6_judge_4 (by decide) (by decide) (by decide) (by decide) ?_
    refine sx_aload_n (pc := 106) dX6_judge_106 rfl rfl ?_
    refine sx_iload_n (pc := 107) dX6_judge_107 rfl rfl ?_
    refine sx_iload_n (pc := 108) dX6_judge_108 rfl rfl ?_
    refine sx_callV (pc := 109) (As := [.int dv, .int n]) dX6_judge_109 (c_brings X Ex hE μ _ _ i k hi hk2 hit hk hq hw0) mX6_brings lm_X6_165 rfl s_Mo rfl ⟨Nat.le_of_ble_eq_true rfl, Nat.le_of_ble_eq_true rfl⟩ ⟨Nat.le_of_ble_eq_true rfl, Nat.le_of_ble_eq_true rfl⟩ (Nat.le_of_ble_eq_true rfl) hE (fun r_109 sh1 μ1 h_109 => ?_)
    obtain ⟨rfl, k_109, t_109, v_109, x_109, rfl, hx_109⟩ := h_109
    exact sx_iret (pc := 112) dX6_judge_112 rfl rfl (Nat.zero_le _) (Nat.zero_le _) (⟨rfl, k_109, by rw [jud_B]; (first | rw [eci] | rw [eci2]); exact t_109, _, rfl⟩)
  · skip
    obtain ⟨p, hp, hpn⟩ := hPp (by decide)
    have ecp2 : (nI p).toNatClampNeg = p := nI_clamp (by omega)
    have ecp : (μ 95 26).toNatClampNeg = p := by rw [hpn]; exact ecp2
    have e110 : μ 110 (nI p).toNatClampNeg = vO (hvw μ) p := by rw [nI_clamp (n := p) (by omega)]; rfl
    refine sx_tableIn (pc := 4) (off := 109) (tgt := 113) dX6_judge_4 (by decide) (by decide) (by decide) (by decide) ?_
    refine sx_aload_n (pc := 113) dX6_judge_113 rfl rfl ?_
    refine sx_iconst (pc := 114) (v := 1) dX6_judge_114 (by decide) ?_
    refine sx_puti (pc := 115) (ci := 6) (j := 29) (ty := .boolean) dX6_judge_115 rfl s_Mo rfl (by decide) lf_X6_148 rfl (by decide +kernel) rfl rfl (fun μ1 hμ1 => ?_)
    have s_115 := hμ1
    have hk_μ1 : μ1 95 20 = nI k := by rw [hμ1, xup_at, if_neg (by omega)]; exact hk
    have hce_μ1 : μ1 95 28 = ce := by rw [hμ1, xup_at, if_neg (by omega)]; exact hce
    have hpn_μ1 : μ1 95 26 = nI p := by rw [hμ1, xup_at, if_neg (by omega)]; exact hpn
    have hv_μ1 : μ1 95 29 = 1 := by rw [hμ1, xup_at, if_pos ⟨rfl, rfl⟩]
    refine sx_aload_n (pc := 118) dX6_judge_118 rfl rfl ?_
    refine sx_getr (pc := 119) (ci := 6) (j := 15) (r := 110) dX6_judge_119 rfl s_Mo rfl (by decide) lf_X6_54 ?_
    refine sx_aload_n (pc := 122) dX6_judge_122 rfl rfl ?_
    refine sx_geti (pc := 123) (ci := 6) (j := 26) dX6_judge_123 rfl s_Mo rfl (by decide) lf_X6_104 ?_
    rw [hpn_μ1]
    refine sx_iald (pc := 126) dX6_judge_126 s_M15 (by decide) rfl (vp_in_nI (by omega) (by decide)) ?_
    exact sx_iret (pc := 127) dX6_judge_127 rfl rfl (Nat.zero_le _) (Nat.zero_le _) (⟨rfl, (Hm.put Hm.rf hμ1 (by omega)), by rw [jud_o ⟨by decide, by decide, by decide, by decide, by decide⟩]; exact hvw_eq (fun a a1 a2 => by rw [s_115]; funext b; rw [xup_at, if_neg (by omega)]) (by rw [s_115, xup_at, if_neg (by omega)]), _, rfl⟩)
  · skip
    obtain ⟨i, hi, hit⟩ := hIi (by decide)
    have eci2 : (nI i).toNatClampNeg = i := nI_clamp (by omega)
    have eci : (μ 95 27).toNatClampNeg = i := by rw [hit]; exact eci2
    obtain ⟨⟨q, hq, hw0, hwi⟩, -⟩ := hW.1 i hi
    have hw0 : μ 113 i = nI q := hw0
    have e111 : μ 111 (nI i).toNatClampNeg = vL (hvw μ) i := by rw [nI_clamp (n := i) (by omega)]; rfl
    have e112 : μ 112 (nI i).toNatClampNeg = vR (hvw μ) i := by rw [nI_clamp (n := i) (by omega)]; rfl
    refine sx_tableIn (pc := 4) (off := 124) (tgt := 128) dX6_judge_4 (by decide) (by decide) (by decide) (by decide) ?_
    refine sx_aload_n (pc := 128) dX6_judge_128 rfl rfl ?_
    refine sx_iconst (pc := 129) (v := 1) dX6_judge_129 (by decide) ?_
    refine sx_puti (pc := 130) (ci := 6) (j := 29) (ty := .boolean) dX6_judge_130 rfl s_Mo rfl (by decide) lf_X6_148 rfl (by decide +kernel) rfl rfl (fun μ1 hμ1 => ?_)
    have s_130 := hμ1
    have hk_μ1 : μ1 95 20 = nI k := by rw [hμ1, xup_at, if_neg (by omega)]; exact hk
    have hce_μ1 : μ1 95 28 = ce := by rw [hμ1, xup_at, if_neg (by omega)]; exact hce
    have hit_μ1 : μ1 95 27 = nI i := by rw [hμ1, xup_at, if_neg (by omega)]; exact hit
    have hv_μ1 : μ1 95 29 = 1 := by rw [hμ1, xup_at, if_pos ⟨rfl, rfl⟩]
    refine sx_aload_n (pc := 133) dX6_judge_133 rfl rfl ?_
    refine sx_getr (pc := 134) (ci := 6) (j := 16) (r := 111) dX6_judge_134 rfl s_Mo rfl (by decide) lf_X6_57 ?_
    refine sx_aload_n (pc := 137) dX6_judge_137 rfl rfl ?_
    refine sx_geti (pc := 138) (ci := 6) (j := 27) dX6_judge_138 rfl s_Mo rfl (by decide) lf_X6_110 ?_
    rw [hit_μ1]
    refine sx_iald (pc := 141) dX6_judge_141 s_M16 (by decide) rfl (vp_in_nI (by omega) (by decide)) ?_
    exact sx_iret (pc := 142) dX6_judge_142 rfl rfl (Nat.zero_le _) (Nat.zero_le _) (⟨rfl, (Hm.put Hm.rf hμ1 (by omega)), by rw [jud_o ⟨by decide, by decide, by decide, by decide, by decide⟩]; exact hvw_eq (fun a a1 a2 => by rw [s_130]; funext b; rw [xup_at, if_neg (by omega)]) (by rw [s_130, xup_at, if_neg (by omega)]), _, rfl⟩)
  · skip
    obtain ⟨p, hp, hpn⟩ := hPp (by decide)
    have ecp2 : (nI p).toNatClampNeg = p := nI_clamp (by omega)
    have ecp : (μ 95 26).toNatClampNeg = p := by rw [hpn]; exact ecp2
    have e110 : μ 110 (nI p).toNatClampNeg = vO (hvw μ) p := by rw [nI_clamp (n := p) (by omega)]; rfl
    refine sx_tableIn (pc := 4) (off := 139) (tgt := 143) dX6_judge_4 (by decide) (by decide) (by decide) (by decide) ?_
    refine sx_aload_n (pc := 143) dX6_judge_143 rfl rfl ?_
    refine sx_aload_n (pc := 144) dX6_judge_144 rfl rfl ?_
    refine sx_geti (pc := 145) (ci := 6) (j := 28) dX6_judge_145 rfl s_Mo rfl (by decide) lf_X6_113 ?_
    rw [hce]
    refine sx_aload_n (pc := 148) dX6_judge_148 rfl rfl ?_
    refine sx_getr (pc := 149) (ci := 6) (j := 15) (r := 110) dX6_judge_149 rfl s_Mo rfl (by decide) lf_X6_54 ?_
    refine sx_aload_n (pc := 152) dX6_judge_152 rfl rfl ?_
    refine sx_geti (pc := 153) (ci := 6) (j := 26) dX6_judge_153 rfl s_Mo rfl (by decide) lf_X6_104 ?_
    rw [hpn]
    refine sx_iald (pc := 156) dX6_judge_156 s_M15 (by decide) rfl (vp_in_nI (by omega) (by decide)) ?_
    refine sx_icmp_gt (pc := 157) (tgt := 164) dX6_judge_157 (by decide) (fun c_157 => ?_) (fun c_157 => ?_)
    · have h_157t := c_157
      refine sx_iconst (pc := 164) (v := 0) dX6_judge_164 (by decide) ?_
      refine sx_puti (pc := 165) (ci := 6) (j := 29) (ty := .boolean) dX6_judge_165 rfl s_Mo rfl (by decide) lf_X6_148 rfl (by decide +kernel) rfl rfl (fun μ1 hμ1 => ?_)
      have s_165 := hμ1
      have hk_μ1 : μ1 95 20 = nI k := by rw [hμ1, xup_at, if_neg (by omega)]; exact hk
      have hce_μ1 : μ1 95 28 = ce := by rw [hμ1, xup_at, if_neg (by omega)]; exact hce
      have hpn_μ1 : μ1 95 26 = nI p := by rw [hμ1, xup_at, if_neg (by omega)]; exact hpn
      have hv_μ1 : μ1 95 29 = 0 := by rw [hμ1, xup_at, if_pos ⟨rfl, rfl⟩]
      refine sx_aload_n (pc := 168) dX6_judge_168 rfl rfl ?_
      refine sx_getr (pc := 169) (ci := 6) (j := 15) (r := 110) dX6_judge_169 rfl s_Mo rfl (by decide) lf_X6_54 ?_
      refine sx_aload_n (pc := 172) dX6_judge_172 rfl rfl ?_
      refine sx_geti (pc := 173) (ci := 6) (j := 26) dX6_judge_173 rfl s_Mo rfl (by decide) lf_X6_104 ?_
      rw [hpn_μ1]
      refine sx_dup2 (pc := 176) dX6_judge_176 rfl rfl ?_
      refine sx_iald (pc := 177) dX6_judge_177 s_M15 (by decide) rfl (vp_in_nI (by omega) (by decide)) ?_
      refine sx_aload_n (pc := 178) dX6_judge_178 rfl rfl ?_
      refine sx_geti (pc := 179) (ci := 6) (j := 29) dX6_judge_179 rfl s_Mo rfl (by decide) lf_X6_148 ?_
      rw [hv_μ1]
      refine sx_if_eq (pc := 182) (tgt := 192) dX6_judge_182 (by decide) (fun c_182 => ?_) (fun c_182 => absurd c_182 (by decide))
      refine sx_iconst (pc := 192) (v := 0) dX6_judge_192 (by decide) ?_
      refine sx_isub (pc := 193) dX6_judge_193 ?_
      refine sx_iast (pc := 194) dX6_judge_194 s_M15 (by decide) rfl (vp_in_nI (by omega) (by decide)) (fun μ2 hμ2 => ?_)
      have s_194 := hμ2
      have hk_μ2 : μ2 95 20 = nI k := by rw [hμ2, xup_at, if_neg (by omega)]; exact hk_μ1
      have hce_μ2 : μ2 95 28 = ce := by rw [hμ2, xup_at, if_neg (by omega)]; exact hce_μ1
      have hpn_μ2 : μ2 95 26 = nI p := by rw [hμ2, xup_at, if_neg (by omega)]; exact hpn_μ1
      have hv_μ2 : μ2 95 29 = 0 := by rw [hμ2, xup_at, if_neg (by omega)]; exact hv_μ1
      refine sx_aload_n (pc := 195) dX6_judge_195 rfl rfl ?_
      refine sx_geti (pc := 196) (ci := 6) (j := 29) dX6_judge_196 rfl s_Mo rfl (by decide) lf_X6_148 ?_
      rw [hv_μ2]
      refine sx_if_eq (pc := 199) (tgt := 215) dX6_judge_199 (by decide) (fun c_199 => ?_) (fun c_199 => absurd c_199 (by decide))
      refine sx_aload_n (pc := 215) dX6_judge_215 rfl rfl ?_
      refine sx_getr (pc := 216) (ci := 6) (j := 15) (r := 110) dX6_judge_216 rfl s_Mo rfl (by decide) lf_X6_54 ?_
      refine sx_aload_n (pc := 219) dX6_judge_219 rfl rfl ?_
      refine sx_geti (pc := 220) (ci := 6) (j := 26) dX6_judge_220 rfl s_Mo rfl (by decide) lf_X6_104 ?_
      rw [hpn_μ2]
      refine sx_iald (pc := 223) dX6_judge_223 s_M15 (by decide) rfl (vp_in_nI (by omega) (by decide)) ?_
      exact sx_iret (pc := 224) dX6_judge_224 rfl rfl (Nat.zero_le _) (Nat.zero_le _) (by first | (have hy : oF (hvw μ) p ce := (by rw [e110] at h_157f; exact Int32.not_lt.mp h_157f); exact ⟨rfl, (Hm.put (Hm.put Hm.rf hμ1 (by omega)) hμ2 (by omega)), by rw [jud_F]; (first | rw [ecp] | rw [ecp2]); rw [sF, if_pos hy]; exact hv_F s_165 (by rw [(nI_clamp (n := p) (by omega))] at s_194; exact s_194) t_212, _, rfl⟩) | (have hy : ¬ oF (hvw μ) p ce := (fun z => absurd h_157t (Int32.not_lt.mpr (by rw [e110]; exact z))); exact ⟨rfl, (Hm.put (Hm.put Hm.rf hμ1 (by omega)) hμ2 (by omega)), by rw [jud_F]; (first | rw [ecp] | rw [ecp2]); rw [sF, if_neg hy]; exact hv_F0 s_165 (by rw [(nI_clamp (n := p) (by omega))] at s_194; exact s_194), _, rfl⟩))
    · have h_157f := c_157
      refine sx_iconst (pc := 160) (v := 1) dX6_judge_160 (by decide) ?_
      refine sx_goto (pc := 161) (tgt := 165) dX6_judge_161 (by decide) ?_
      refine sx_puti (pc := 165) (ci := 6) (j := 29) (ty := .boolean) dX6_judge_165 rfl s_Mo rfl (by decide) lf_X6_148 rfl (by decide +kernel) rfl rfl (fun μ3 hμ3 => ?_)
      have s_165 := hμ3
      have hk_μ3 : μ3 95 20 = nI k := by rw [hμ3, xup_at, if_neg (by omega)]; exact hk
      have hce_μ3 : μ3 95 28 = ce := by rw [hμ3, xup_at, if_neg (by omega)]; exact hce
      have hpn_μ3 : μ3 95 26 = nI p := by rw [hμ3, xup_at, if_neg (by omega)]; exact hpn
      have hv_μ3 : μ3 95 29 = 1 := by rw [hμ3, xup_at, if_pos ⟨rfl, rfl⟩]
      refine sx_aload_n (pc := 168) dX6_judge_168 rfl rfl ?_
      refine sx_getr (pc := 169) (ci := 6) (j := 15) (r := 110) dX6_judge_169 rfl s_Mo rfl (by decide) lf_X6_54 ?_
      refine sx_aload_n (pc := 172) dX6_judge_172 rfl rfl ?_
      refine sx_geti (pc := 173) (ci := 6) (j := 26) dX6_judge_173 rfl s_Mo rfl (by decide) lf_X6_104 ?_
      rw [hpn_μ3]
      refine sx_dup2 (pc := 176) dX6_judge_176 rfl rfl ?_
      refine sx_iald (pc := 177) dX6_judge_177 s_M15 (by decide) rfl (vp_in_nI (by omega) (by decide)) ?_
      refine sx_aload_n (pc := 178) dX6_judge_178 rfl rfl ?_
      refine sx_geti (pc := 179) (ci := 6) (j := 29) dX6_judge_179 rfl s_Mo rfl (by decide) lf_X6_148 ?_
      rw [hv_μ3]
      refine sx_if_eq (pc := 182) (tgt := 192) dX6_judge_182 (by decide) (fun c_182 => absurd c_182 (by decide)) (fun c_182 => ?_)
      refine sx_aload_n (pc := 185) dX6_judge_185 rfl rfl ?_
      refine sx_geti (pc := 186) (ci := 6) (j := 28) dX6_judge_186 rfl s_Mo rfl (by decide) lf_X6_113 ?_
      rw [hce_μ3]
      refine sx_goto (pc := 189) (tgt := 193) dX6_judge_189 (by decide) ?_
      refine sx_isub (pc := 193) dX6_judge_193 ?_
      refine sx_iast (pc := 194) dX6_judge_194 s_M15 (by decide) rfl (vp_in_nI (by omega) (by decide)) (fun μ4 hμ4 => ?_)
      have s_194 := hμ4
      have hk_μ4 : μ4 95 20 = nI k := by rw [hμ4, xup_at, if_neg (by omega)]; exact hk_μ3
      have hce_μ4 : μ4 95 28 = ce := by rw [hμ4, xup_at, if_neg (by omega)]; exact hce_μ3
      have hpn_μ4 : μ4 95 26 = nI p := by rw [hμ4, xup_at, if_neg (by omega)]; exact hpn_μ3
      have hv_μ4 : μ4 95 29 = 1 := by rw [hμ4, xup_at, if_neg (by omega)]; exact hv_μ3
      refine sx_aload_n (pc := 195) dX6_judge_195 rfl rfl ?_
      refine sx_geti (pc := 196) (ci := 6) (j := 29) dX6_judge_196 rfl s_Mo rfl (by decide) lf_X6_148 ?_
      rw [hv_μ4]
      refine sx_if_eq (pc := 199) (tgt := 215) dX6_judge_199 (by decide) (fun c_199 => absurd c_199 (by decide)) (fun c_199 => ?_)
      refine sx_aload_n (pc := 202) dX6_judge_202 rfl rfl ?_
      refine sx_iload_n (pc := 203) dX6_judge_203 rfl rfl ?_
      refine sx_iload_n (pc := 204) dX6_judge_204 rfl rfl ?_
      refine sx_bipush (pc := 205) (v := 70) dX6_judge_205 (by decide) ?_
      refine sx_iconst (pc := 207) (v := (-1)) dX6_judge_207 (by decide) ?_
      refine sx_aload_n (pc := 208) dX6_judge_208 rfl rfl ?_
      refine sx_geti (pc := 209) (ci := 6) (j := 26) dX6_judge_209 rfl s_Mo rfl (by decide) lf_X6_104 ?_
      rw [hpn_μ4]
      refine sx_callV (pc := 212) (As := [.int dv, .int n, .int 70, .int (-1), .int (nI p)]) dX6_judge_212 (c_enter X Ex hE μ4 _ _ _ _ _ k hk2 hk_μ4) mX6_enter lm_X6_155 rfl s_Mo rfl ⟨Nat.le_of_ble_eq_true rfl, Nat.le_of_ble_eq_true rfl⟩ ⟨Nat.le_of_ble_eq_true rfl, Nat.le_of_ble_eq_true rfl⟩ (Nat.le_of_ble_eq_true rfl) hE (fun r_212 sh1 μ5 h_212 => ?_)
      obtain ⟨rfl, rfl, k_212, e_212, t_212⟩ := h_212
      have hce_μ5 : μ5 95 28 = ce := (k_212.2 28 (by decide)).trans hce_μ4
      have hpn_μ5 : μ5 95 26 = nI p := (k_212.2 26 (by decide)).trans hpn_μ4
      have hv_μ5 : μ5 95 29 = 1 := (k_212.2 29 (by decide)).trans hv_μ4
      have hk_μ5 : μ5 95 20 = nI (k + 1) := e_212
      refine sx_aload_n (pc := 215) dX6_judge_215 rfl rfl ?_
      refine sx_getr (pc := 216) (ci := 6) (j := 15) (r := 110) dX6_judge_216 rfl s_Mo rfl (by decide) lf_X6_54 ?_
      refine sx_aload_n (pc := 219) dX6_judge_219 rfl rfl ?_
      refine sx_geti (pc := 220) (ci := 6) (j := 26) dX6_judge_220 rfl s_Mo rfl (by decide) lf_X6_104 ?_
      rw [hpn_μ5]
      refine sx_iald (pc := 223) dX6_judge_223 s_M15 (by decide) rfl (vp_in_nI (by omega) (by decide)) ?_
      exact sx_iret (pc := 224) dX6_judge_224 rfl rfl (Nat.zero_le _) (Nat.zero_le _) (by first | (have hy : oF (hvw μ) p ce := (by rw [e110] at h_157f; exact Int32.not_lt.mp h_157f); exact ⟨rfl, (Hm.en (Hm.put (Hm.put Hm.rf hμ3 (by omega)) hμ4 (by omega)) k_212), by rw [jud_F]; (first | rw [ecp] | rw [ecp2]); rw [sF, if_pos hy]; exact hv_F s_165 (by rw [(nI_clamp (n := p) (by omega))] at s_194; exact s_194) t_212, _, rfl⟩) | (have hy : ¬ oF (hvw μ) p ce := (fun z => absurd h_157t (Int32.not_lt.mpr (by rw [e110]; exact z))); exact ⟨rfl, (Hm.en (Hm.put (Hm.put Hm.rf hμ3 (by omega)) hμ4 (by omega)) k_212), by rw [jud_F]; (first | rw [ecp] | rw [ecp2]); rw [sF, if_neg hy]; exact hv_F0 s_165 (by rw [(nI_clamp (n := p) (by omega))] at s_194; exact s_194), _, rfl⟩))
  · skip
    obtain ⟨p, hp, hpn⟩ := hPp (by decide)
    have ecp2 : (nI p).toNatClampNeg = p := nI_clamp (by omega)
    have ecp : (μ 95 26).toNatClampNeg = p := by rw [hpn]; exact ecp2
    have e110 : μ 110 (nI p).toNatClampNeg = vO (hvw μ) p := by rw [nI_clamp (n := p) (by omega)]; rfl
    obtain ⟨i, hi, hit⟩ := hIi (by decide)
    have eci2 : (nI i).toNatClampNeg = i := nI_clamp (by omega)
    have eci : (μ 95 27).toNatClampNeg = i := by rw [hit]; exact eci2
    obtain ⟨⟨q, hq, hw0, hwi⟩, -⟩ := hW.1 i hi
    have hw0 : μ 113 i = nI q := hw0
    have e111 : μ 111 (nI i).toNatClampNeg = vL (hvw μ) i := by rw [nI_clamp (n := i) (by omega)]; rfl
    have e112 : μ 112 (nI i).toNatClampNeg = vR (hvw μ) i := by rw [nI_clamp (n := i) (by omega)]; rfl
    have hw : μ 113 (nI i).toNatClampNeg = nI q := by rw [nI_clamp (n := i) (by omega)]; exact hw0
    have bq : (∀ a, a < q → ¬ μ 114 (30 * i + a) = nI p) ↔ ∀ a, a < (vW (hvw μ) i).toNatClampNeg → ¬ vQ (hvw μ) (30 * i + a) = nI p := by rw [show vW (hvw μ) i = nI q from hw0, nI_clamp (by omega)]; exact Iff.rfl
    refine sx_tableIn (pc := 4) (off := 221) (tgt := 225) dX6_judge_4 (by decide) (by decide) (by decide) (by decide) ?_
    refine sx_aload_n (pc := 225) dX6_judge_225 rfl rfl ?_
    refine sx_aload_n (pc := 226) dX6_judge_226 rfl rfl ?_
    refine sx_getr (pc := 227) (ci := 6) (j := 16) (r := 111) dX6_judge_227 rfl s_Mo rfl (by decide) lf_X6_57 ?_
    refine sx_aload_n (pc := 230) dX6_judge_230 rfl rfl ?_
    refine sx_geti (pc := 231) (ci := 6) (j := 27) dX6_judge_231 rfl s_Mo rfl (by decide) lf_X6_110 ?_
    rw [hit]
    refine sx_iald (pc := 234) dX6_judge_234 s_M16 (by decide) rfl (vp_in_nI (by omega) (by decide)) ?_
    refine sx_if_le (pc := 235) (tgt := 275) dX6_judge_235 (by decide) (fun c_235 => ?_) (fun c_235 => ?_)
    · have h_235t := c_235
      refine sx_iconst (pc := 275) (v := 0) dX6_judge_275 (by decide) ?_
      refine sx_puti (pc := 276) (ci := 6) (j := 29) (ty := .boolean) dX6_judge_276 rfl s_Mo rfl (by decide) lf_X6_148 rfl (by decide +kernel) rfl rfl (fun μ1 hμ1 => ?_)
      have s_276 := hμ1
      have hk_μ1 : μ1 95 20 = nI k := by rw [hμ1, xup_at, if_neg (by omega)]; exact hk
      have hce_μ1 : μ1 95 28 = ce := by rw [hμ1, xup_at, if_neg (by omega)]; exact hce
      have hpn_μ1 : μ1 95 26 = nI p := by rw [hμ1, xup_at, if_neg (by omega)]; exact hpn
      have hit_μ1 : μ1 95 27 = nI i := by rw [hμ1, xup_at, if_neg (by omega)]; exact hit
      have hw_μ1 : μ1 113 ((nI i).toNatClampNeg) = nI q := by rw [hμ1, xup_at, if_neg (by omega)]; exact hw
      have hv_μ1 : μ1 95 29 = 0 := by rw [hμ1, xup_at, if_pos ⟨rfl, rfl⟩]
      refine sx_aload_n (pc := 279) dX6_judge_279 rfl rfl ?_
      refine sx_geti (pc := 280) (ci := 6) (j := 29) dX6_judge_280 rfl s_Mo rfl (by decide) lf_X6_148 ?_
      rw [hv_μ1]
      refine sx_if_eq (pc := 283) (tgt := 341) dX6_judge_283 (by decide) (fun c_283 => ?_) (fun c_283 => absurd c_283 (by decide))
      refine sx_aload_n (pc := 341) dX6_judge_341 rfl rfl ?_
      refine sx_getr (pc := 342) (ci := 6) (j := 18) (r := 113) dX6_judge_342 rfl s_Mo rfl (by decide) lf_X6_63 ?_
      refine sx_aload_n (pc := 345) dX6_judge_345 rfl rfl ?_
      refine sx_geti (pc := 346) (ci := 6) (j := 27) dX6_judge_346 rfl s_Mo rfl (by decide) lf_X6_110 ?_
      rw [hit_μ1]
      refine sx_iald (pc := 349) dX6_judge_349 s_M18 (by decide) rfl (vp_in_nI (by omega) (by decide)) ?_
      rw [hw_μ1]
      exact sx_iret (pc := 350) dX6_judge_350 rfl rfl (Nat.zero_le _) (Nat.zero_le _) (by first | (have hy : oH (hvw μ) i p := ⟨by rw [← e111]; exact Int32.not_le.mp h_235f, fun z => h_253f (by rw [e111]; exact z), bq.mp hno⟩; exact ⟨rfl, (Hm.put Hm.rf hμ1 (by omega)), by rw [jud_H]; (first | rw [ecp] | rw [ecp2]); (first | rw [eci] | rw [eci2]); rw [sH, if_pos hy]; exact hv_H hq hw0 s_276 s_311 (by rw [(nI_clamp (n := i) (by omega))] at s_324; exact s_324) t_338, _, rfl⟩) | (have hy : ¬ oH (hvw μ) i p := (fun z => by first | exact absurd h_235t (Int32.not_le.mpr (by rw [e111]; exact z.1)) | exact z.2.1 (by rw [← e111]; exact h_253t) | exact hin (bq.mpr z.2.2)); exact ⟨rfl, (Hm.put Hm.rf hμ1 (by omega)), by rw [jud_H]; (first | rw [ecp] | rw [ecp2]); (first | rw [eci] | rw [eci2]); rw [sH, if_neg hy]; exact hvw_eq (fun a a1 a2 => by rw [s_276]; funext b; rw [xup_at, if_neg (by omega)]) (by rw [s_276, xup_at, if_neg (by omega)]), _, rfl⟩))
    · have h_235f := c_235
      refine sx_aload_n (pc := 238) dX6_judge_238 rfl rfl ?_
      refine sx_getr (pc := 239) (ci := 6) (j := 16) (r := 111) dX6_judge_239 rfl s_Mo rfl (by decide) lf_X6_57 ?_
      refine sx_aload_n (pc := 242) dX6_judge_242 rfl rfl ?_
      refine sx_geti (pc := 243) (ci := 6) (j := 27) dX6_judge_243 rfl s_Mo rfl (by decide) lf_X6_110 ?_
      rw [hit]
      refine sx_iald (pc := 246) dX6_judge_246 s_M16 (by decide) rfl (vp_in_nI (by omega) (by decide)) ?_
      refine sx_aload_n (pc := 247) dX6_judge_247 rfl rfl ?_
      refine sx_geti (pc := 248) (ci := 6) (j := 26) dX6_judge_248 rfl s_Mo rfl (by decide) lf_X6_104 ?_
      rw [hpn]
      refine sx_iconst (pc := 251) (v := 1) dX6_judge_251 (by decide) ?_
      refine sx_iadd (pc := 252) dX6_judge_252 ?_
      refine sx_icmp_eq (pc := 253) (tgt := 275) dX6_judge_253 (by decide) (fun c_253 => ?_) (fun c_253 => ?_)
      · have h_253t := c_253
        refine sx_iconst (pc := 275) (v := 0) dX6_judge_275 (by decide) ?_
        refine sx_puti (pc := 276) (ci := 6) (j := 29) (ty := .boolean) dX6_judge_276 rfl s_Mo rfl (by decide) lf_X6_148 rfl (by decide +kernel) rfl rfl (fun μ2 hμ2 => ?_)
        have s_276 := hμ2
        have hk_μ2 : μ2 95 20 = nI k := by rw [hμ2, xup_at, if_neg (by omega)]; exact hk
        have hce_μ2 : μ2 95 28 = ce := by rw [hμ2, xup_at, if_neg (by omega)]; exact hce
        have hpn_μ2 : μ2 95 26 = nI p := by rw [hμ2, xup_at, if_neg (by omega)]; exact hpn
        have hit_μ2 : μ2 95 27 = nI i := by rw [hμ2, xup_at, if_neg (by omega)]; exact hit
        have hw_μ2 : μ2 113 ((nI i).toNatClampNeg) = nI q := by rw [hμ2, xup_at, if_neg (by omega)]; exact hw
        have hv_μ2 : μ2 95 29 = 0 := by rw [hμ2, xup_at, if_pos ⟨rfl, rfl⟩]
        refine sx_aload_n (pc := 279) dX6_judge_279 rfl rfl ?_
        refine sx_geti (pc := 280) (ci := 6) (j := 29) dX6_judge_280 rfl s_Mo rfl (by decide) lf_X6_148 ?_
        rw [hv_μ2]
        refine sx_if_eq (pc := 283) (tgt := 341) dX6_judge_283 (by decide) (fun c_283 => ?_) (fun c_283 => absurd c_283 (by decide))
        refine sx_aload_n (pc := 341) dX6_judge_341 rfl rfl ?_
        refine sx_getr (pc := 342) (ci := 6) (j := 18) (r := 113) dX6_judge_342 rfl s_Mo rfl (by decide) lf_X6_63 ?_
        refine sx_aload_n (pc := 345) dX6_judge_345 rfl rfl ?_
        refine sx_geti (pc := 346) (ci := 6) (j := 27) dX6_judge_346 rfl s_Mo rfl (by decide) lf_X6_110 ?_
        rw [hit_μ2]
        refine sx_iald (pc := 349) dX6_judge_349 s_M18 (by decide) rfl (vp_in_nI (by omega) (by decide)) ?_
        rw [hw_μ2]
        exact sx_iret (pc := 350) dX6_judge_350 rfl rfl (Nat.zero_le _) (Nat.zero_le _) (by first | (have hy : oH (hvw μ) i p := ⟨by rw [← e111]; exact Int32.not_le.mp h_235f, fun z => h_253f (by rw [e111]; exact z), bq.mp hno⟩; exact ⟨rfl, (Hm.put Hm.rf hμ2 (by omega)), by rw [jud_H]; (first | rw [ecp] | rw [ecp2]); (first | rw [eci] | rw [eci2]); rw [sH, if_pos hy]; exact hv_H hq hw0 s_276 s_311 (by rw [(nI_clamp (n := i) (by omega))] at s_324; exact s_324) t_338, _, rfl⟩) | (have hy : ¬ oH (hvw μ) i p := (fun z => by first | exact absurd h_235t (Int32.not_le.mpr (by rw [e111]; exact z.1)) | exact z.2.1 (by rw [← e111]; exact h_253t) | exact hin (bq.mpr z.2.2)); exact ⟨rfl, (Hm.put Hm.rf hμ2 (by omega)), by rw [jud_H]; (first | rw [ecp] | rw [ecp2]); (first | rw [eci] | rw [eci2]); rw [sH, if_neg hy]; exact hvw_eq (fun a a1 a2 => by rw [s_276]; funext b; rw [xup_at, if_neg (by omega)]) (by rw [s_276, xup_at, if_neg (by omega)]), _, rfl⟩))
      · have h_253f := c_253
        refine sx_aload_n (pc := 256) dX6_judge_256 rfl rfl ?_
        refine sx_aload_n (pc := 257) dX6_judge_257 rfl rfl ?_
        refine sx_geti (pc := 258) (ci := 6) (j := 27) dX6_judge_258 rfl s_Mo rfl (by decide) lf_X6_110 ?_
        rw [hit]
        refine sx_aload_n (pc := 261) dX6_judge_261 rfl rfl ?_
        refine sx_geti (pc := 262) (ci := 6) (j := 26) dX6_judge_262 rfl s_Mo rfl (by decide) lf_X6_104 ?_
        rw [hpn]
        refine sx_callV (pc := 265) (As := [.int (nI i), .int (nI p)]) dX6_judge_265 (c_place X Ex hE μ i q hi hq hw _) mX6_placeOf lm_X6_168 rfl s_Mo rfl ⟨Nat.le_of_ble_eq_true rfl, Nat.le_of_ble_eq_true rfl⟩ ⟨Nat.le_of_ble_eq_true rfl, Nat.le_of_ble_eq_true rfl⟩ (Nat.le_of_ble_eq_true rfl) hE (fun r_265 sh1 μ3 h_265 => ?_)
        obtain ⟨rfl, rfl, x_265, rfl, hx_265⟩ := h_265
        refine sx_if_ge (pc := 268) (tgt := 275) dX6_judge_268 (by decide) (fun c_268 => ?_) (fun c_268 => ?_)
        · have h_268t := c_268
          have hin := hx_265.elim (fun z => absurd z.1 (Int32.not_lt.mpr h_268t)) (fun z => z.2)
          refine sx_iconst (pc := 275) (v := 0) dX6_judge_275 (by decide) ?_
          refine sx_puti (pc := 276) (ci := 6) (j := 29) (ty := .boolean) dX6_judge_276 rfl s_Mo rfl (by decide) lf_X6_148 rfl (by decide +kernel) rfl rfl (fun μ4 hμ4 => ?_)
          have s_276 := hμ4
          have hk_μ4 : μ4 95 20 = nI k := by rw [hμ4, xup_at, if_neg (by omega)]; exact hk
          have hce_μ4 : μ4 95 28 = ce := by rw [hμ4, xup_at, if_neg (by omega)]; exact hce
          have hpn_μ4 : μ4 95 26 = nI p := by rw [hμ4, xup_at, if_neg (by omega)]; exact hpn
          have hit_μ4 : μ4 95 27 = nI i := by rw [hμ4, xup_at, if_neg (by omega)]; exact hit
          have hw_μ4 : μ4 113 ((nI i).toNatClampNeg) = nI q := by rw [hμ4, xup_at, if_neg (by omega)]; exact hw
          have hv_μ4 : μ4 95 29 = 0 := by rw [hμ4, xup_at, if_pos ⟨rfl, rfl⟩]
          refine sx_aload_n (pc := 279) dX6_judge_279 rfl rfl ?_
          refine sx_geti (pc := 280) (ci := 6) (j := 29) dX6_judge_280 rfl s_Mo rfl (by decide) lf_X6_148 ?_
          rw [hv_μ4]
          refine sx_if_eq (pc := 283) (tgt := 341) dX6_judge_283 (by decide) (fun c_283 => ?_) (fun c_283 => absurd c_283 (by decide))
          refine sx_aload_n (pc := 341) dX6_judge_341 rfl rfl ?_
          refine sx_getr (pc := 342) (ci := 6) (j := 18) (r := 113) dX6_judge_342 rfl s_Mo rfl (by decide) lf_X6_63 ?_
          refine sx_aload_n (pc := 345) dX6_judge_345 rfl rfl ?_
          refine sx_geti (pc := 346) (ci := 6) (j := 27) dX6_judge_346 rfl s_Mo rfl (by decide) lf_X6_110 ?_
          rw [hit_μ4]
          refine sx_iald (pc := 349) dX6_judge_349 s_M18 (by decide) rfl (vp_in_nI (by omega) (by decide)) ?_
          rw [hw_μ4]
          exact sx_iret (pc := 350) dX6_judge_350 rfl rfl (Nat.zero_le _) (Nat.zero_le _) (by first | (have hy : oH (hvw μ) i p := ⟨by rw [← e111]; exact Int32.not_le.mp h_235f, fun z => h_253f (by rw [e111]; exact z), bq.mp hno⟩; exact ⟨rfl, (Hm.put Hm.rf hμ4 (by omega)), by rw [jud_H]; (first | rw [ecp] | rw [ecp2]); (first | rw [eci] | rw [eci2]); rw [sH, if_pos hy]; exact hv_H hq hw0 s_276 s_311 (by rw [(nI_clamp (n := i) (by omega))] at s_324; exact s_324) t_338, _, rfl⟩) | (have hy : ¬ oH (hvw μ) i p := (fun z => by first | exact absurd h_235t (Int32.not_le.mpr (by rw [e111]; exact z.1)) | exact z.2.1 (by rw [← e111]; exact h_253t) | exact hin (bq.mpr z.2.2)); exact ⟨rfl, (Hm.put Hm.rf hμ4 (by omega)), by rw [jud_H]; (first | rw [ecp] | rw [ecp2]); (first | rw [eci] | rw [eci2]); rw [sH, if_neg hy]; exact hvw_eq (fun a a1 a2 => by rw [s_276]; funext b; rw [xup_at, if_neg (by omega)]) (by rw [s_276, xup_at, if_neg (by omega)]), _, rfl⟩))
        · have h_268f := c_268
          have hno := hx_265.elim (fun z => z.2) (fun z => absurd (Int32.not_le.mp h_268f) z.1)
          have hq30 := pig hwi hq hp hno
          refine sx_iconst (pc := 271) (v := 1) dX6_judge_271 (by decide) ?_
          refine sx_goto (pc := 272) (tgt := 276) dX6_judge_272 (by decide) ?_
          refine sx_puti (pc := 276) (ci := 6) (j := 29) (ty := .boolean) dX6_judge_276 rfl s_Mo rfl (by decide) lf_X6_148 rfl (by decide +kernel) rfl rfl (fun μ5 hμ5 => ?_)
          have s_276 := hμ5
          have hk_μ5 : μ5 95 20 = nI k := by rw [hμ5, xup_at, if_neg (by omega)]; exact hk
          have hce_μ5 : μ5 95 28 = ce := by rw [hμ5, xup_at, if_neg (by omega)]; exact hce
          have hpn_μ5 : μ5 95 26 = nI p := by rw [hμ5, xup_at, if_neg (by omega)]; exact hpn
          have hit_μ5 : μ5 95 27 = nI i := by rw [hμ5, xup_at, if_neg (by omega)]; exact hit
          have hw_μ5 : μ5 113 ((nI i).toNatClampNeg) = nI q := by rw [hμ5, xup_at, if_neg (by omega)]; exact hw
          have hv_μ5 : μ5 95 29 = 1 := by rw [hμ5, xup_at, if_pos ⟨rfl, rfl⟩]
          refine sx_aload_n (pc := 279) dX6_judge_279 rfl rfl ?_
          refine sx_geti (pc := 280) (ci := 6) (j := 29) dX6_judge_280 rfl s_Mo rfl (by decide) lf_X6_148 ?_
          rw [hv_μ5]
          refine sx_if_eq (pc := 283) (tgt := 341) dX6_judge_283 (by decide) (fun c_283 => absurd c_283 (by decide)) (fun c_283 => ?_)
          refine sx_aload_n (pc := 286) dX6_judge_286 rfl rfl ?_
          refine sx_getr (pc := 287) (ci := 6) (j := 19) (r := 114) dX6_judge_287 rfl s_Mo rfl (by decide) lf_X6_66 ?_
          refine sx_bipush (pc := 290) (v := 30) dX6_judge_290 (by decide) ?_
          refine sx_aload_n (pc := 292) dX6_judge_292 rfl rfl ?_
          refine sx_geti (pc := 293) (ci := 6) (j := 27) dX6_judge_293 rfl s_Mo rfl (by decide) lf_X6_110 ?_
          rw [hit_μ5]
          refine sx_imul (pc := 296) dX6_judge_296 ?_
          rw [show (30 : Int32) = nI 30 from rfl, pk_mul]
          refine sx_aload_n (pc := 297) dX6_judge_297 rfl rfl ?_
          refine sx_getr (pc := 298) (ci := 6) (j := 18) (r := 113) dX6_judge_298 rfl s_Mo rfl (by decide) lf_X6_63 ?_
          refine sx_aload_n (pc := 301) dX6_judge_301 rfl rfl ?_
          refine sx_geti (pc := 302) (ci := 6) (j := 27) dX6_judge_302 rfl s_Mo rfl (by decide) lf_X6_110 ?_
          rw [hit_μ5]
          refine sx_iald (pc := 305) dX6_judge_305 s_M18 (by decide) rfl (vp_in_nI (by omega) (by decide)) ?_
          rw [hw_μ5]
          refine sx_iadd (pc := 306) dX6_judge_306 ?_
          rw [nI_add]
          refine sx_aload_n (pc := 307) dX6_judge_307 rfl rfl ?_
          refine sx_geti (pc := 308) (ci := 6) (j := 26) dX6_judge_308 rfl s_Mo rfl (by decide) lf_X6_104 ?_
          rw [hpn_μ5]
          refine sx_iast (pc := 311) dX6_judge_311 s_M19 (by decide) rfl (vp_in_nI (by omega) (by decide)) (fun μ6 hμ6 => ?_)
          rw [nI_clamp (n := 30 * i + q) (by omega)] at hμ6; have s_311 := hμ6
          have hk_μ6 : μ6 95 20 = nI k := by rw [hμ6, xup_at, if_neg (by omega)]; exact hk_μ5
          have hce_μ6 : μ6 95 28 = ce := by rw [hμ6, xup_at, if_neg (by omega)]; exact hce_μ5
          have hpn_μ6 : μ6 95 26 = nI p := by rw [hμ6, xup_at, if_neg (by omega)]; exact hpn_μ5
          have hit_μ6 : μ6 95 27 = nI i := by rw [hμ6, xup_at, if_neg (by omega)]; exact hit_μ5
          have hw_μ6 : μ6 113 ((nI i).toNatClampNeg) = nI q := by rw [hμ6, xup_at, if_neg (by omega)]; exact hw_μ5
          have hv_μ6 : μ6 95 29 = 1 := by rw [hμ6, xup_at, if_neg (by omega)]; exact hv_μ5
          refine sx_aload_n (pc := 312) dX6_judge_312 rfl rfl ?_
          refine sx_getr (pc := 313) (ci := 6) (j := 18) (r := 113) dX6_judge_313 rfl s_Mo rfl (by decide) lf_X6_63 ?_
          refine sx_aload_n (pc := 316) dX6_judge_316 rfl rfl ?_
          refine sx_geti (pc := 317) (ci := 6) (j := 27) dX6_judge_317 rfl s_Mo rfl (by decide) lf_X6_110 ?_
          rw [hit_μ6]
          refine sx_dup2 (pc := 320) dX6_judge_320 rfl rfl ?_
          refine sx_iald (pc := 321) dX6_judge_321 s_M18 (by decide) rfl (vp_in_nI (by omega) (by decide)) ?_
          rw [hw_μ6]
          refine sx_iconst (pc := 322) (v := 1) dX6_judge_322 (by decide) ?_
          refine sx_iadd (pc := 323) dX6_judge_323 ?_
          rw [nI_1]
          refine sx_iast (pc := 324) dX6_judge_324 s_M18 (by decide) rfl (vp_in_nI (by omega) (by decide)) (fun μ7 hμ7 => ?_)
          have s_324 := hμ7
          have hk_μ7 : μ7 95 20 = nI k := by rw [hμ7, xup_at, if_neg (by omega)]; exact hk_μ6
          have hce_μ7 : μ7 95 28 = ce := by rw [hμ7, xup_at, if_neg (by omega)]; exact hce_μ6
          have hpn_μ7 : μ7 95 26 = nI p := by rw [hμ7, xup_at, if_neg (by omega)]; exact hpn_μ6
          have hit_μ7 : μ7 95 27 = nI i := by rw [hμ7, xup_at, if_neg (by omega)]; exact hit_μ6
          have hv_μ7 : μ7 95 29 = 1 := by rw [hμ7, xup_at, if_neg (by omega)]; exact hv_μ6
          have hw_μ7 : μ7 113 ((nI i).toNatClampNeg) = nI (q + 1) := by rw [hμ7, xup_at, if_pos ⟨rfl, rfl⟩]
          refine sx_aload_n (pc := 325) dX6_judge_325 rfl rfl ?_
          refine sx_iload_n (pc := 326) dX6_judge_326 rfl rfl ?_
          refine sx_iload_n (pc := 327) dX6_judge_327 rfl rfl ?_
          refine sx_bipush (pc := 328) (v := 72) dX6_judge_328 (by decide) ?_
          refine sx_aload_n (pc := 330) dX6_judge_330 rfl rfl ?_
          refine sx_geti (pc := 331) (ci := 6) (j := 27) dX6_judge_331 rfl s_Mo rfl (by decide) lf_X6_110 ?_
          rw [hit_μ7]
          refine sx_aload_n (pc := 334) dX6_judge_334 rfl rfl ?_
          refine sx_geti (pc := 335) (ci := 6) (j := 26) dX6_judge_335 rfl s_Mo rfl (by decide) lf_X6_104 ?_
          rw [hpn_μ7]
          refine sx_callV (pc := 338) (As := [.int dv, .int n, .int 72, .int (nI i), .int (nI p)]) dX6_judge_338 (c_enter X Ex hE μ7 _ _ _ _ _ k hk2 hk_μ7) mX6_enter lm_X6_155 rfl s_Mo rfl ⟨Nat.le_of_ble_eq_true rfl, Nat.le_of_ble_eq_true rfl⟩ ⟨Nat.le_of_ble_eq_true rfl, Nat.le_of_ble_eq_true rfl⟩ (Nat.le_of_ble_eq_true rfl) hE (fun r_338 sh1 μ8 h_338 => ?_)
          obtain ⟨rfl, rfl, k_338, e_338, t_338⟩ := h_338
          have hce_μ8 : μ8 95 28 = ce := (k_338.2 28 (by decide)).trans hce_μ7
          have hpn_μ8 : μ8 95 26 = nI p := (k_338.2 26 (by decide)).trans hpn_μ7
          have hit_μ8 : μ8 95 27 = nI i := (k_338.2 27 (by decide)).trans hit_μ7
          have hv_μ8 : μ8 95 29 = 1 := (k_338.2 29 (by decide)).trans hv_μ7
          have hw_μ8 : μ8 113 ((nI i).toNatClampNeg) = nI (q + 1) := by rw [k_338.1 113 (by decide) (by decide)]; exact hw_μ7
          have hk_μ8 : μ8 95 20 = nI (k + 1) := e_338
          refine sx_aload_n (pc := 341) dX6_judge_341 rfl rfl ?_
          refine sx_getr (pc := 342) (ci := 6) (j := 18) (r := 113) dX6_judge_342 rfl s_Mo rfl (by decide) lf_X6_63 ?_
          refine sx_aload_n (pc := 345) dX6_judge_345 rfl rfl ?_
          refine sx_geti (pc := 346) (ci := 6) (j := 27) dX6_judge_346 rfl s_Mo rfl (by decide) lf_X6_110 ?_
          rw [hit_μ8]
          refine sx_iald (pc := 349) dX6_judge_349 s_M18 (by decide) rfl (vp_in_nI (by omega) (by decide)) ?_
          rw [hw_μ8]
          exact sx_iret (pc := 350) dX6_judge_350 rfl rfl (Nat.zero_le _) (Nat.zero_le _) (by first | (have hy : oH (hvw μ) i p := ⟨by rw [← e111]; exact Int32.not_le.mp h_235f, fun z => h_253f (by rw [e111]; exact z), bq.mp hno⟩; exact ⟨rfl, (Hm.en (Hm.put (Hm.put (Hm.put Hm.rf hμ5 (by omega)) hμ6 (by omega)) hμ7 (by omega)) k_338), by rw [jud_H]; (first | rw [ecp] | rw [ecp2]); (first | rw [eci] | rw [eci2]); rw [sH, if_pos hy]; exact hv_H hq hw0 s_276 s_311 (by rw [(nI_clamp (n := i) (by omega))] at s_324; exact s_324) t_338, _, rfl⟩) | (have hy : ¬ oH (hvw μ) i p := (fun z => by first | exact absurd h_235t (Int32.not_le.mpr (by rw [e111]; exact z.1)) | exact z.2.1 (by rw [← e111]; exact h_253t) | exact hin (bq.mpr z.2.2)); exact ⟨rfl, (Hm.en (Hm.put (Hm.put (Hm.put Hm.rf hμ5 (by omega)) hμ6 (by omega)) hμ7 (by omega)) k_338), by rw [jud_H]; (first | rw [ecp] | rw [ecp2]); (first | rw [eci] | rw [eci2]); rw [sH, if_neg hy]; exact hvw_eq (fun a a1 a2 => by rw [s_276]; funext b; rw [xup_at, if_neg (by omega)]) (by rw [s_276, xup_at, if_neg (by omega)]), _, rfl⟩))
  · skip
    obtain ⟨p, hp, hpn⟩ := hPp (by decide)
    have ecp2 : (nI p).toNatClampNeg = p := nI_clamp (by omega)
    have ecp : (μ 95 26).toNatClampNeg = p := by rw [hpn]; exact ecp2
    have e110 : μ 110 (nI p).toNatClampNeg = vO (hvw μ) p := by rw [nI_clamp (n := p) (by omega)]; rfl
    obtain ⟨i, hi, hit⟩ := hIi (by decide)
    have eci2 : (nI i).toNatClampNeg = i := nI_clamp (by omega)
    have eci : (μ 95 27).toNatClampNeg = i := by rw [hit]; exact eci2
    obtain ⟨⟨q, hq, hw0, hwi⟩, -⟩ := hW.1 i hi
    have hw0 : μ 113 i = nI q := hw0
    have e111 : μ 111 (nI i).toNatClampNeg = vL (hvw μ) i := by rw [nI_clamp (n := i) (by omega)]; rfl
    have e112 : μ 112 (nI i).toNatClampNeg = vR (hvw μ) i := by rw [nI_clamp (n := i) (by omega)]; rfl
    have hw : μ 113 (nI i).toNatClampNeg = nI q := by rw [nI_clamp (n := i) (by omega)]; exact hw0
    refine sx_tableIn (pc := 4) (off := 347) (tgt := 351) dX6_judge_4 (by decide) (by decide) (by decide) (by decide) ?_
    refine sx_aload_n (pc := 351) dX6_judge_351 rfl rfl ?_
    refine sx_aload_n (pc := 352) dX6_judge_352 rfl rfl ?_
    refine sx_getr (pc := 353) (ci := 6) (j := 16) (r := 111) dX6_judge_353 rfl s_Mo rfl (by decide) lf_X6_57 ?_
    refine sx_aload_n (pc := 356) dX6_judge_356 rfl rfl ?_
    refine sx_geti (pc := 357) (ci := 6) (j := 27) dX6_judge_357 rfl s_Mo rfl (by decide) lf_X6_110 ?_
    rw [hit]
    refine sx_iald (pc := 360) dX6_judge_360 s_M16 (by decide) rfl (vp_in_nI (by omega) (by decide)) ?_
    refine sx_aload_n (pc := 361) dX6_judge_361 rfl rfl ?_
    refine sx_geti (pc := 362) (ci := 6) (j := 26) dX6_judge_362 rfl s_Mo rfl (by decide) lf_X6_104 ?_
    rw [hpn]
    refine sx_iconst (pc := 365) (v := 1) dX6_judge_365 (by decide) ?_
    refine sx_iadd (pc := 366) dX6_judge_366 ?_
    refine sx_icmp_ne (pc := 367) (tgt := 399) dX6_judge_367 (by decide) (fun c_367 => ?_) (fun c_367 => ?_)
    · have h_367t := c_367
      refine sx_iconst (pc := 399) (v := 0) dX6_judge_399 (by decide) ?_
      refine sx_puti (pc := 400) (ci := 6) (j := 29) (ty := .boolean) dX6_judge_400 rfl s_Mo rfl (by decide) lf_X6_148 rfl (by decide +kernel) rfl rfl (fun μ1 hμ1 => ?_)
      have s_400 := hμ1
      have hk_μ1 : μ1 95 20 = nI k := by rw [hμ1, xup_at, if_neg (by omega)]; exact hk
      have hce_μ1 : μ1 95 28 = ce := by rw [hμ1, xup_at, if_neg (by omega)]; exact hce
      have hpn_μ1 : μ1 95 26 = nI p := by rw [hμ1, xup_at, if_neg (by omega)]; exact hpn
      have hit_μ1 : μ1 95 27 = nI i := by rw [hμ1, xup_at, if_neg (by omega)]; exact hit
      have hw_μ1 : μ1 113 ((nI i).toNatClampNeg) = nI q := by rw [hμ1, xup_at, if_neg (by omega)]; exact hw
      have hv_μ1 : μ1 95 29 = 0 := by rw [hμ1, xup_at, if_pos ⟨rfl, rfl⟩]
      refine sx_aload_n (pc := 403) dX6_judge_403 rfl rfl ?_
      refine sx_getr (pc := 404) (ci := 6) (j := 17) (r := 112) dX6_judge_404 rfl s_Mo rfl (by decide) lf_X6_60 ?_
      refine sx_aload_n (pc := 407) dX6_judge_407 rfl rfl ?_
      refine sx_geti (pc := 408) (ci := 6) (j := 27) dX6_judge_408 rfl s_Mo rfl (by decide) lf_X6_110 ?_
      rw [hit_μ1]
      refine sx_dup2 (pc := 411) dX6_judge_411 rfl rfl ?_
      refine sx_iald (pc := 412) dX6_judge_412 s_M17 (by decide) rfl (vp_in_nI (by omega) (by decide)) ?_
      refine sx_aload_n (pc := 413) dX6_judge_413 rfl rfl ?_
      refine sx_geti (pc := 414) (ci := 6) (j := 29) dX6_judge_414 rfl s_Mo rfl (by decide) lf_X6_148 ?_
      rw [hv_μ1]
      refine sx_if_eq (pc := 417) (tgt := 424) dX6_judge_417 (by decide) (fun c_417 => ?_) (fun c_417 => absurd c_417 (by decide))
      refine sx_iconst (pc := 424) (v := 0) dX6_judge_424 (by decide) ?_
      refine sx_iadd (pc := 425) dX6_judge_425 ?_
      refine sx_iast (pc := 426) dX6_judge_426 s_M17 (by decide) rfl (vp_in_nI (by omega) (by decide)) (fun μ2 hμ2 => ?_)
      have s_426 := hμ2
      have hk_μ2 : μ2 95 20 = nI k := by rw [hμ2, xup_at, if_neg (by omega)]; exact hk_μ1
      have hce_μ2 : μ2 95 28 = ce := by rw [hμ2, xup_at, if_neg (by omega)]; exact hce_μ1
      have hpn_μ2 : μ2 95 26 = nI p := by rw [hμ2, xup_at, if_neg (by omega)]; exact hpn_μ1
      have hit_μ2 : μ2 95 27 = nI i := by rw [hμ2, xup_at, if_neg (by omega)]; exact hit_μ1
      have hw_μ2 : μ2 113 ((nI i).toNatClampNeg) = nI q := by rw [hμ2, xup_at, if_neg (by omega)]; exact hw_μ1
      have hv_μ2 : μ2 95 29 = 0 := by rw [hμ2, xup_at, if_neg (by omega)]; exact hv_μ1
      refine sx_aload_n (pc := 427) dX6_judge_427 rfl rfl ?_
      refine sx_geti (pc := 428) (ci := 6) (j := 29) dX6_judge_428 rfl s_Mo rfl (by decide) lf_X6_148 ?_
      rw [hv_μ2]
      refine sx_if_eq (pc := 431) (tgt := 450) dX6_judge_431 (by decide) (fun c_431 => ?_) (fun c_431 => absurd c_431 (by decide))
      refine sx_aload_n (pc := 450) dX6_judge_450 rfl rfl ?_
      refine sx_getr (pc := 451) (ci := 6) (j := 17) (r := 112) dX6_judge_451 rfl s_Mo rfl (by decide) lf_X6_60 ?_
      refine sx_aload_n (pc := 454) dX6_judge_454 rfl rfl ?_
      refine sx_geti (pc := 455) (ci := 6) (j := 27) dX6_judge_455 rfl s_Mo rfl (by decide) lf_X6_110 ?_
      rw [hit_μ2]
      refine sx_iald (pc := 458) dX6_judge_458 s_M17 (by decide) rfl (vp_in_nI (by omega) (by decide)) ?_
      exact sx_iret (pc := 459) dX6_judge_459 rfl rfl (Nat.zero_le _) (Nat.zero_le _) (by first | (have hy : oR (hvw μ) i p := ⟨by rw [← e111]; exact h_367f, by rw [show vW (hvw μ) i = nI q from hw0]; exact h_379f, by rw [← e112]; exact Int32.not_le.mp h_392f⟩; exact ⟨rfl, (Hm.put (Hm.put Hm.rf hμ1 (by omega)) hμ2 (by omega)), by rw [jud_R]; (first | rw [ecp] | rw [ecp2]); (first | rw [eci] | rw [eci2]); rw [sR, if_pos hy]; exact hv_R s_400 (by rw [(nI_clamp (n := i) (by omega))] at s_426; exact s_426) t_447, _, rfl⟩) | (have hy : ¬ oR (hvw μ) i p := (fun z => by first | exact h_367t (by rw [e111]; exact z.1) | exact h_379t (by rw [← hw0]; exact z.2.1) | exact absurd h_392t (Int32.not_le.mpr (by rw [e112]; exact z.2.2))); exact ⟨rfl, (Hm.put (Hm.put Hm.rf hμ1 (by omega)) hμ2 (by omega)), by rw [jud_R]; (first | rw [ecp] | rw [ecp2]); (first | rw [eci] | rw [eci2]); rw [sR, if_neg hy]; exact hv_R0 s_400 (by rw [(nI_clamp (n := i) (by omega))] at s_426; exact s_426), _, rfl⟩))
    · have h_367f := c_367
      refine sx_aload_n (pc := 370) dX6_judge_370 rfl rfl ?_
      refine sx_getr (pc := 371) (ci := 6) (j := 18) (r := 113) dX6_judge_371 rfl s_Mo rfl (by decide) lf_X6_63 ?_
      refine sx_aload_n (pc := 374) dX6_judge_374 rfl rfl ?_
      refine sx_geti (pc := 375) (ci := 6) (j := 27) dX6_judge_375 rfl s_Mo rfl (by decide) lf_X6_110 ?_
      rw [hit]
      refine sx_iald (pc := 378) dX6_judge_378 s_M18 (by decide) rfl (vp_in_nI (by omega) (by decide)) ?_
      rw [hw]
      refine sx_if_ne (pc := 379) (tgt := 399) dX6_judge_379 (by decide) (fun c_379 => ?_) (fun c_379 => ?_)
      · have h_379t := c_379
        refine sx_iconst (pc := 399) (v := 0) dX6_judge_399 (by decide) ?_
        refine sx_puti (pc := 400) (ci := 6) (j := 29) (ty := .boolean) dX6_judge_400 rfl s_Mo rfl (by decide) lf_X6_148 rfl (by decide +kernel) rfl rfl (fun μ3 hμ3 => ?_)
        have s_400 := hμ3
        have hk_μ3 : μ3 95 20 = nI k := by rw [hμ3, xup_at, if_neg (by omega)]; exact hk
        have hce_μ3 : μ3 95 28 = ce := by rw [hμ3, xup_at, if_neg (by omega)]; exact hce
        have hpn_μ3 : μ3 95 26 = nI p := by rw [hμ3, xup_at, if_neg (by omega)]; exact hpn
        have hit_μ3 : μ3 95 27 = nI i := by rw [hμ3, xup_at, if_neg (by omega)]; exact hit
        have hw_μ3 : μ3 113 ((nI i).toNatClampNeg) = nI q := by rw [hμ3, xup_at, if_neg (by omega)]; exact hw
        have hv_μ3 : μ3 95 29 = 0 := by rw [hμ3, xup_at, if_pos ⟨rfl, rfl⟩]
        refine sx_aload_n (pc := 403) dX6_judge_403 rfl rfl ?_
        refine sx_getr (pc := 404) (ci := 6) (j := 17) (r := 112) dX6_judge_404 rfl s_Mo rfl (by decide) lf_X6_60 ?_
        refine sx_aload_n (pc := 407) dX6_judge_407 rfl rfl ?_
        refine sx_geti (pc := 408) (ci := 6) (j := 27) dX6_judge_408 rfl s_Mo rfl (by decide) lf_X6_110 ?_
        rw [hit_μ3]
        refine sx_dup2 (pc := 411) dX6_judge_411 rfl rfl ?_
        refine sx_iald (pc := 412) dX6_judge_412 s_M17 (by decide) rfl (vp_in_nI (by omega) (by decide)) ?_
        refine sx_aload_n (pc := 413) dX6_judge_413 rfl rfl ?_
        refine sx_geti (pc := 414) (ci := 6) (j := 29) dX6_judge_414 rfl s_Mo rfl (by decide) lf_X6_148 ?_
        rw [hv_μ3]
        refine sx_if_eq (pc := 417) (tgt := 424) dX6_judge_417 (by decide) (fun c_417 => ?_) (fun c_417 => absurd c_417 (by decide))
        refine sx_iconst (pc := 424) (v := 0) dX6_judge_424 (by decide) ?_
        refine sx_iadd (pc := 425) dX6_judge_425 ?_
        refine sx_iast (pc := 426) dX6_judge_426 s_M17 (by decide) rfl (vp_in_nI (by omega) (by decide)) (fun μ4 hμ4 => ?_)
        have s_426 := hμ4
        have hk_μ4 : μ4 95 20 = nI k := by rw [hμ4, xup_at, if_neg (by omega)]; exact hk_μ3
        have hce_μ4 : μ4 95 28 = ce := by rw [hμ4, xup_at, if_neg (by omega)]; exact hce_μ3
        have hpn_μ4 : μ4 95 26 = nI p := by rw [hμ4, xup_at, if_neg (by omega)]; exact hpn_μ3
        have hit_μ4 : μ4 95 27 = nI i := by rw [hμ4, xup_at, if_neg (by omega)]; exact hit_μ3
        have hw_μ4 : μ4 113 ((nI i).toNatClampNeg) = nI q := by rw [hμ4, xup_at, if_neg (by omega)]; exact hw_μ3
        have hv_μ4 : μ4 95 29 = 0 := by rw [hμ4, xup_at, if_neg (by omega)]; exact hv_μ3
        refine sx_aload_n (pc := 427) dX6_judge_427 rfl rfl ?_
        refine sx_geti (pc := 428) (ci := 6) (j := 29) dX6_judge_428 rfl s_Mo rfl (by decide) lf_X6_148 ?_
        rw [hv_μ4]
        refine sx_if_eq (pc := 431) (tgt := 450) dX6_judge_431 (by decide) (fun c_431 => ?_) (fun c_431 => absurd c_431 (by decide))
        refine sx_aload_n (pc := 450) dX6_judge_450 rfl rfl ?_
        refine sx_getr (pc := 451) (ci := 6) (j := 17) (r := 112) dX6_judge_451 rfl s_Mo rfl (by decide) lf_X6_60 ?_
        refine sx_aload_n (pc := 454) dX6_judge_454 rfl rfl ?_
        refine sx_geti (pc := 455) (ci := 6) (j := 27) dX6_judge_455 rfl s_Mo rfl (by decide) lf_X6_110 ?_
        rw [hit_μ4]
        refine sx_iald (pc := 458) dX6_judge_458 s_M17 (by decide) rfl (vp_in_nI (by omega) (by decide)) ?_
        exact sx_iret (pc := 459) dX6_judge_459 rfl rfl (Nat.zero_le _) (Nat.zero_le _) (by first | (have hy : oR (hvw μ) i p := ⟨by rw [← e111]; exact h_367f, by rw [show vW (hvw μ) i = nI q from hw0]; exact h_379f, by rw [← e112]; exact Int32.not_le.mp h_392f⟩; exact ⟨rfl, (Hm.put (Hm.put Hm.rf hμ3 (by omega)) hμ4 (by omega)), by rw [jud_R]; (first | rw [ecp] | rw [ecp2]); (first | rw [eci] | rw [eci2]); rw [sR, if_pos hy]; exact hv_R s_400 (by rw [(nI_clamp (n := i) (by omega))] at s_426; exact s_426) t_447, _, rfl⟩) | (have hy : ¬ oR (hvw μ) i p := (fun z => by first | exact h_367t (by rw [e111]; exact z.1) | exact h_379t (by rw [← hw0]; exact z.2.1) | exact absurd h_392t (Int32.not_le.mpr (by rw [e112]; exact z.2.2))); exact ⟨rfl, (Hm.put (Hm.put Hm.rf hμ3 (by omega)) hμ4 (by omega)), by rw [jud_R]; (first | rw [ecp] | rw [ecp2]); (first | rw [eci] | rw [eci2]); rw [sR, if_neg hy]; exact hv_R0 s_400 (by rw [(nI_clamp (n := i) (by omega))] at s_426; exact s_426), _, rfl⟩))
      · have h_379f := c_379
        refine sx_aload_n (pc := 382) dX6_judge_382 rfl rfl ?_
        refine sx_getr (pc := 383) (ci := 6) (j := 17) (r := 112) dX6_judge_383 rfl s_Mo rfl (by decide) lf_X6_60 ?_
        refine sx_aload_n (pc := 386) dX6_judge_386 rfl rfl ?_
        refine sx_geti (pc := 387) (ci := 6) (j := 27) dX6_judge_387 rfl s_Mo rfl (by decide) lf_X6_110 ?_
        rw [hit]
        refine sx_iald (pc := 390) dX6_judge_390 s_M17 (by decide) rfl (vp_in_nI (by omega) (by decide)) ?_
        refine sx_iconst (pc := 391) (v := 2) dX6_judge_391 (by decide) ?_
        refine sx_icmp_ge (pc := 392) (tgt := 399) dX6_judge_392 (by decide) (fun c_392 => ?_) (fun c_392 => ?_)
        · have h_392t := c_392
          refine sx_iconst (pc := 399) (v := 0) dX6_judge_399 (by decide) ?_
          refine sx_puti (pc := 400) (ci := 6) (j := 29) (ty := .boolean) dX6_judge_400 rfl s_Mo rfl (by decide) lf_X6_148 rfl (by decide +kernel) rfl rfl (fun μ5 hμ5 => ?_)
          have s_400 := hμ5
          have hk_μ5 : μ5 95 20 = nI k := by rw [hμ5, xup_at, if_neg (by omega)]; exact hk
          have hce_μ5 : μ5 95 28 = ce := by rw [hμ5, xup_at, if_neg (by omega)]; exact hce
          have hpn_μ5 : μ5 95 26 = nI p := by rw [hμ5, xup_at, if_neg (by omega)]; exact hpn
          have hit_μ5 : μ5 95 27 = nI i := by rw [hμ5, xup_at, if_neg (by omega)]; exact hit
          have hw_μ5 : μ5 113 ((nI i).toNatClampNeg) = nI q := by rw [hμ5, xup_at, if_neg (by omega)]; exact hw
          have hv_μ5 : μ5 95 29 = 0 := by rw [hμ5, xup_at, if_pos ⟨rfl, rfl⟩]
          refine sx_aload_n (pc := 403) dX6_judge_403 rfl rfl ?_
          refine sx_getr (pc := 404) (ci := 6) (j := 17) (r := 112) dX6_judge_404 rfl s_Mo rfl (by decide) lf_X6_60 ?_
          refine sx_aload_n (pc := 407) dX6_judge_407 rfl rfl ?_
          refine sx_geti (pc := 408) (ci := 6) (j := 27) dX6_judge_408 rfl s_Mo rfl (by decide) lf_X6_110 ?_
          rw [hit_μ5]
          refine sx_dup2 (pc := 411) dX6_judge_411 rfl rfl ?_
          refine sx_iald (pc := 412) dX6_judge_412 s_M17 (by decide) rfl (vp_in_nI (by omega) (by decide)) ?_
          refine sx_aload_n (pc := 413) dX6_judge_413 rfl rfl ?_
          refine sx_geti (pc := 414) (ci := 6) (j := 29) dX6_judge_414 rfl s_Mo rfl (by decide) lf_X6_148 ?_
          rw [hv_μ5]
          refine sx_if_eq (pc := 417) (tgt := 424) dX6_judge_417 (by decide) (fun c_417 => ?_) (fun c_417 => absurd c_417 (by decide))
          refine sx_iconst (pc := 424) (v := 0) dX6_judge_424 (by decide) ?_
          refine sx_iadd (pc := 425) dX6_judge_425 ?_
          refine sx_iast (pc := 426) dX6_judge_426 s_M17 (by decide) rfl (vp_in_nI (by omega) (by decide)) (fun μ6 hμ6 => ?_)
          have s_426 := hμ6
          have hk_μ6 : μ6 95 20 = nI k := by rw [hμ6, xup_at, if_neg (by omega)]; exact hk_μ5
          have hce_μ6 : μ6 95 28 = ce := by rw [hμ6, xup_at, if_neg (by omega)]; exact hce_μ5
          have hpn_μ6 : μ6 95 26 = nI p := by rw [hμ6, xup_at, if_neg (by omega)]; exact hpn_μ5
          have hit_μ6 : μ6 95 27 = nI i := by rw [hμ6, xup_at, if_neg (by omega)]; exact hit_μ5
          have hw_μ6 : μ6 113 ((nI i).toNatClampNeg) = nI q := by rw [hμ6, xup_at, if_neg (by omega)]; exact hw_μ5
          have hv_μ6 : μ6 95 29 = 0 := by rw [hμ6, xup_at, if_neg (by omega)]; exact hv_μ5
          refine sx_aload_n (pc := 427) dX6_judge_427 rfl rfl ?_
          refine sx_geti (pc := 428) (ci := 6) (j := 29) dX6_judge_428 rfl s_Mo rfl (by decide) lf_X6_148 ?_
          rw [hv_μ6]
          refine sx_if_eq (pc := 431) (tgt := 450) dX6_judge_431 (by decide) (fun c_431 => ?_) (fun c_431 => absurd c_431 (by decide))
          refine sx_aload_n (pc := 450) dX6_judge_450 rfl rfl ?_
          refine sx_getr (pc := 451) (ci := 6) (j := 17) (r := 112) dX6_judge_451 rfl s_Mo rfl (by decide) lf_X6_60 ?_
          refine sx_aload_n (pc := 454) dX6_judge_454 rfl rfl ?_
          refine sx_geti (pc := 455) (ci := 6) (j := 27) dX6_judge_455 rfl s_Mo rfl (by decide) lf_X6_110 ?_
          rw [hit_μ6]
          refine sx_iald (pc := 458) dX6_judge_458 s_M17 (by decide) rfl (vp_in_nI (by omega) (by decide)) ?_
          exact sx_iret (pc := 459) dX6_judge_459 rfl rfl (Nat.zero_le _) (Nat.zero_le _) (by first | (have hy : oR (hvw μ) i p := ⟨by rw [← e111]; exact h_367f, by rw [show vW (hvw μ) i = nI q from hw0]; exact h_379f, by rw [← e112]; exact Int32.not_le.mp h_392f⟩; exact ⟨rfl, (Hm.put (Hm.put Hm.rf hμ5 (by omega)) hμ6 (by omega)), by rw [jud_R]; (first | rw [ecp] | rw [ecp2]); (first | rw [eci] | rw [eci2]); rw [sR, if_pos hy]; exact hv_R s_400 (by rw [(nI_clamp (n := i) (by omega))] at s_426; exact s_426) t_447, _, rfl⟩) | (have hy : ¬ oR (hvw μ) i p := (fun z => by first | exact h_367t (by rw [e111]; exact z.1) | exact h_379t (by rw [← hw0]; exact z.2.1) | exact absurd h_392t (Int32.not_le.mpr (by rw [e112]; exact z.2.2))); exact ⟨rfl, (Hm.put (Hm.put Hm.rf hμ5 (by omega)) hμ6 (by omega)), by rw [jud_R]; (first | rw [ecp] | rw [ecp2]); (first | rw [eci] | rw [eci2]); rw [sR, if_neg hy]; exact hv_R0 s_400 (by rw [(nI_clamp (n := i) (by omega))] at s_426; exact s_426), _, rfl⟩))
        · have h_392f := c_392
          refine sx_iconst (pc := 395) (v := 1) dX6_judge_395 (by decide) ?_
          refine sx_goto (pc := 396) (tgt := 400) dX6_judge_396 (by decide) ?_
          refine sx_puti (pc := 400) (ci := 6) (j := 29) (ty := .boolean) dX6_judge_400 rfl s_Mo rfl (by decide) lf_X6_148 rfl (by decide +kernel) rfl rfl (fun μ7 hμ7 => ?_)
          have s_400 := hμ7
          have hk_μ7 : μ7 95 20 = nI k := by rw [hμ7, xup_at, if_neg (by omega)]; exact hk
          have hce_μ7 : μ7 95 28 = ce := by rw [hμ7, xup_at, if_neg (by omega)]; exact hce
          have hpn_μ7 : μ7 95 26 = nI p := by rw [hμ7, xup_at, if_neg (by omega)]; exact hpn
          have hit_μ7 : μ7 95 27 = nI i := by rw [hμ7, xup_at, if_neg (by omega)]; exact hit
          have hw_μ7 : μ7 113 ((nI i).toNatClampNeg) = nI q := by rw [hμ7, xup_at, if_neg (by omega)]; exact hw
          have hv_μ7 : μ7 95 29 = 1 := by rw [hμ7, xup_at, if_pos ⟨rfl, rfl⟩]
          refine sx_aload_n (pc := 403) dX6_judge_403 rfl rfl ?_
          refine sx_getr (pc := 404) (ci := 6) (j := 17) (r := 112) dX6_judge_404 rfl s_Mo rfl (by decide) lf_X6_60 ?_
          refine sx_aload_n (pc := 407) dX6_judge_407 rfl rfl ?_
          refine sx_geti (pc := 408) (ci := 6) (j := 27) dX6_judge_408 rfl s_Mo rfl (by decide) lf_X6_110 ?_
          rw [hit_μ7]
          refine sx_dup2 (pc := 411) dX6_judge_411 rfl rfl ?_
          refine sx_iald (pc := 412) dX6_judge_412 s_M17 (by decide) rfl (vp_in_nI (by omega) (by decide)) ?_
          refine sx_aload_n (pc := 413) dX6_judge_413 rfl rfl ?_
          refine sx_geti (pc := 414) (ci := 6) (j := 29) dX6_judge_414 rfl s_Mo rfl (by decide) lf_X6_148 ?_
          rw [hv_μ7]
          refine sx_if_eq (pc := 417) (tgt := 424) dX6_judge_417 (by decide) (fun c_417 => absurd c_417 (by decide)) (fun c_417 => ?_)
          refine sx_iconst (pc := 420) (v := 1) dX6_judge_420 (by decide) ?_
          refine sx_goto (pc := 421) (tgt := 425) dX6_judge_421 (by decide) ?_
          refine sx_iadd (pc := 425) dX6_judge_425 ?_
          refine sx_iast (pc := 426) dX6_judge_426 s_M17 (by decide) rfl (vp_in_nI (by omega) (by decide)) (fun μ8 hμ8 => ?_)
          have s_426 := hμ8
          have hk_μ8 : μ8 95 20 = nI k := by rw [hμ8, xup_at, if_neg (by omega)]; exact hk_μ7
          have hce_μ8 : μ8 95 28 = ce := by rw [hμ8, xup_at, if_neg (by omega)]; exact hce_μ7
          have hpn_μ8 : μ8 95 26 = nI p := by rw [hμ8, xup_at, if_neg (by omega)]; exact hpn_μ7
          have hit_μ8 : μ8 95 27 = nI i := by rw [hμ8, xup_at, if_neg (by omega)]; exact hit_μ7
          have hw_μ8 : μ8 113 ((nI i).toNatClampNeg) = nI q := by rw [hμ8, xup_at, if_neg (by omega)]; exact hw_μ7
          have hv_μ8 : μ8 95 29 = 1 := by rw [hμ8, xup_at, if_neg (by omega)]; exact hv_μ7
          refine sx_aload_n (pc := 427) dX6_judge_427 rfl rfl ?_
          refine sx_geti (pc := 428) (ci := 6) (j := 29) dX6_judge_428 rfl s_Mo rfl (by decide) lf_X6_148 ?_
          rw [hv_μ8]
          refine sx_if_eq (pc := 431) (tgt := 450) dX6_judge_431 (by decide) (fun c_431 => absurd c_431 (by decide)) (fun c_431 => ?_)
          refine sx_aload_n (pc := 434) dX6_judge_434 rfl rfl ?_
          refine sx_iload_n (pc := 435) dX6_judge_435 rfl rfl ?_
          refine sx_iload_n (pc := 436) dX6_judge_436 rfl rfl ?_
          refine sx_bipush (pc := 437) (v := 82) dX6_judge_437 (by decide) ?_
          refine sx_aload_n (pc := 439) dX6_judge_439 rfl rfl ?_
          refine sx_geti (pc := 440) (ci := 6) (j := 27) dX6_judge_440 rfl s_Mo rfl (by decide) lf_X6_110 ?_
          rw [hit_μ8]
          refine sx_aload_n (pc := 443) dX6_judge_443 rfl rfl ?_
          refine sx_geti (pc := 444) (ci := 6) (j := 26) dX6_judge_444 rfl s_Mo rfl (by decide) lf_X6_104 ?_
          rw [hpn_μ8]
          refine sx_callV (pc := 447) (As := [.int dv, .int n, .int 82, .int (nI i), .int (nI p)]) dX6_judge_447 (c_enter X Ex hE μ8 _ _ _ _ _ k hk2 hk_μ8) mX6_enter lm_X6_155 rfl s_Mo rfl ⟨Nat.le_of_ble_eq_true rfl, Nat.le_of_ble_eq_true rfl⟩ ⟨Nat.le_of_ble_eq_true rfl, Nat.le_of_ble_eq_true rfl⟩ (Nat.le_of_ble_eq_true rfl) hE (fun r_447 sh1 μ9 h_447 => ?_)
          obtain ⟨rfl, rfl, k_447, e_447, t_447⟩ := h_447
          have hce_μ9 : μ9 95 28 = ce := (k_447.2 28 (by decide)).trans hce_μ8
          have hpn_μ9 : μ9 95 26 = nI p := (k_447.2 26 (by decide)).trans hpn_μ8
          have hit_μ9 : μ9 95 27 = nI i := (k_447.2 27 (by decide)).trans hit_μ8
          have hw_μ9 : μ9 113 ((nI i).toNatClampNeg) = nI q := by rw [k_447.1 113 (by decide) (by decide)]; exact hw_μ8
          have hv_μ9 : μ9 95 29 = 1 := (k_447.2 29 (by decide)).trans hv_μ8
          have hk_μ9 : μ9 95 20 = nI (k + 1) := e_447
          refine sx_aload_n (pc := 450) dX6_judge_450 rfl rfl ?_
          refine sx_getr (pc := 451) (ci := 6) (j := 17) (r := 112) dX6_judge_451 rfl s_Mo rfl (by decide) lf_X6_60 ?_
          refine sx_aload_n (pc := 454) dX6_judge_454 rfl rfl ?_
          refine sx_geti (pc := 455) (ci := 6) (j := 27) dX6_judge_455 rfl s_Mo rfl (by decide) lf_X6_110 ?_
          rw [hit_μ9]
          refine sx_iald (pc := 458) dX6_judge_458 s_M17 (by decide) rfl (vp_in_nI (by omega) (by decide)) ?_
          exact sx_iret (pc := 459) dX6_judge_459 rfl rfl (Nat.zero_le _) (Nat.zero_le _) (by first | (have hy : oR (hvw μ) i p := ⟨by rw [← e111]; exact h_367f, by rw [show vW (hvw μ) i = nI q from hw0]; exact h_379f, by rw [← e112]; exact Int32.not_le.mp h_392f⟩; exact ⟨rfl, (Hm.en (Hm.put (Hm.put Hm.rf hμ7 (by omega)) hμ8 (by omega)) k_447), by rw [jud_R]; (first | rw [ecp] | rw [ecp2]); (first | rw [eci] | rw [eci2]); rw [sR, if_pos hy]; exact hv_R s_400 (by rw [(nI_clamp (n := i) (by omega))] at s_426; exact s_426) t_447, _, rfl⟩) | (have hy : ¬ oR (hvw μ) i p := (fun z => by first | exact h_367t (by rw [e111]; exact z.1) | exact h_379t (by rw [← hw0]; exact z.2.1) | exact absurd h_392t (Int32.not_le.mpr (by rw [e112]; exact z.2.2))); exact ⟨rfl, (Hm.en (Hm.put (Hm.put Hm.rf hμ7 (by omega)) hμ8 (by omega)) k_447), by rw [jud_R]; (first | rw [ecp] | rw [ecp2]); (first | rw [eci] | rw [eci2]); rw [sR, if_neg hy]; exact hv_R0 s_400 (by rw [(nI_clamp (n := i) (by omega))] at s_426; exact s_426), _, rfl⟩))
  · exact absurd rfl hQ
