theorem eq60 {x : Int32} {n : Nat} (hn : n < 2 ^ 31) (h0 : 0 ≤ x) (h1 : x ≤ nI n) (h2 : ¬ (0 ≤ x ∧ x < nI n)) : x = nI n := by
  obtain ⟨j, hj, rfl⟩ := nI_of (Int32.not_lt.mpr h0)
  rw [nI_leI hj hn] at h1
  have h3 : ¬ j < n := fun q => h2 ⟨h0, nI_lt q hn⟩
  have : j = n := by omega
  rw [this]
section OPS
variable {μ μ' : xM} {v : VT} {dev : Int32} {r : Option Value}
theorem oct_take {b : Int32} (hV : Vc μ v) (hD : VD v) (hb : 0 ≤ dev ∧ dev < 6) (hn : μ (2 + 9 * dev.toNatClampNeg) 2 = 0 → ¬ b &&& 255 = 13) (k : Ch (fun a => a = 2 + 9 * dev.toNatClampNeg ∨ a = 2 + 9 * dev.toNatClampNeg + 1) μ μ') (e11 : μ' (2 + 9 * dev.toNatClampNeg) 11 = μ (2 + 9 * dev.toNatClampNeg) 11)
    (hc : (¬ μ (2 + 9 * dev.toNatClampNeg) 2 = 0 ∧ μ' (2 + 9 * dev.toNatClampNeg) 2 = μ (2 + 9 * dev.toNatClampNeg) 2 ∧ r = some (.int (-2))) ∨ (μ (2 + 9 * dev.toNatClampNeg) 2 = 0 ∧ (0 ≤ μ (2 + 9 * dev.toNatClampNeg) 1 ∧ μ (2 + 9 * dev.toNatClampNeg) 1 < 60) ∧ μ' (2 + 9 * dev.toNatClampNeg) 2 = 0 ∧ μ' (2 + 9 * dev.toNatClampNeg) 1 = μ (2 + 9 * dev.toNatClampNeg) 1 + 1 ∧ r = some (.int (μ (2 + 9 * dev.toNatClampNeg) 1 + 1))) ∨ (μ (2 + 9 * dev.toNatClampNeg) 2 = 0 ∧ ¬ (0 ≤ μ (2 + 9 * dev.toNatClampNeg) 1 ∧ μ (2 + 9 * dev.toNatClampNeg) 1 < 60) ∧ μ' (2 + 9 * dev.toNatClampNeg) 2 = 1 ∧ r = some (.int (-2)))) : Ks μ μ' ∧ Vc μ' (oOct dev b v).1 ∧ r = some (.int (oOct dev b v).2) := by
  have hd := clamp_lt (n := 6) hb.1 hb.2 (by decide)
  have hl := hV.1 _ hd
  have hv := hD.1 _ hd
  have hK : Ks μ μ' := fun a ha => k.1 a (fun z => by rcases z with z | z <;> omega)
  have ho : ∀ e, e < 6 → e ≠ dev.toNatClampNeg → μ' (2 + 9 * e) = μ (2 + 9 * e) ∧ μ' (2 + 9 * e + 7) = μ (2 + 9 * e + 7) ∧ μ' (2 + 9 * e + 8) = μ (2 + 9 * e + 8) := fun e he hne => ⟨k.1 _ (fun z => by rcases z with z | z <;> omega), k.1 _ (fun z => by rcases z with z | z <;> omega), k.1 _ (fun z => by rcases z with z | z <;> omega)⟩
  have h0 : μ' 0 = μ 0 := k.1 0 (fun z => by rcases z with z | z <;> omega)
  have hLB := k.2 hV.2.2
  have e7 : μ' (2 + 9 * dev.toNatClampNeg + 7) = μ (2 + 9 * dev.toNatClampNeg + 7) := k.1 _ (fun z => by rcases z with z | z <;> omega)
  have e8 : μ' (2 + 9 * dev.toNatClampNeg + 8) = μ (2 + 9 * dev.toNatClampNeg + 8) := k.1 _ (fun z => by rcases z with z | z <;> omega)
  unfold Ln at hl
  rw [oOct, if_pos hb]
  rcases hc with ⟨a1, a2, rfl⟩ | ⟨a1, a2, a3, a4, rfl⟩ | ⟨a1, a2, a3, rfl⟩
  · rw [if_neg (by rw [← hl.1]; exact a1)]
    exact ⟨hK, hV.upd hLB h0 rfl ho (fun _ _ => ⟨rfl, rfl, rfl⟩) ⟨by rw [a2]; exact hl.1, fun q => absurd (hl.1.trans q) a1, by rw [e11]; exact hl.2.2.1, by rw [e7, e8]; exact hl.2.2.2⟩, rfl⟩
  · have hz := hl.1.symm.trans a1
    have hcnt := hl.2.1 hz
    rw [if_pos hz, if_neg (hn a1), if_neg (by rw [← hcnt]; intro q; rw [q] at a2; exact absurd a2.2 (by decide))]
    exact ⟨hK, hV.upd hLB h0 rfl ho (fun e he => ⟨pk_un he, rfl, rfl⟩) ⟨a3.trans hz.symm, fun _ => by rw [a4, hcnt]; exact pk_us.symm, by rw [e11]; exact hl.2.2.1, by rw [e7, e8]; exact hl.2.2.2⟩, by rw [hcnt]⟩
  · have hz := hl.1.symm.trans a1
    have hcnt := hl.2.1 hz
    rw [hcnt] at a2
    rw [if_pos hz, if_neg (hn a1), if_pos (show v.1 dev.toNatClampNeg = 60 from eq60 (n := 60) (by decide) hv.2.1.1 hv.2.1.2 a2)]
    exact ⟨hK, hV.upd hLB h0 rfl ho (fun e he => ⟨rfl, pk_un he, rfl⟩) ⟨a3.trans pk_us.symm, fun q => absurd (pk_us.symm.trans q) (by decide), by rw [e11]; exact hl.2.2.1, by rw [e7, e8]; exact hl.2.2.2⟩, rfl⟩
theorem oct_end {b : Int32} (hV : Vc μ v) (hb : 0 ≤ dev ∧ dev < 6) (hz0 : μ (2 + 9 * dev.toNatClampNeg) 2 = 0) (h13 : b &&& 255 = 13) (k : E0 dev.toNatClampNeg μ μ') : Ks μ μ' ∧ Vc μ' (oOct dev b v).1 ∧ (oOct dev b v).2 = 0 := by
  have hd := clamp_lt (n := 6) hb.1 hb.2 (by decide)
  have hl := hV.1 _ hd
  unfold Ln at hl
  have n1 : ∀ a, ¬ SEd dev.toNatClampNeg a → μ' a = μ a := k.1.1
  have hz := hl.1.symm.trans hz0
  rw [oOct, if_pos hb, if_pos hz, if_pos h13]
  have Z : ∀ a, ¬ ((57 ≤ a ∧ a ≤ 94) ∨ a = 2 + 9 * dev.toNatClampNeg ∨ (2 + 9 * dev.toNatClampNeg + 2 ≤ a ∧ a ≤ 2 + 9 * dev.toNatClampNeg + 5)) → μ' a = μ a := k.1.1
  refine ⟨fun a ha => Z a (by omega), hV.upd (k.1.2 hV.2.2) (Z 0 (by omega)) rfl (fun e he hne => ⟨Z _ (by omega), Z _ (by omega), Z _ (by omega)⟩) (fun e he => ⟨pk_un he, rfl, rfl⟩) ⟨by rw [k.2.1 2 (by omega)]; exact hl.1, fun _ => by rw [k.2.2]; exact pk_us.symm, by rw [k.2.1 11 (by omega)]; exact hl.2.2.1, by rw [Z (2 + 9 * dev.toNatClampNeg + 7) (by omega), Z (2 + 9 * dev.toNatClampNeg + 8) (by omega)]; exact hl.2.2.2⟩, rfl⟩
theorem rst_ok (hV : Vc μ v) (hb : 0 ≤ dev ∧ dev < 6) (k : Ch (fun a => a = 2 + 9 * dev.toNatClampNeg ∨ a = 2 + 9 * dev.toNatClampNeg + 2 ∨ a = 2 + 9 * dev.toNatClampNeg + 4) μ μ') (e1 : μ' (2 + 9 * dev.toNatClampNeg) 1 = 0) (e2 : μ' (2 + 9 * dev.toNatClampNeg) 2 = 0) (e11 : μ' (2 + 9 * dev.toNatClampNeg) 11 = μ (2 + 9 * dev.toNatClampNeg) 11) : Ks μ μ' ∧ Vc μ' (oReset dev v) := by
  have hd := clamp_lt (n := 6) hb.1 hb.2 (by decide)
  have hl := hV.1 _ hd
  unfold Ln at hl
  rw [oReset, if_pos hb]
  exact ⟨fun a ha => k.1 a (fun z => by rcases z with z | z | z <;> omega), hV.upd (k.2 hV.2.2) (k.1 0 (fun z => by rcases z with z | z | z <;> omega)) rfl (fun e he hne => ⟨k.1 _ (fun z => by rcases z with z | z | z <;> omega), k.1 _ (fun z => by rcases z with z | z | z <;> omega), k.1 _ (fun z => by rcases z with z | z | z <;> omega)⟩) (fun e he => ⟨pk_un he, pk_un he, rfl⟩) ⟨by rw [e2]; exact pk_us.symm, fun _ => by rw [e1]; exact pk_us.symm, by rw [e11]; exact hl.2.2.1, by rw [k.1 (2 + 9 * dev.toNatClampNeg + 7) (fun z => by rcases z with z | z | z <;> omega), k.1 (2 + 9 * dev.toNatClampNeg + 8) (fun z => by rcases z with z | z | z <;> omega)]; exact hl.2.2.2⟩⟩
theorem off_ok {kd it ps : Int32} (hV : Vc μ v) (hD : VD v) (hall : (0 ≤ dev ∧ dev < 6) ∧ (0 ≤ kd ∧ kd < 2) ∧ (0 ≤ it ∧ it < 30) ∧ (0 ≤ ps ∧ ps < 30)) (k : Ch (fun a => a = 2 + 9 * dev.toNatClampNeg ∨ a = 2 + 9 * dev.toNatClampNeg + 6 ∨ a = 2 + 9 * dev.toNatClampNeg + 7 ∨ a = 2 + 9 * dev.toNatClampNeg + 8) μ μ') (e12 : μ' (2 + 9 * dev.toNatClampNeg) 1 = μ (2 + 9 * dev.toNatClampNeg) 1 ∧ μ' (2 + 9 * dev.toNatClampNeg) 2 = μ (2 + 9 * dev.toNatClampNeg) 2) (hr : ∀ j, (μ' (2 + 9 * dev.toNatClampNeg + 7) j = it ∨ μ' (2 + 9 * dev.toNatClampNeg + 7) j = μ (2 + 9 * dev.toNatClampNeg + 7) j) ∧ (μ' (2 + 9 * dev.toNatClampNeg + 8) j = ps ∨ μ' (2 + 9 * dev.toNatClampNeg + 8) j = μ (2 + 9 * dev.toNatClampNeg + 8) j))
    (hc : (¬ (0 ≤ μ (2 + 9 * dev.toNatClampNeg) 11 ∧ μ (2 + 9 * dev.toNatClampNeg) 11 < 20) ∧ μ' (2 + 9 * dev.toNatClampNeg) 11 = μ (2 + 9 * dev.toNatClampNeg) 11 ∧ r = some (.int (-2))) ∨ ((0 ≤ μ (2 + 9 * dev.toNatClampNeg) 11 ∧ μ (2 + 9 * dev.toNatClampNeg) 11 < 20) ∧ μ' (2 + 9 * dev.toNatClampNeg) 11 = μ (2 + 9 * dev.toNatClampNeg) 11 + 1 ∧ r = some (.int (μ (2 + 9 * dev.toNatClampNeg) 11 + 1)))) : Ks μ μ' ∧ Vc μ' (oOff dev kd it ps v).1 ∧ r = some (.int (oOff dev kd it ps v).2) := by
  have hb := hall.1
  have hd := clamp_lt (n := 6) hb.1 hb.2 (by decide)
  have hl := hV.1 _ hd
  have hv := hD.1 _ hd
  unfold Ln at hl
  have hrow : ∀ j, j < 20 → (0 ≤ μ' (2 + 9 * dev.toNatClampNeg + 7) j ∧ μ' (2 + 9 * dev.toNatClampNeg + 7) j < 30) ∧ 0 ≤ μ' (2 + 9 * dev.toNatClampNeg + 8) j ∧ μ' (2 + 9 * dev.toNatClampNeg + 8) j < 30 := fun j hj => by
    have h1 := hl.2.2.2 j hj
    refine ⟨?_, ?_⟩
    · rcases (hr j).1 with q | q <;> rw [q]
      · exact hall.2.2.1
      · exact h1.1
    · rcases (hr j).2 with q | q <;> rw [q]
      · exact hall.2.2.2
      · exact h1.2
  have ho : ∀ e, e < 6 → e ≠ dev.toNatClampNeg → μ' (2 + 9 * e) = μ (2 + 9 * e) ∧ μ' (2 + 9 * e + 7) = μ (2 + 9 * e + 7) ∧ μ' (2 + 9 * e + 8) = μ (2 + 9 * e + 8) := fun e he hne => ⟨k.1 _ (fun z => by rcases z with z | z | z | z <;> omega), k.1 _ (fun z => by rcases z with z | z | z | z <;> omega), k.1 _ (fun z => by rcases z with z | z | z | z <;> omega)⟩
  rw [oOff, if_pos hall]
  rcases hc with ⟨a1, a2, rfl⟩ | ⟨a1, a2, rfl⟩
  · rw [hl.2.2.1] at a1
    rw [if_pos (show v.2.2.1 dev.toNatClampNeg = 20 from eq60 (n := 20) (by decide) hv.2.2.1 hv.2.2.2 a1)]
    exact ⟨fun a ha => k.1 a (fun z => by rcases z with z | z | z | z <;> omega), hV.upd (k.2 hV.2.2) (k.1 0 (fun z => by rcases z with z | z | z | z <;> omega)) rfl ho (fun _ _ => ⟨rfl, rfl, rfl⟩) ⟨by rw [e12.2]; exact hl.1, fun q => by rw [e12.1]; exact hl.2.1 q, by rw [a2]; exact hl.2.2.1, hrow⟩, rfl⟩
  · rw [hl.2.2.1] at a1 a2
    rw [if_neg (fun q => by rw [q] at a1; exact absurd a1.2 (by decide))]
    exact ⟨fun a ha => k.1 a (fun z => by rcases z with z | z | z | z <;> omega), hV.upd (k.2 hV.2.2) (k.1 0 (fun z => by rcases z with z | z | z | z <;> omega)) rfl ho (fun e he => ⟨rfl, rfl, pk_un he⟩) ⟨by rw [e12.2]; exact hl.1, fun q => by rw [e12.1]; exact hl.2.1 q, by rw [a2]; exact pk_us.symm, hrow⟩, by rw [hl.2.2.1]⟩
theorem join_ok (hV : Vc μ v) (hb : 0 ≤ dev ∧ dev < 6) {μ1 : xM} (k : Ch SC μ μ1) (e : μ' = xup μ1 (2 + 9 * dev.toNatClampNeg) 11 0) : Ks μ μ' ∧ Vc μ' (oJoin dev v) := by
  have hd := clamp_lt (n := 6) hb.1 hb.2 (by decide)
  have hl := hV.1 _ hd
  unfold Ln at hl
  have Z : ∀ a, ¬ (57 ≤ a ∧ a ≤ 94) → μ1 a = μ a := k.1
  have ex : ∀ a, a ≠ 2 + 9 * dev.toNatClampNeg → μ' a = μ1 a := fun a ha => by rw [e]; funext b; rw [xup_at, if_neg (fun q => ha q.1)]
  have ey : ∀ j, j ≠ 11 → μ' (2 + 9 * dev.toNatClampNeg) j = μ (2 + 9 * dev.toNatClampNeg) j := fun j hj => by rw [e, xup_at, if_neg (fun q => hj q.2), Z _ (by omega)]
  have ez : μ' (2 + 9 * dev.toNatClampNeg) 11 = 0 := by rw [e, xup_at, if_pos ⟨rfl, rfl⟩]
  rw [oJoin, if_pos hb]
  exact ⟨fun a ha => by rw [ex a (by omega), Z a (by omega)], hV.upd (LB.off e ⟨by omega, fun _ _ => by omega⟩ (k.2 hV.2.2)) (by rw [ex 0 (by omega), Z 0 (by omega)]) rfl (fun e2 he hne => ⟨by rw [ex _ (by omega), Z _ (by omega)], by rw [ex _ (by omega), Z _ (by omega)], by rw [ex _ (by omega), Z _ (by omega)]⟩) (fun e2 he => ⟨rfl, rfl, pk_un he⟩) ⟨by rw [ey 2 (by decide)]; exact hl.1, fun q => by rw [ey 1 (by decide)]; exact hl.2.1 q, by rw [ez]; exact pk_us.symm, by rw [ex (2 + 9 * dev.toNatClampNeg + 7) (by omega), Z (2 + 9 * dev.toNatClampNeg + 7) (by omega), ex (2 + 9 * dev.toNatClampNeg + 8) (by omega), Z (2 + 9 * dev.toNatClampNeg + 8) (by omega)]; exact hl.2.2.2⟩⟩
end OPS
set_option maxHeartbeats 1000000 in
set_option maxRecDepth 20000 in
theorem p_octet (X : xD) (Ex : State → Prop) (hE : xEs X false shA.length Ex) (μ : xM) {sk sv : Nat → Nat} {fm : Option Nat} (hS : ∀ s, Ex s → ExS X sk sv fm s) (dev b : Int32) {v : VT} (hV : Vc μ v) (hD : VD v) : Ct X Ex false yX5_octet kX5_octet (rmN 7) [.ref (X.2 + 0), .int dev, .int b] shA μ (fun r sh' μ' => shA = sh' ∧ Ks μ μ' ∧ Vc μ' ((oOct dev b v).1) ∧ r = some (.int ((oOct dev b v).2))) := by
  refine Ct.of (L0 := [some (.ref (X.2 + 0)), some (.int dev), some (.int b), none, none]) (by decide) rfl (fun h => by cases h) (by simp [Value.category]) (Nat.le_of_ble_eq_true rfl) rfl (fun l => ?_)
  refine sx_iload_n (pc := 0) dX5_octet_0 rfl rfl ?_
  refine sx_bipush (pc := 1) (v := 6) dX5_octet_1 (by decide) ?_
  refine sx_callS (pc := 3) (As := [.int dev, .int 6]) dX5_octet_3 (c_isBelow X Ex false shA μ _ _) mX5_isBelow lm_X5_41 rfl ⟨Nat.le_of_ble_eq_true rfl, Nat.le_of_ble_eq_true rfl⟩ ⟨Nat.le_of_ble_eq_true rfl, Nat.le_of_ble_eq_true rfl⟩ (Nat.le_of_ble_eq_true rfl) hE (fun r_3 sh1 μ1 h_3 => ?_)
  obtain ⟨rfl, rfl, x_3, rfl, hx_3⟩ := h_3
  refine sx_if_ne (pc := 6) (tgt := 11) dX5_octet_6 (by decide) (fun c_6 => ?_) (fun c_6 => ?_)
  · have h_6t := c_6
    have hb := isB_t hx_3 h_6t
    have hd := clamp_lt (n := 6) hb.1 hb.2 (by decide)
    refine sx_aload_n (pc := 11) dX5_octet_11 rfl rfl ?_
    refine sx_getr (pc := 12) (ci := 5) (j := 0) (r := 1) dX5_octet_12 rfl s_EW rfl (by decide) lf_X5_11 ?_
    refine sx_iload_n (pc := 15) dX5_octet_15 rfl rfl ?_
    refine sx_aald (pc := 16) (r := 2 + 9 * dev.toNatClampNeg) dX5_octet_16 s_lines rfl rfl (vp_in_lt (n := 6) hb.1 hb.2 (by decide)) (el_lines _ hd) ?_
    refine sx_astore_n (pc := 17) (L' := [some (.ref (X.2 + 0)), some (.int dev), some (.int b), some (.ref (X.2 + (2 + 9 * dev.toNatClampNeg))), none]) dX5_octet_17 rfl (by decide) rfl ?_
    refine sx_iload_n (pc := 18) dX5_octet_18 rfl rfl ?_
    refine sx_sipush (pc := 19) (v := 255) dX5_octet_19 (by decide) ?_
    refine sx_iand (pc := 22) dX5_octet_22 ?_
    refine sx_istore (pc := 23) (L' := [some (.ref (X.2 + 0)), some (.int dev), some (.int b), some (.ref (X.2 + (2 + 9 * dev.toNatClampNeg))), some (.int (b &&& 255))]) dX5_octet_23 (by decide) rfl ?_
    refine sx_aload_n (pc := 25) dX5_octet_25 rfl rfl ?_
    refine sx_geti (pc := 26) (ci := 2) (j := 2) dX5_octet_26 rfl (s_Line _ hd) rfl (by decide) lf_X5_45 ?_
    refine sx_if_ne (pc := 29) (tgt := 39) dX5_octet_29 (by decide) (fun c_29 => ?_) (fun c_29 => ?_)
    · have h_29t := c_29
      refine sx_aload_n (pc := 39) dX5_octet_39 rfl rfl ?_
      refine sx_iload (pc := 40) dX5_octet_40 rfl ?_
      refine sx_callV (pc := 42) (As := [.int (b &&& 255)]) dX5_octet_42 (c_take X Ex hE μ _ hd _) mX2_take lm_X5_49 rfl (s_Line _ hd) rfl ⟨Nat.le_of_ble_eq_true rfl, Nat.le_of_ble_eq_true rfl⟩ ⟨Nat.le_of_ble_eq_true rfl, Nat.le_of_ble_eq_true rfl⟩ (Nat.le_of_ble_eq_true rfl) hE (fun r_42 sh1 μ2 h_42 => ?_)
      obtain ⟨rfl, k_42, e_42, c_42⟩ := h_42
      obtain ⟨q1, q2, rfl⟩ := oct_take (b := b) hV hD hb (by first | exact fun w => absurd w h_29t | exact fun _ => h_36f) k_42 e_42 c_42
      exact sx_iret (pc := 45) dX5_octet_45 rfl rfl (Nat.zero_le _) (Nat.zero_le _) (⟨rfl, q1, q2, rfl⟩)
    · have h_29f := c_29
      refine sx_iload (pc := 32) dX5_octet_32 rfl ?_
      refine sx_bipush (pc := 34) (v := 13) dX5_octet_34 (by decide) ?_
      refine sx_icmp_eq (pc := 36) (tgt := 46) dX5_octet_36 (by decide) (fun c_36 => ?_) (fun c_36 => ?_)
      · have h_36t := c_36
        refine sx_aload_n (pc := 46) dX5_octet_46 rfl rfl ?_
        refine sx_iload_n (pc := 47) dX5_octet_47 rfl rfl ?_
        refine sx_aload_n (pc := 48) dX5_octet_48 rfl rfl ?_
        refine sx_callV (pc := 49) (As := [.int dev, .ref (X.2 + (2 + 9 * dev.toNatClampNeg))]) dX5_octet_49 (c_endMessage X Ex hE μ hS _ _ hd hV.2.2) mX5_endMessage lm_X5_53 rfl s_EW rfl ⟨Nat.le_of_ble_eq_true rfl, Nat.le_of_ble_eq_true rfl⟩ ⟨Nat.le_of_ble_eq_true rfl, Nat.le_of_ble_eq_true rfl⟩ (Nat.le_of_ble_eq_true rfl) hE (fun r_49 sh1 μ3 h_49 => ?_)
        obtain ⟨rfl, rfl, k_49⟩ := h_49
        obtain ⟨q1, q2, q3⟩ := oct_end (b := b) hV hb h_29f h_36t k_49
        refine sx_iconst (pc := 52) (v := 0) dX5_octet_52 (by decide) ?_
        exact sx_iret (pc := 53) dX5_octet_53 rfl rfl (Nat.zero_le _) (Nat.zero_le _) (⟨rfl, q1, q2, by rw [q3]⟩)
      · have h_36f := c_36
        refine sx_aload_n (pc := 39) dX5_octet_39 rfl rfl ?_
        refine sx_iload (pc := 40) dX5_octet_40 rfl ?_
        refine sx_callV (pc := 42) (As := [.int (b &&& 255)]) dX5_octet_42 (c_take X Ex hE μ _ hd _) mX2_take lm_X5_49 rfl (s_Line _ hd) rfl ⟨Nat.le_of_ble_eq_true rfl, Nat.le_of_ble_eq_true rfl⟩ ⟨Nat.le_of_ble_eq_true rfl, Nat.le_of_ble_eq_true rfl⟩ (Nat.le_of_ble_eq_true rfl) hE (fun r_42 sh1 μ4 h_42 => ?_)
        obtain ⟨rfl, k_42, e_42, c_42⟩ := h_42
        obtain ⟨q1, q2, rfl⟩ := oct_take (b := b) hV hD hb (by first | exact fun w => absurd w h_29t | exact fun _ => h_36f) k_42 e_42 c_42
        exact sx_iret (pc := 45) dX5_octet_45 rfl rfl (Nat.zero_le _) (Nat.zero_le _) (⟨rfl, q1, q2, rfl⟩)
  · have h_6f := c_6
    refine sx_iconst (pc := 9) (v := (-1)) dX5_octet_9 (by decide) ?_
    exact sx_iret (pc := 10) dX5_octet_10 rfl rfl (Nat.zero_le _) (Nat.zero_le _) (⟨rfl, fun _ _ => rfl, by rw [oOct, if_neg (isB_f hx_3 h_6f)]; exact hV, by rw [oOct, if_neg (isB_f hx_3 h_6f)]⟩)
set_option maxHeartbeats 1000000 in
set_option maxRecDepth 20000 in
theorem p_reset (X : xD) (Ex : State → Prop) (hE : xEs X false shA.length Ex) (μ : xM) (dev : Int32) {v : VT} (hV : Vc μ v) (hD : VD v) : Ct X Ex false yX5_reset kX5_reset (rmN 2) [.ref (X.2 + 0), .int dev] shA μ (fun r sh' μ' => shA = sh' ∧ Ks μ μ' ∧ Vc μ' (oReset dev v) ∧ ∃ x : Int32, r = some (.int x)) := by
  refine Ct.of (L0 := [some (.ref (X.2 + 0)), some (.int dev), none]) (by decide) rfl (fun h => by cases h) (by simp [Value.category]) (Nat.le_of_ble_eq_true rfl) rfl (fun l => ?_)
  refine sx_iload_n (pc := 0) dX5_reset_0 rfl rfl ?_
  refine sx_bipush (pc := 1) (v := 6) dX5_reset_1 (by decide) ?_
  refine sx_callS (pc := 3) (As := [.int dev, .int 6]) dX5_reset_3 (c_isBelow X Ex false shA μ _ _) mX5_isBelow lm_X5_41 rfl ⟨Nat.le_of_ble_eq_true rfl, Nat.le_of_ble_eq_true rfl⟩ ⟨Nat.le_of_ble_eq_true rfl, Nat.le_of_ble_eq_true rfl⟩ (Nat.le_of_ble_eq_true rfl) hE (fun r_3 sh1 μ1 h_3 => ?_)
  obtain ⟨rfl, rfl, x_3, rfl, hx_3⟩ := h_3
  refine sx_if_ne (pc := 6) (tgt := 11) dX5_reset_6 (by decide) (fun c_6 => ?_) (fun c_6 => ?_)
  · have h_6t := c_6
    have hb := isB_t hx_3 h_6t
    have hd := clamp_lt (n := 6) hb.1 hb.2 (by decide)
    refine sx_aload_n (pc := 11) dX5_reset_11 rfl rfl ?_
    refine sx_getr (pc := 12) (ci := 5) (j := 0) (r := 1) dX5_reset_12 rfl s_EW rfl (by decide) lf_X5_11 ?_
    refine sx_iload_n (pc := 15) dX5_reset_15 rfl rfl ?_
    refine sx_aald (pc := 16) (r := 2 + 9 * dev.toNatClampNeg) dX5_reset_16 s_lines rfl rfl (vp_in_lt (n := 6) hb.1 hb.2 (by decide)) (el_lines _ hd) ?_
    refine sx_geti (pc := 17) (ci := 2) (j := 1) dX5_reset_17 rfl (s_Line _ hd) rfl (by decide) lf_X5_77 ?_
    refine sx_istore_n (pc := 20) (L' := [some (.ref (X.2 + 0)), some (.int dev), some (.int (μ (2 + 9 * dev.toNatClampNeg) 1))]) dX5_reset_20 rfl (by decide) rfl ?_
    refine sx_aload_n (pc := 21) dX5_reset_21 rfl rfl ?_
    refine sx_getr (pc := 22) (ci := 5) (j := 0) (r := 1) dX5_reset_22 rfl s_EW rfl (by decide) lf_X5_11 ?_
    refine sx_iload_n (pc := 25) dX5_reset_25 rfl rfl ?_
    refine sx_aald (pc := 26) (r := 2 + 9 * dev.toNatClampNeg) dX5_reset_26 s_lines rfl rfl (vp_in_lt (n := 6) hb.1 hb.2 (by decide)) (el_lines _ hd) ?_
    refine sx_callV (pc := 27) (As := []) dX5_reset_27 (c_clear X Ex hE μ _ hd) mX2_clear lm_X5_80 rfl (s_Line _ hd) rfl ⟨Nat.le_of_ble_eq_true rfl, Nat.le_of_ble_eq_true rfl⟩ ⟨Nat.le_of_ble_eq_true rfl, Nat.le_of_ble_eq_true rfl⟩ (Nat.le_of_ble_eq_true rfl) hE (fun r_27 sh1 μ2 h_27 => ?_)
    obtain ⟨rfl, rfl, k_27, a1, a2, a3⟩ := h_27
    obtain ⟨q1, q2⟩ := rst_ok hV hb k_27 a1 a2 a3
    refine sx_iload_n (pc := 30) dX5_reset_30 rfl rfl ?_
    exact sx_iret (pc := 31) dX5_reset_31 rfl rfl (Nat.zero_le _) (Nat.zero_le _) (⟨rfl, q1, q2, _, rfl⟩)
  · have h_6f := c_6
    refine sx_iconst (pc := 9) (v := (-1)) dX5_reset_9 (by decide) ?_
    exact sx_iret (pc := 10) dX5_reset_10 rfl rfl (Nat.zero_le _) (Nat.zero_le _) (⟨rfl, fun _ _ => rfl, by rw [oReset, if_neg (isB_f hx_3 h_6f)]; exact hV, _, rfl⟩)
set_option maxHeartbeats 1000000 in
set_option maxRecDepth 20000 in
theorem p_offline (X : xD) (Ex : State → Prop) (hE : xEs X false shA.length Ex) (μ : xM) (dev kd it ps : Int32) {v : VT} (hV : Vc μ v) (hD : VD v) : Ct X Ex false yX5_offline kX5_offline (rmN 2) [.ref (X.2 + 0), .int dev, .int kd, .int it, .int ps] shA μ (fun r sh' μ' => shA = sh' ∧ Ks μ μ' ∧ Vc μ' ((oOff dev kd it ps v).1) ∧ r = some (.int ((oOff dev kd it ps v).2))) := by
  refine Ct.of (L0 := [some (.ref (X.2 + 0)), some (.int dev), some (.int kd), some (.int it), some (.int ps), none]) (by decide) rfl (fun h => by cases h) (by simp [Value.category]) (Nat.le_of_ble_eq_true rfl) rfl (fun l => ?_)
  refine sx_iload_n (pc := 0) dX5_offline_0 rfl rfl ?_
  refine sx_bipush (pc := 1) (v := 6) dX5_offline_1 (by decide) ?_
  refine sx_callS (pc := 3) (As := [.int dev, .int 6]) dX5_offline_3 (c_isBelow X Ex false shA μ _ _) mX5_isBelow lm_X5_41 rfl ⟨Nat.le_of_ble_eq_true rfl, Nat.le_of_ble_eq_true rfl⟩ ⟨Nat.le_of_ble_eq_true rfl, Nat.le_of_ble_eq_true rfl⟩ (Nat.le_of_ble_eq_true rfl) hE (fun r_3 sh1 μ1 h_3 => ?_)
  obtain ⟨rfl, rfl, x_3, rfl, hx_3⟩ := h_3
  refine sx_if_eq (pc := 6) (tgt := 40) dX5_offline_6 (by decide) (fun c_6 => ?_) (fun c_6 => ?_)
  · have h_6t := c_6
    refine sx_iconst (pc := 40) (v := 0) dX5_offline_40 (by decide) ?_
    refine sx_istore (pc := 41) (L' := [some (.ref (X.2 + 0)), some (.int dev), some (.int kd), some (.int it), some (.int ps), some (.int 0)]) dX5_offline_41 (by decide) rfl ?_
    refine sx_iload (pc := 43) dX5_offline_43 rfl ?_
    refine sx_if_ne (pc := 45) (tgt := 50) dX5_offline_45 (by decide) (fun c_45 => absurd c_45 (by decide)) (fun c_45 => ?_)
    refine sx_iconst (pc := 48) (v := (-1)) dX5_offline_48 (by decide) ?_
    exact sx_iret (pc := 49) dX5_offline_49 rfl rfl (Nat.zero_le _) (Nat.zero_le _) (⟨rfl, fun _ _ => rfl, by rw [oOff, if_neg (by rintro ⟨z1, z2, z3, z4⟩; first | exact isB_f hx_3 h_6t z1 | exact isB_f hx_11 h_14t z2 | exact isB_f hx_20 h_23t z3 | exact isB_f hx_30 h_33t z4)]; exact hV, by rw [oOff, if_neg (by rintro ⟨z1, z2, z3, z4⟩; first | exact isB_f hx_3 h_6t z1 | exact isB_f hx_11 h_14t z2 | exact isB_f hx_20 h_23t z3 | exact isB_f hx_30 h_33t z4)]⟩)
  · have h_6f := c_6
    refine sx_iload_n (pc := 9) dX5_offline_9 rfl rfl ?_
    refine sx_iconst (pc := 10) (v := 2) dX5_offline_10 (by decide) ?_
    refine sx_callS (pc := 11) (As := [.int kd, .int 2]) dX5_offline_11 (c_isBelow X Ex false shA μ _ _) mX5_isBelow lm_X5_41 rfl ⟨Nat.le_of_ble_eq_true rfl, Nat.le_of_ble_eq_true rfl⟩ ⟨Nat.le_of_ble_eq_true rfl, Nat.le_of_ble_eq_true rfl⟩ (Nat.le_of_ble_eq_true rfl) hE (fun r_11 sh1 μ2 h_11 => ?_)
    obtain ⟨rfl, rfl, x_11, rfl, hx_11⟩ := h_11
    refine sx_if_eq (pc := 14) (tgt := 40) dX5_offline_14 (by decide) (fun c_14 => ?_) (fun c_14 => ?_)
    · have h_14t := c_14
      refine sx_iconst (pc := 40) (v := 0) dX5_offline_40 (by decide) ?_
      refine sx_istore (pc := 41) (L' := [some (.ref (X.2 + 0)), some (.int dev), some (.int kd), some (.int it), some (.int ps), some (.int 0)]) dX5_offline_41 (by decide) rfl ?_
      refine sx_iload (pc := 43) dX5_offline_43 rfl ?_
      refine sx_if_ne (pc := 45) (tgt := 50) dX5_offline_45 (by decide) (fun c_45 => absurd c_45 (by decide)) (fun c_45 => ?_)
      refine sx_iconst (pc := 48) (v := (-1)) dX5_offline_48 (by decide) ?_
      exact sx_iret (pc := 49) dX5_offline_49 rfl rfl (Nat.zero_le _) (Nat.zero_le _) (⟨rfl, fun _ _ => rfl, by rw [oOff, if_neg (by rintro ⟨z1, z2, z3, z4⟩; first | exact isB_f hx_3 h_6t z1 | exact isB_f hx_11 h_14t z2 | exact isB_f hx_20 h_23t z3 | exact isB_f hx_30 h_33t z4)]; exact hV, by rw [oOff, if_neg (by rintro ⟨z1, z2, z3, z4⟩; first | exact isB_f hx_3 h_6t z1 | exact isB_f hx_11 h_14t z2 | exact isB_f hx_20 h_23t z3 | exact isB_f hx_30 h_33t z4)]⟩)
    · have h_14f := c_14
      refine sx_iload_n (pc := 17) dX5_offline_17 rfl rfl ?_
      refine sx_bipush (pc := 18) (v := 30) dX5_offline_18 (by decide) ?_
      refine sx_callS (pc := 20) (As := [.int it, .int 30]) dX5_offline_20 (c_isBelow X Ex false shA μ _ _) mX5_isBelow lm_X5_41 rfl ⟨Nat.le_of_ble_eq_true rfl, Nat.le_of_ble_eq_true rfl⟩ ⟨Nat.le_of_ble_eq_true rfl, Nat.le_of_ble_eq_true rfl⟩ (Nat.le_of_ble_eq_true rfl) hE (fun r_20 sh1 μ3 h_20 => ?_)
      obtain ⟨rfl, rfl, x_20, rfl, hx_20⟩ := h_20
      refine sx_if_eq (pc := 23) (tgt := 40) dX5_offline_23 (by decide) (fun c_23 => ?_) (fun c_23 => ?_)
      · have h_23t := c_23
        refine sx_iconst (pc := 40) (v := 0) dX5_offline_40 (by decide) ?_
        refine sx_istore (pc := 41) (L' := [some (.ref (X.2 + 0)), some (.int dev), some (.int kd), some (.int it), some (.int ps), some (.int 0)]) dX5_offline_41 (by decide) rfl ?_
        refine sx_iload (pc := 43) dX5_offline_43 rfl ?_
        refine sx_if_ne (pc := 45) (tgt := 50) dX5_offline_45 (by decide) (fun c_45 => absurd c_45 (by decide)) (fun c_45 => ?_)
        refine sx_iconst (pc := 48) (v := (-1)) dX5_offline_48 (by decide) ?_
        exact sx_iret (pc := 49) dX5_offline_49 rfl rfl (Nat.zero_le _) (Nat.zero_le _) (⟨rfl, fun _ _ => rfl, by rw [oOff, if_neg (by rintro ⟨z1, z2, z3, z4⟩; first | exact isB_f hx_3 h_6t z1 | exact isB_f hx_11 h_14t z2 | exact isB_f hx_20 h_23t z3 | exact isB_f hx_30 h_33t z4)]; exact hV, by rw [oOff, if_neg (by rintro ⟨z1, z2, z3, z4⟩; first | exact isB_f hx_3 h_6t z1 | exact isB_f hx_11 h_14t z2 | exact isB_f hx_20 h_23t z3 | exact isB_f hx_30 h_33t z4)]⟩)
      · have h_23f := c_23
        refine sx_iload (pc := 26) dX5_offline_26 rfl ?_
        refine sx_bipush (pc := 28) (v := 30) dX5_offline_28 (by decide) ?_
        refine sx_callS (pc := 30) (As := [.int ps, .int 30]) dX5_offline_30 (c_isBelow X Ex false shA μ _ _) mX5_isBelow lm_X5_41 rfl ⟨Nat.le_of_ble_eq_true rfl, Nat.le_of_ble_eq_true rfl⟩ ⟨Nat.le_of_ble_eq_true rfl, Nat.le_of_ble_eq_true rfl⟩ (Nat.le_of_ble_eq_true rfl) hE (fun r_30 sh1 μ4 h_30 => ?_)
        obtain ⟨rfl, rfl, x_30, rfl, hx_30⟩ := h_30
        refine sx_if_eq (pc := 33) (tgt := 40) dX5_offline_33 (by decide) (fun c_33 => ?_) (fun c_33 => ?_)
        · have h_33t := c_33
          refine sx_iconst (pc := 40) (v := 0) dX5_offline_40 (by decide) ?_
          refine sx_istore (pc := 41) (L' := [some (.ref (X.2 + 0)), some (.int dev), some (.int kd), some (.int it), some (.int ps), some (.int 0)]) dX5_offline_41 (by decide) rfl ?_
          refine sx_iload (pc := 43) dX5_offline_43 rfl ?_
          refine sx_if_ne (pc := 45) (tgt := 50) dX5_offline_45 (by decide) (fun c_45 => absurd c_45 (by decide)) (fun c_45 => ?_)
          refine sx_iconst (pc := 48) (v := (-1)) dX5_offline_48 (by decide) ?_
          exact sx_iret (pc := 49) dX5_offline_49 rfl rfl (Nat.zero_le _) (Nat.zero_le _) (⟨rfl, fun _ _ => rfl, by rw [oOff, if_neg (by rintro ⟨z1, z2, z3, z4⟩; first | exact isB_f hx_3 h_6t z1 | exact isB_f hx_11 h_14t z2 | exact isB_f hx_20 h_23t z3 | exact isB_f hx_30 h_33t z4)]; exact hV, by rw [oOff, if_neg (by rintro ⟨z1, z2, z3, z4⟩; first | exact isB_f hx_3 h_6t z1 | exact isB_f hx_11 h_14t z2 | exact isB_f hx_20 h_23t z3 | exact isB_f hx_30 h_33t z4)]⟩)
        · have h_33f := c_33
          have hb := isB_t hx_3 h_6f
          have hd := clamp_lt (n := 6) hb.1 hb.2 (by decide)
          refine sx_iconst (pc := 36) (v := 1) dX5_offline_36 (by decide) ?_
          refine sx_goto (pc := 37) (tgt := 41) dX5_offline_37 (by decide) ?_
          refine sx_istore (pc := 41) (L' := [some (.ref (X.2 + 0)), some (.int dev), some (.int kd), some (.int it), some (.int ps), some (.int 1)]) dX5_offline_41 (by decide) rfl ?_
          refine sx_iload (pc := 43) dX5_offline_43 rfl ?_
          refine sx_if_ne (pc := 45) (tgt := 50) dX5_offline_45 (by decide) (fun c_45 => ?_) (fun c_45 => absurd c_45 (by decide))
          refine sx_aload_n (pc := 50) dX5_offline_50 rfl rfl ?_
          refine sx_getr (pc := 51) (ci := 5) (j := 0) (r := 1) dX5_offline_51 rfl s_EW rfl (by decide) lf_X5_11 ?_
          refine sx_iload_n (pc := 54) dX5_offline_54 rfl rfl ?_
          refine sx_aald (pc := 55) (r := 2 + 9 * dev.toNatClampNeg) dX5_offline_55 s_lines rfl rfl (vp_in_lt (n := 6) hb.1 hb.2 (by decide)) (el_lines _ hd) ?_
          refine sx_iload_n (pc := 56) dX5_offline_56 rfl rfl ?_
          refine sx_if_ne (pc := 57) (tgt := 65) dX5_offline_57 (by decide) (fun c_57 => ?_) (fun c_57 => ?_)
          · have h_57t := c_57
            refine sx_bipush (pc := 65) (v := 66) dX5_offline_65 (by decide) ?_
            refine sx_iload_n (pc := 67) dX5_offline_67 rfl rfl ?_
            refine sx_iload (pc := 68) dX5_offline_68 rfl ?_
            refine sx_callV (pc := 70) (As := [.int 66, .int it, .int ps]) dX5_offline_70 (c_addRow X Ex hE μ _ hd _ _ _ (isB_t hx_20 h_23f) (isB_t hx_30 h_33f)) mX2_addRow lm_X5_83 rfl (s_Line _ hd) rfl ⟨Nat.le_of_ble_eq_true rfl, Nat.le_of_ble_eq_true rfl⟩ ⟨Nat.le_of_ble_eq_true rfl, Nat.le_of_ble_eq_true rfl⟩ (Nat.le_of_ble_eq_true rfl) hE (fun r_70 sh1 μ5 h_70 => ?_)
            obtain ⟨rfl, k_70, e_70, r_70r, c_70⟩ := h_70
            obtain ⟨q1, q2, rfl⟩ := off_ok (kd := kd) hV hD ⟨isB_t hx_3 h_6f, isB_t hx_11 h_14f, isB_t hx_20 h_23f, isB_t hx_30 h_33f⟩ k_70 e_70 r_70r c_70
            exact sx_iret (pc := 73) dX5_offline_73 rfl rfl (Nat.zero_le _) (Nat.zero_le _) (⟨rfl, q1, q2, rfl⟩)
          · have h_57f := c_57
            refine sx_bipush (pc := 60) (v := 67) dX5_offline_60 (by decide) ?_
            refine sx_goto (pc := 62) (tgt := 67) dX5_offline_62 (by decide) ?_
            refine sx_iload_n (pc := 67) dX5_offline_67 rfl rfl ?_
            refine sx_iload (pc := 68) dX5_offline_68 rfl ?_
            refine sx_callV (pc := 70) (As := [.int 67, .int it, .int ps]) dX5_offline_70 (c_addRow X Ex hE μ _ hd _ _ _ (isB_t hx_20 h_23f) (isB_t hx_30 h_33f)) mX2_addRow lm_X5_83 rfl (s_Line _ hd) rfl ⟨Nat.le_of_ble_eq_true rfl, Nat.le_of_ble_eq_true rfl⟩ ⟨Nat.le_of_ble_eq_true rfl, Nat.le_of_ble_eq_true rfl⟩ (Nat.le_of_ble_eq_true rfl) hE (fun r_70 sh1 μ6 h_70 => ?_)
            obtain ⟨rfl, k_70, e_70, r_70r, c_70⟩ := h_70
            obtain ⟨q1, q2, rfl⟩ := off_ok (kd := kd) hV hD ⟨isB_t hx_3 h_6f, isB_t hx_11 h_14f, isB_t hx_20 h_23f, isB_t hx_30 h_33f⟩ k_70 e_70 r_70r c_70
            exact sx_iret (pc := 73) dX5_offline_73 rfl rfl (Nat.zero_le _) (Nat.zero_le _) (⟨rfl, q1, q2, rfl⟩)
set_option maxHeartbeats 1000000 in
set_option maxRecDepth 20000 in
theorem p_owes (X : xD) (Ex : State → Prop) (hE : xEs X false shA.length Ex) (μ : xM) (pr c : Int32) {v : VT} (hV : Vc μ v) (hD : VD v) : Ct X Ex false yX5_owes kX5_owes (rmN 1) [.ref (X.2 + 0), .int pr, .int c] shA μ (fun r sh' μ' => shA = sh' ∧ Ks μ μ' ∧ Vc μ' (v) ∧ ∃ x : Int32, r = some (.int x)) := by
  refine Ct.of (L0 := [some (.ref (X.2 + 0)), some (.int pr), some (.int c), none]) (by decide) rfl (fun h => by cases h) (by simp [Value.category]) (Nat.le_of_ble_eq_true rfl) rfl (fun l => ?_)
  refine sx_iload_n (pc := 0) dX5_owes_0 rfl rfl ?_
  refine sx_bipush (pc := 1) (v := 30) dX5_owes_1 (by decide) ?_
  refine sx_callS (pc := 3) (As := [.int pr, .int 30]) dX5_owes_3 (c_isBelow X Ex false shA μ _ _) mX5_isBelow lm_X5_41 rfl ⟨Nat.le_of_ble_eq_true rfl, Nat.le_of_ble_eq_true rfl⟩ ⟨Nat.le_of_ble_eq_true rfl, Nat.le_of_ble_eq_true rfl⟩ (Nat.le_of_ble_eq_true rfl) hE (fun r_3 sh1 μ1 h_3 => ?_)
  obtain ⟨rfl, rfl, x_3, rfl, hx_3⟩ := h_3
  refine sx_if_eq (pc := 6) (tgt := 19) dX5_owes_6 (by decide) (fun c_6 => ?_) (fun c_6 => ?_)
  · have h_6t := c_6
    refine sx_iconst (pc := 19) (v := (-1)) dX5_owes_19 (by decide) ?_
    exact sx_iret (pc := 20) dX5_owes_20 rfl rfl (Nat.zero_le _) (Nat.zero_le _) (⟨rfl, fun _ _ => rfl, hV, _, rfl⟩)
  · have h_6f := c_6
    refine sx_iload_n (pc := 9) dX5_owes_9 rfl rfl ?_
    refine sx_if_lt (pc := 10) (tgt := 19) dX5_owes_10 (by decide) (fun c_10 => ?_) (fun c_10 => ?_)
    · have h_10t := c_10
      refine sx_iconst (pc := 19) (v := (-1)) dX5_owes_19 (by decide) ?_
      exact sx_iret (pc := 20) dX5_owes_20 rfl rfl (Nat.zero_le _) (Nat.zero_le _) (⟨rfl, fun _ _ => rfl, hV, _, rfl⟩)
    · have h_10f := c_10
      refine sx_iload_n (pc := 13) dX5_owes_13 rfl rfl ?_
      refine sx_ldc (pc := 14) dX5_owes_14 ld_X5_107 ?_
      refine sx_icmp_le (pc := 16) (tgt := 21) dX5_owes_16 (by decide) (fun c_16 => ?_) (fun c_16 => ?_)
      · have h_16t := c_16
        refine sx_aload_n (pc := 21) dX5_owes_21 rfl rfl ?_
        refine sx_getr (pc := 22) (ci := 5) (j := 1) (r := 56) dX5_owes_22 rfl s_EW rfl (by decide) lf_X5_19 ?_
        refine sx_getr (pc := 25) (ci := 0) (j := 0) (r := 57) dX5_owes_25 rfl s_Ho rfl (by decide) lf_X5_108 ?_
        refine sx_iload_n (pc := 28) dX5_owes_28 rfl rfl ?_
        refine sx_iald (pc := 29) dX5_owes_29 s_debts (by decide) rfl (vp_in_lt (n := 30) (isB_t hx_3 h_6f).1 (isB_t hx_3 h_6f).2 (by decide)) ?_
        refine sx_istore_n (pc := 30) (L' := [some (.ref (X.2 + 0)), some (.int pr), some (.int c), some (.int (μ 57 pr.toNatClampNeg))]) dX5_owes_30 rfl (by decide) rfl ?_
        refine sx_aload_n (pc := 31) dX5_owes_31 rfl rfl ?_
        refine sx_getr (pc := 32) (ci := 5) (j := 1) (r := 56) dX5_owes_32 rfl s_EW rfl (by decide) lf_X5_19 ?_
        refine sx_getr (pc := 35) (ci := 0) (j := 0) (r := 57) dX5_owes_35 rfl s_Ho rfl (by decide) lf_X5_108 ?_
        refine sx_iload_n (pc := 38) dX5_owes_38 rfl rfl ?_
        refine sx_iload_n (pc := 39) dX5_owes_39 rfl rfl ?_
        refine sx_iast (pc := 40) dX5_owes_40 s_debts (by decide) rfl (vp_in_lt (n := 30) (isB_t hx_3 h_6f).1 (isB_t hx_3 h_6f).2 (by decide)) (fun μ2 hμ2 => ?_)
        refine sx_iload_n (pc := 41) dX5_owes_41 rfl rfl ?_
        exact sx_iret (pc := 42) dX5_owes_42 rfl rfl (Nat.zero_le _) (Nat.zero_le _) (by have k : Ch SC μ _ := (Ch.put (Ch.rf) hμ2 (show SC 57 by show 57 ≤ 57 ∧ 57 ≤ 94; omega) (LB.off hμ2 ⟨by omega, fun _ _ => by omega⟩)); exact ⟨rfl, fun a ha => k.1 a (by show ¬ (57 ≤ a ∧ a ≤ 94); omega), hV.same (k.2 hV.2.2) (fun a ha _ => k.1 a (by show ¬ (57 ≤ a ∧ a ≤ 94); omega)), _, rfl⟩)
      · have h_16f := c_16
        refine sx_iconst (pc := 19) (v := (-1)) dX5_owes_19 (by decide) ?_
        exact sx_iret (pc := 20) dX5_owes_20 rfl rfl (Nat.zero_le _) (Nat.zero_le _) (⟨rfl, fun _ _ => rfl, hV, _, rfl⟩)
set_option maxHeartbeats 1000000 in
set_option maxRecDepth 20000 in
theorem p_acts (X : xD) (Ex : State → Prop) (hE : xEs X false shA.length Ex) (μ : xM) {v : VT} (hV : Vc μ v) (hD : VD v) : Ct X Ex false yX5_acts kX5_acts (rmN 0) [.ref (X.2 + 0)] shA μ (fun r sh' μ' => shA = sh' ∧ Ks μ μ' ∧ Vc μ' (v) ∧ ∃ x : Int32, r = some (.int x)) := by
  refine Ct.of (L0 := [some (.ref (X.2 + 0))]) (by decide) rfl (fun h => by cases h) (by simp [Value.category]) (Nat.le_of_ble_eq_true rfl) rfl (fun l => ?_)
  refine sx_aload_n (pc := 0) dX5_acts_0 rfl rfl ?_
  refine sx_getr (pc := 1) (ci := 5) (j := 2) (r := 92) dX5_acts_1 rfl s_EW rfl (by decide) lf_X5_26 ?_
  refine sx_geti (pc := 4) (ci := 1) (j := 1) dX5_acts_4 rfl s_Jo rfl (by decide) lf_X5_111 ?_
  exact sx_iret (pc := 7) dX5_acts_7 rfl rfl (Nat.zero_le _) (Nat.zero_le _) (⟨rfl, fun _ _ => rfl, hV, _, rfl⟩)
theorem tix {i w c : Int32} (h : 0 ≤ i ∧ i < (if 1000 < c then 1000 else c)) (hw : 0 ≤ w ∧ w < 5) : vp_in (i * 5 + w) 5000 := by
  obtain ⟨a, ha, rfl⟩ := nI_of (Int32.not_lt.mpr h.1)
  obtain ⟨b, hb, rfl⟩ := nI_of (Int32.not_lt.mpr hw.1)
  have h1 : nI a < nI 1000 := by
    have h2 := h.2
    split at h2
    · exact h2
    · exact Int32.lt_of_lt_of_le h2 (Int32.not_lt.mp (by assumption))
  have h2 : nI b < nI 5 := hw.2
  rw [nI_ltI (by omega) (by omega)] at h1 h2
  rw [show (5 : Int32) = nI 5 from rfl, pk_mul, nI_add]
  exact vp_in_nI (by omega) (by decide)
set_option maxHeartbeats 1000000 in
set_option maxRecDepth 20000 in
theorem c_tell (X : xD) (Ex : State → Prop) (hE : xEs X false shA.length Ex) (μ : xM) (i w : Int32) : Ct X Ex false yX1_tell kX1_tell (rmN 1) [.ref (X.2 + 92), .int i, .int w] shA μ (fun r sh' μ' => shA = sh' ∧ μ = μ' ∧ ∃ x : Int32, r = some (.int x)) := by
  refine Ct.of (L0 := [some (.ref (X.2 + 92)), some (.int i), some (.int w)]) (by decide) rfl (fun h => by cases h) (by simp [Value.category]) (Nat.le_of_ble_eq_true rfl) rfl (fun l => ?_)
  refine sx_iload_n (pc := 0) dX1_tell_0 rfl rfl ?_
  refine sx_aload_n (pc := 1) dX1_tell_1 rfl rfl ?_
  refine sx_geti (pc := 2) (ci := 1) (j := 1) dX1_tell_2 rfl s_Jo rfl (by decide) lf_X1_15 ?_
  refine sx_sipush (pc := 5) (v := 1000) dX1_tell_5 (by decide) ?_
  refine sx_mmin (pc := 8) dX1_tell_8 lm_X1_37 (Nat.le_of_ble_eq_true rfl) (Nat.le_of_ble_eq_true rfl) ?_
  refine sx_callSN (host := "ExchangeWire") (pc := 11) (As := [.int i, .int (if 1000 < μ 92 1 then 1000 else μ 92 1)]) dX1_tell_11 (c_isBelow X Ex false shA μ _ _) mX5_isBelow (by decide +kernel) rfl ⟨Nat.le_of_ble_eq_true rfl, Nat.le_of_ble_eq_true rfl⟩ ⟨Nat.le_of_ble_eq_true rfl, Nat.le_of_ble_eq_true rfl⟩ (Nat.le_of_ble_eq_true rfl) hE (fun r_11 sh1 μ1 h_11 => ?_)
  obtain ⟨rfl, rfl, x_11, rfl, hx_11⟩ := h_11
  refine sx_if_eq (pc := 14) (tgt := 25) dX1_tell_14 (by decide) (fun c_14 => ?_) (fun c_14 => ?_)
  · have h_14t := c_14
    refine sx_iconst (pc := 25) (v := (-1)) dX1_tell_25 (by decide) ?_
    exact sx_iret (pc := 26) dX1_tell_26 rfl rfl (Nat.zero_le _) (Nat.zero_le _) (⟨rfl, rfl, _, rfl⟩)
  · have h_14f := c_14
    refine sx_iload_n (pc := 17) dX1_tell_17 rfl rfl ?_
    refine sx_iconst (pc := 18) (v := 5) dX1_tell_18 (by decide) ?_
    refine sx_callSN (host := "ExchangeWire") (pc := 19) (As := [.int w, .int 5]) dX1_tell_19 (c_isBelow X Ex false shA μ _ _) mX5_isBelow (by decide +kernel) rfl ⟨Nat.le_of_ble_eq_true rfl, Nat.le_of_ble_eq_true rfl⟩ ⟨Nat.le_of_ble_eq_true rfl, Nat.le_of_ble_eq_true rfl⟩ (Nat.le_of_ble_eq_true rfl) hE (fun r_19 sh1 μ2 h_19 => ?_)
    obtain ⟨rfl, rfl, x_19, rfl, hx_19⟩ := h_19
    refine sx_if_ne (pc := 22) (tgt := 27) dX1_tell_22 (by decide) (fun c_22 => ?_) (fun c_22 => ?_)
    · have h_22t := c_22
      refine sx_aload_n (pc := 27) dX1_tell_27 rfl rfl ?_
      refine sx_getr (pc := 28) (ci := 1) (j := 0) (r := 93) dX1_tell_28 rfl s_Jo rfl (by decide) lf_X1_11 ?_
      refine sx_iload_n (pc := 31) dX1_tell_31 rfl rfl ?_
      refine sx_iconst (pc := 32) (v := 5) dX1_tell_32 (by decide) ?_
      refine sx_imul (pc := 33) dX1_tell_33 ?_
      refine sx_iload_n (pc := 34) dX1_tell_34 rfl rfl ?_
      refine sx_iadd (pc := 35) dX1_tell_35 ?_
      refine sx_iald (pc := 36) dX1_tell_36 s_parts (by decide) rfl (tix (isB_t hx_11 h_14f) (isB_t hx_19 h_22t)) ?_
      exact sx_iret (pc := 37) dX1_tell_37 rfl rfl (Nat.zero_le _) (Nat.zero_le _) (⟨rfl, rfl, _, rfl⟩)
    · have h_22f := c_22
      refine sx_iconst (pc := 25) (v := (-1)) dX1_tell_25 (by decide) ?_
      exact sx_iret (pc := 26) dX1_tell_26 rfl rfl (Nat.zero_le _) (Nat.zero_le _) (⟨rfl, rfl, _, rfl⟩)
set_option maxHeartbeats 1000000 in
set_option maxRecDepth 20000 in
theorem p_act (X : xD) (Ex : State → Prop) (hE : xEs X false shA.length Ex) (μ : xM) (i w : Int32) {v : VT} (hV : Vc μ v) (hD : VD v) : Ct X Ex false yX5_act kX5_act (rmN 2) [.ref (X.2 + 0), .int i, .int w] shA μ (fun r sh' μ' => shA = sh' ∧ Ks μ μ' ∧ Vc μ' (v) ∧ ∃ x : Int32, r = some (.int x)) := by
  refine Ct.of (L0 := [some (.ref (X.2 + 0)), some (.int i), some (.int w)]) (by decide) rfl (fun h => by cases h) (by simp [Value.category]) (Nat.le_of_ble_eq_true rfl) rfl (fun l => ?_)
  refine sx_aload_n (pc := 0) dX5_act_0 rfl rfl ?_
  refine sx_getr (pc := 1) (ci := 5) (j := 2) (r := 92) dX5_act_1 rfl s_EW rfl (by decide) lf_X5_26 ?_
  refine sx_iload_n (pc := 4) dX5_act_4 rfl rfl ?_
  refine sx_iload_n (pc := 5) dX5_act_5 rfl rfl ?_
  refine sx_callV (pc := 6) (As := [.int i, .int w]) dX5_act_6 (c_tell X Ex hE μ _ _) mX1_tell lm_X5_112 rfl s_Jo rfl ⟨Nat.le_of_ble_eq_true rfl, Nat.le_of_ble_eq_true rfl⟩ ⟨Nat.le_of_ble_eq_true rfl, Nat.le_of_ble_eq_true rfl⟩ (Nat.le_of_ble_eq_true rfl) hE (fun r_6 sh1 μ1 h_6 => ?_)
  obtain ⟨rfl, rfl, x_6, rfl⟩ := h_6
  exact sx_iret (pc := 9) dX5_act_9 rfl rfl (Nat.zero_le _) (Nat.zero_le _) (⟨rfl, fun _ _ => rfl, hV, _, rfl⟩)
set_option maxHeartbeats 1000000 in
set_option maxRecDepth 20000 in
theorem p_sum (X : xD) (Ex : State → Prop) (hE : xEs X false shA.length Ex) (μ : xM) (c : Int32) {v : VT} (hV : Vc μ v) (hD : VD v) : Ct X Ex false yX5_sum kX5_sum (rmN 0) [.ref (X.2 + 0), .int c] shA μ (fun r sh' μ' => shA = sh' ∧ Ks μ μ' ∧ Vc μ' ((oSum c v).1) ∧ r = some (.int ((oSum c v).2))) := by
  refine Ct.of (L0 := [some (.ref (X.2 + 0)), some (.int c), none]) (by decide) rfl (fun h => by cases h) (by simp [Value.category]) (Nat.le_of_ble_eq_true rfl) rfl (fun l => ?_)
  refine sx_iload_n (pc := 0) dX5_sum_0 rfl rfl ?_
  refine sx_if_ge (pc := 1) (tgt := 16) dX5_sum_1 (by decide) (fun c_1 => ?_) (fun c_1 => ?_)
  · have h_1t := c_1
    refine sx_aload_n (pc := 16) dX5_sum_16 rfl rfl ?_
    refine sx_aload_n (pc := 17) dX5_sum_17 rfl rfl ?_
    refine sx_geti (pc := 18) (ci := 5) (j := 4) dX5_sum_18 rfl s_EW rfl (by decide) lf_X5_37 ?_
    refine sx_iload_n (pc := 21) dX5_sum_21 rfl rfl ?_
    refine sx_iadd (pc := 22) dX5_sum_22 ?_
    refine sx_sipush (pc := 23) (v := 255) dX5_sum_23 (by decide) ?_
    refine sx_iand (pc := 26) dX5_sum_26 ?_
    refine sx_puti (pc := 27) (ci := 5) (j := 4) (ty := .int) dX5_sum_27 rfl s_EW rfl (by decide) lf_X5_37 rfl (by decide +kernel) rfl rfl (fun μ1 hμ1 => ?_)
    refine sx_aload_n (pc := 30) dX5_sum_30 rfl rfl ?_
    refine sx_geti (pc := 31) (ci := 5) (j := 4) dX5_sum_31 rfl s_EW rfl (by decide) lf_X5_37 ?_
    exact sx_iret (pc := 34) dX5_sum_34 rfl rfl (Nat.zero_le _) (Nat.zero_le _) (⟨rfl, fun a ha => by subst hμ1; funext b; rw [xup_at, if_neg (fun z => by omega)], by rw [oSum, if_neg (Int32.not_lt.mpr h_1t)]; exact ⟨fun e he => by have hh := hV.1 e he; unfold Ln at hh ⊢; have q : ∀ a, a ≠ 0 → μ1 a = μ a := (fun a ha => by subst hμ1; funext b; rw [xup_at, if_neg (fun z => ha z.1)]); rw [q _ (by omega), q _ (by omega), q _ (by omega)]; exact hh, by subst hμ1; simp [xup_at, hV.2.1], by subst hμ1; exact LB.off rfl ⟨by omega, fun _ _ => by omega⟩ hV.2.2⟩, by rw [oSum, if_neg (Int32.not_lt.mpr h_1t)]; subst hμ1; simp [xup_at, hV.2.1]⟩)
  · have h_1f := c_1
    refine sx_aload_n (pc := 4) dX5_sum_4 rfl rfl ?_
    refine sx_geti (pc := 5) (ci := 5) (j := 4) dX5_sum_5 rfl s_EW rfl (by decide) lf_X5_37 ?_
    refine sx_istore_n (pc := 8) (L' := [some (.ref (X.2 + 0)), some (.int c), some (.int (μ 0 4))]) dX5_sum_8 rfl (by decide) rfl ?_
    refine sx_aload_n (pc := 9) dX5_sum_9 rfl rfl ?_
    refine sx_iconst (pc := 10) (v := 0) dX5_sum_10 (by decide) ?_
    refine sx_puti (pc := 11) (ci := 5) (j := 4) (ty := .int) dX5_sum_11 rfl s_EW rfl (by decide) lf_X5_37 rfl (by decide +kernel) rfl rfl (fun μ2 hμ2 => ?_)
    refine sx_iload_n (pc := 14) dX5_sum_14 rfl rfl ?_
    exact sx_iret (pc := 15) dX5_sum_15 rfl rfl (Nat.zero_le _) (Nat.zero_le _) (⟨rfl, fun a ha => by subst hμ2; funext b; rw [xup_at, if_neg (fun z => by omega)], by rw [oSum, if_pos (Int32.not_le.mp h_1f)]; exact ⟨fun e he => by have hh := hV.1 e he; unfold Ln at hh ⊢; have q : ∀ a, a ≠ 0 → μ2 a = μ a := (fun a ha => by subst hμ2; funext b; rw [xup_at, if_neg (fun z => ha z.1)]); rw [q _ (by omega), q _ (by omega), q _ (by omega)]; exact hh, by subst hμ2; simp [xup_at, hV.2.1], by subst hμ2; exact LB.off rfl ⟨by omega, fun _ _ => by omega⟩ hV.2.2⟩, by rw [oSum, if_pos (Int32.not_le.mp h_1f), hV.2.1]⟩)
theorem sw5 (w : Int32) : w = 0 ∨ w = 1 ∨ w = 2 ∨ w = 3 ∨ w = 4 ∨ (w.toInt < 0 ∨ 4 < w.toInt) := by
  by_cases h : w.toInt < 0 ∨ 4 < w.toInt
  · exact Or.inr (Or.inr (Or.inr (Or.inr (Or.inr h))))
  · have h0 : w.toInt = 0 ∨ w.toInt = 1 ∨ w.toInt = 2 ∨ w.toInt = 3 ∨ w.toInt = 4 := by omega
    rcases h0 with h0 | h0 | h0 | h0 | h0
    · exact Or.inl (Int32.toInt_inj.mp h0)
    · exact Or.inr (Or.inl (Int32.toInt_inj.mp h0))
    · exact Or.inr (Or.inr (Or.inl (Int32.toInt_inj.mp h0)))
    · exact Or.inr (Or.inr (Or.inr (Or.inl (Int32.toInt_inj.mp h0))))
    · exact Or.inr (Or.inr (Or.inr (Or.inr (Or.inl (Int32.toInt_inj.mp h0)))))
set_option maxHeartbeats 1000000 in
set_option maxRecDepth 20000 in
theorem p_state (X : xD) (Ex : State → Prop) (hE : xEs X false shA.length Ex) (μ : xM) (dev w : Int32) {v : VT} (hV : Vc μ v) (hD : VD v) : Ct X Ex false yX5_state kX5_state (rmN 1) [.ref (X.2 + 0), .int dev, .int w] shA μ (fun r sh' μ' => shA = sh' ∧ Ks μ μ' ∧ Vc μ' (v) ∧ ∃ x : Int32, r = some (.int x)) := by
  refine Ct.of (L0 := [some (.ref (X.2 + 0)), some (.int dev), some (.int w), none]) (by decide) rfl (fun h => by cases h) (by simp [Value.category]) (Nat.le_of_ble_eq_true rfl) rfl (fun l => ?_)
  refine sx_iload_n (pc := 0) dX5_state_0 rfl rfl ?_
  refine sx_bipush (pc := 1) (v := 6) dX5_state_1 (by decide) ?_
  refine sx_callS (pc := 3) (As := [.int dev, .int 6]) dX5_state_3 (c_isBelow X Ex false shA μ _ _) mX5_isBelow lm_X5_41 rfl ⟨Nat.le_of_ble_eq_true rfl, Nat.le_of_ble_eq_true rfl⟩ ⟨Nat.le_of_ble_eq_true rfl, Nat.le_of_ble_eq_true rfl⟩ (Nat.le_of_ble_eq_true rfl) hE (fun r_3 sh1 μ1 h_3 => ?_)
  obtain ⟨rfl, rfl, x_3, rfl, hx_3⟩ := h_3
  refine sx_if_ne (pc := 6) (tgt := 11) dX5_state_6 (by decide) (fun c_6 => ?_) (fun c_6 => ?_)
  · have h_6t := c_6
    have hb := isB_t hx_3 h_6t
    have hd := clamp_lt (n := 6) hb.1 hb.2 (by decide)
    refine sx_aload_n (pc := 11) dX5_state_11 rfl rfl ?_
    refine sx_getr (pc := 12) (ci := 5) (j := 0) (r := 1) dX5_state_12 rfl s_EW rfl (by decide) lf_X5_11 ?_
    refine sx_iload_n (pc := 15) dX5_state_15 rfl rfl ?_
    refine sx_aald (pc := 16) (r := 2 + 9 * dev.toNatClampNeg) dX5_state_16 s_lines rfl rfl (vp_in_lt (n := 6) hb.1 hb.2 (by decide)) (el_lines _ hd) ?_
    refine sx_astore_n (pc := 17) (L' := [some (.ref (X.2 + 0)), some (.int dev), some (.int w), some (.ref (X.2 + (2 + 9 * dev.toNatClampNeg)))]) dX5_state_17 rfl (by decide) rfl ?_
    refine sx_iload_n (pc := 18) dX5_state_18 rfl rfl ?_
    rcases sw5 w with rfl | rfl | rfl | rfl | rfl | w_19
    · refine sx_tableIn (pc := 19) (off := 33) (tgt := 52) dX5_state_19 (by decide) (by decide) (by decide) (by decide) ?_
      refine sx_aload_n (pc := 52) dX5_state_52 rfl rfl ?_
      refine sx_geti (pc := 53) (ci := 2) (j := 4) dX5_state_53 rfl (s_Line _ hd) rfl (by decide) lf_X5_116 ?_
      exact sx_iret (pc := 56) dX5_state_56 rfl rfl (Nat.zero_le _) (Nat.zero_le _) (⟨rfl, fun _ _ => rfl, hV, _, rfl⟩)
    · refine sx_tableIn (pc := 19) (off := 38) (tgt := 57) dX5_state_19 (by decide) (by decide) (by decide) (by decide) ?_
      refine sx_aload_n (pc := 57) dX5_state_57 rfl rfl ?_
      refine sx_geti (pc := 58) (ci := 2) (j := 3) dX5_state_58 rfl (s_Line _ hd) rfl (by decide) lf_X5_119 ?_
      refine sx_if_eq (pc := 61) (tgt := 68) dX5_state_61 (by decide) (fun c_61 => ?_) (fun c_61 => ?_)
      · have h_61t := c_61
        refine sx_iconst (pc := 68) (v := 0) dX5_state_68 (by decide) ?_
        exact sx_iret (pc := 69) dX5_state_69 rfl rfl (Nat.zero_le _) (Nat.zero_le _) (⟨rfl, fun _ _ => rfl, hV, _, rfl⟩)
      · have h_61f := c_61
        refine sx_iconst (pc := 64) (v := 1) dX5_state_64 (by decide) ?_
        refine sx_goto (pc := 65) (tgt := 69) dX5_state_65 (by decide) ?_
        exact sx_iret (pc := 69) dX5_state_69 rfl rfl (Nat.zero_le _) (Nat.zero_le _) (⟨rfl, fun _ _ => rfl, hV, _, rfl⟩)
    · refine sx_tableIn (pc := 19) (off := 51) (tgt := 70) dX5_state_19 (by decide) (by decide) (by decide) (by decide) ?_
      refine sx_aload_n (pc := 70) dX5_state_70 rfl rfl ?_
      refine sx_geti (pc := 71) (ci := 2) (j := 2) dX5_state_71 rfl (s_Line _ hd) rfl (by decide) lf_X5_45 ?_
      refine sx_if_eq (pc := 74) (tgt := 81) dX5_state_74 (by decide) (fun c_74 => ?_) (fun c_74 => ?_)
      · have h_74t := c_74
        refine sx_iconst (pc := 81) (v := 0) dX5_state_81 (by decide) ?_
        exact sx_iret (pc := 82) dX5_state_82 rfl rfl (Nat.zero_le _) (Nat.zero_le _) (⟨rfl, fun _ _ => rfl, hV, _, rfl⟩)
      · have h_74f := c_74
        refine sx_iconst (pc := 77) (v := 1) dX5_state_77 (by decide) ?_
        refine sx_goto (pc := 78) (tgt := 82) dX5_state_78 (by decide) ?_
        exact sx_iret (pc := 82) dX5_state_82 rfl rfl (Nat.zero_le _) (Nat.zero_le _) (⟨rfl, fun _ _ => rfl, hV, _, rfl⟩)
    · refine sx_tableIn (pc := 19) (off := 64) (tgt := 83) dX5_state_19 (by decide) (by decide) (by decide) (by decide) ?_
      refine sx_aload_n (pc := 83) dX5_state_83 rfl rfl ?_
      refine sx_geti (pc := 84) (ci := 2) (j := 11) dX5_state_84 rfl (s_Line _ hd) rfl (by decide) lf_X5_87 ?_
      exact sx_iret (pc := 87) dX5_state_87 rfl rfl (Nat.zero_le _) (Nat.zero_le _) (⟨rfl, fun _ _ => rfl, hV, _, rfl⟩)
    · refine sx_tableIn (pc := 19) (off := 69) (tgt := 88) dX5_state_19 (by decide) (by decide) (by decide) (by decide) ?_
      refine sx_aload_n (pc := 88) dX5_state_88 rfl rfl ?_
      refine sx_geti (pc := 89) (ci := 2) (j := 5) dX5_state_89 rfl (s_Line _ hd) rfl (by decide) lf_X5_122 ?_
      exact sx_iret (pc := 92) dX5_state_92 rfl rfl (Nat.zero_le _) (Nat.zero_le _) (⟨rfl, fun _ _ => rfl, hV, _, rfl⟩)
    · refine sx_tableOut (pc := 19) (tgt := 93) dX5_state_19 w_19 (by decide) ?_
      refine sx_iconst (pc := 93) (v := (-1)) dX5_state_93 (by decide) ?_
      exact sx_iret (pc := 94) dX5_state_94 rfl rfl (Nat.zero_le _) (Nat.zero_le _) (⟨rfl, fun _ _ => rfl, hV, _, rfl⟩)
  · have h_6f := c_6
    refine sx_iconst (pc := 9) (v := (-1)) dX5_state_9 (by decide) ?_
    exact sx_iret (pc := 10) dX5_state_10 rfl rfl (Nat.zero_le _) (Nat.zero_le _) (⟨rfl, fun _ _ => rfl, hV, _, rfl⟩)
set_option maxHeartbeats 1000000 in
set_option maxRecDepth 20000 in
theorem p_waits (X : xD) (Ex : State → Prop) (hE : xEs X false shA.length Ex) (μ : xM) (it i : Int32) {v : VT} (hV : Vc μ v) (hD : VD v) : Ct X Ex false yX5_waits kX5_waits (rmN 1) [.ref (X.2 + 0), .int it, .int i] shA μ (fun r sh' μ' => shA = sh' ∧ Ks μ μ' ∧ Vc μ' (v) ∧ ∃ x : Int32, r = some (.int x)) := by
  refine Ct.of (L0 := [some (.ref (X.2 + 0)), some (.int it), some (.int i)]) (by decide) rfl (fun h => by cases h) (by simp [Value.category]) (Nat.le_of_ble_eq_true rfl) rfl (fun l => ?_)
  refine sx_iload_n (pc := 0) dX5_waits_0 rfl rfl ?_
  refine sx_bipush (pc := 1) (v := 30) dX5_waits_1 (by decide) ?_
  refine sx_callS (pc := 3) (As := [.int it, .int 30]) dX5_waits_3 (c_isBelow X Ex false shA μ _ _) mX5_isBelow lm_X5_41 rfl ⟨Nat.le_of_ble_eq_true rfl, Nat.le_of_ble_eq_true rfl⟩ ⟨Nat.le_of_ble_eq_true rfl, Nat.le_of_ble_eq_true rfl⟩ (Nat.le_of_ble_eq_true rfl) hE (fun r_3 sh1 μ1 h_3 => ?_)
  obtain ⟨rfl, rfl, x_3, rfl, hx_3⟩ := h_3
  refine sx_if_eq (pc := 6) (tgt := 25) dX5_waits_6 (by decide) (fun c_6 => ?_) (fun c_6 => ?_)
  · have h_6t := c_6
    refine sx_iconst (pc := 25) (v := (-1)) dX5_waits_25 (by decide) ?_
    exact sx_iret (pc := 26) dX5_waits_26 rfl rfl (Nat.zero_le _) (Nat.zero_le _) (⟨rfl, fun _ _ => rfl, hV, _, rfl⟩)
  · have h_6f := c_6
    have ht := isB_t hx_3 h_6f
    have hi := clamp_lt (n := 30) ht.1 ht.2 (by decide)
    have hq := hV.2.2.2 _ hi
    refine sx_iload_n (pc := 9) dX5_waits_9 rfl rfl ?_
    refine sx_aload_n (pc := 10) dX5_waits_10 rfl rfl ?_
    refine sx_getr (pc := 11) (ci := 5) (j := 1) (r := 56) dX5_waits_11 rfl s_EW rfl (by decide) lf_X5_19 ?_
    refine sx_getr (pc := 14) (ci := 0) (j := 4) (r := 91) dX5_waits_14 rfl s_Ho rfl (by decide) lf_X5_125 ?_
    refine sx_iload_n (pc := 17) dX5_waits_17 rfl rfl ?_
    refine sx_iald (pc := 18) dX5_waits_18 s_qlen (by decide) rfl (vp_in_lt (n := 30) ht.1 ht.2 (by decide)) ?_
    refine sx_callS (pc := 19) (As := [.int i, .int (μ 91 it.toNatClampNeg)]) dX5_waits_19 (c_isBelow X Ex false shA μ _ _) mX5_isBelow lm_X5_41 rfl ⟨Nat.le_of_ble_eq_true rfl, Nat.le_of_ble_eq_true rfl⟩ ⟨Nat.le_of_ble_eq_true rfl, Nat.le_of_ble_eq_true rfl⟩ (Nat.le_of_ble_eq_true rfl) hE (fun r_19 sh1 μ2 h_19 => ?_)
    obtain ⟨rfl, rfl, x_19, rfl, hx_19⟩ := h_19
    refine sx_if_ne (pc := 22) (tgt := 27) dX5_waits_22 (by decide) (fun c_22 => ?_) (fun c_22 => ?_)
    · have h_22t := c_22
      refine sx_aload_n (pc := 27) dX5_waits_27 rfl rfl ?_
      refine sx_getr (pc := 28) (ci := 5) (j := 1) (r := 56) dX5_waits_28 rfl s_EW rfl (by decide) lf_X5_19 ?_
      refine sx_getr (pc := 31) (ci := 0) (j := 3) (r := 60) dX5_waits_31 rfl s_Ho rfl (by decide) lf_X5_128 ?_
      refine sx_iload_n (pc := 34) dX5_waits_34 rfl rfl ?_
      refine sx_aald (pc := 35) (r := 61 + it.toNatClampNeg) dX5_waits_35 s_queues rfl rfl (vp_in_lt (n := 30) ht.1 ht.2 (by decide)) (el_queues _ hi) ?_
      refine sx_iload_n (pc := 36) dX5_waits_36 rfl rfl ?_
      refine sx_iald (pc := 37) dX5_waits_37 (s_qrow _ hi) (by decide) rfl (vp_in_lt (n := 30) (isB_t hx_19 h_22t).1 (Int32.lt_of_lt_of_le (isB_t hx_19 h_22t).2 hq.2) (by decide)) ?_
      exact sx_iret (pc := 38) dX5_waits_38 rfl rfl (Nat.zero_le _) (Nat.zero_le _) (⟨rfl, fun _ _ => rfl, hV, _, rfl⟩)
    · have h_22f := c_22
      refine sx_iconst (pc := 25) (v := (-1)) dX5_waits_25 (by decide) ?_
      exact sx_iret (pc := 26) dX5_waits_26 rfl rfl (Nat.zero_le _) (Nat.zero_le _) (⟨rfl, fun _ _ => rfl, hV, _, rfl⟩)
set_option maxHeartbeats 1000000 in
set_option maxRecDepth 20000 in
theorem l_join_end {X : xD} {Ex : State → Prop} (hE : xEs X false shA.length Ex) {l : Launch} {dev : Int32} (hb : 0 ≤ dev ∧ dev < 6) (hd : dev.toNatClampNeg < 6) {μ0 : xM} {v : VT} (hV : Vc μ0 v) {q : Nat} (hq : q ≤ 20) (hμq : μ0 (2 + 9 * dev.toNatClampNeg) 11 = nI q) {μ : xM} (hC : Ch SC μ0 μ) (y j : Int32) : sx l (rmN 4) X Ex false kX5_join shA.length (xZ X false shA.length (fun r sh' μ' => shA = sh' ∧ Ks μ0 μ' ∧ Vc μ' (oJoin dev v) ∧ ∃ x : Int32, r = some (.int x)) 0 0) 77 [some (.ref (X.2 + 0)), some (.int dev), some (.ref (X.2 + (2 + 9 * dev.toNatClampNeg))), some (.int y), some (.int j)] [] shA μ 0 0 := by
  refine sx_aload_n (pc := 77) dX5_join_77 rfl rfl ?_
  refine sx_iconst (pc := 78) (v := 0) dX5_join_78 (by decide) ?_
  refine sx_puti (pc := 79) (ci := 2) (j := 11) (ty := .int) dX5_join_79 rfl (s_Line _ hd) rfl (by decide) lf_X5_87 rfl (by decide +kernel) rfl rfl (fun μ1 hμ1 => ?_)
  refine sx_iload_n (pc := 82) dX5_join_82 rfl rfl ?_
  exact sx_iret (pc := 83) dX5_join_83 rfl rfl (Nat.zero_le _) (Nat.zero_le _) (by obtain ⟨q1, q2⟩ := join_ok hV hb hC hμ1; exact ⟨rfl, q1, q2, _, rfl⟩)
set_option maxHeartbeats 1000000 in
set_option maxRecDepth 20000 in
theorem l_join {X : xD} {Ex : State → Prop} (hE : xEs X false shA.length Ex) {l : Launch} {dev : Int32} (hb : 0 ≤ dev ∧ dev < 6) (hd : dev.toNatClampNeg < 6) {μ0 : xM} {v : VT} (hV : Vc μ0 v) {q : Nat} (hq : q ≤ 20) (hμq : μ0 (2 + 9 * dev.toNatClampNeg) 11 = nI q) : ∀ (t j : Nat) (y : Int32) (μ : xM), q - j ≤ t → j ≤ q → Ch SC μ0 μ → sx l (rmN 4) X Ex false kX5_join shA.length (xZ X false shA.length (fun r sh' μ' => shA = sh' ∧ Ks μ0 μ' ∧ Vc μ' (oJoin dev v) ∧ ∃ x : Int32, r = some (.int x)) 0 0) 23 [some (.ref (X.2 + 0)), some (.int dev), some (.ref (X.2 + (2 + 9 * dev.toNatClampNeg))), some (.int y), some (.int (nI j))] [] shA μ 0 0 := by
  intro t
  induction t with
  | zero =>
    intro j y μ ht hj hC
    have hr : μ (2 + 9 * dev.toNatClampNeg) 11 = nI q := by rw [hC.1 _ (by show ¬ (57 ≤ _ ∧ _ ≤ 94); omega)]; exact hμq
    refine sx_iload (pc := 23) dX5_join_23 rfl ?_
    refine sx_aload_n (pc := 25) dX5_join_25 rfl rfl ?_
    refine sx_geti (pc := 26) (ci := 2) (j := 11) dX5_join_26 rfl (s_Line _ hd) rfl (by decide) lf_X5_87 ?_
    refine sx_icmp_ge (pc := 29) (tgt := 77) dX5_join_29 (by decide) (fun c_29 => ?_) (fun c_29 => absurd (by rw [hr]; exact nI_le (by omega) (by omega)) c_29)
    exact l_join_end hE hb hd hV hq hμq hC _ _
  | succ t ih =>
    intro j y μ ht hj hC
    have hr : μ (2 + 9 * dev.toNatClampNeg) 11 = nI q := by rw [hC.1 _ (by show ¬ (57 ≤ _ ∧ _ ≤ 94); omega)]; exact hμq
    refine sx_iload (pc := 23) dX5_join_23 rfl ?_
    refine sx_aload_n (pc := 25) dX5_join_25 rfl rfl ?_
    refine sx_geti (pc := 26) (ci := 2) (j := 11) dX5_join_26 rfl (s_Line _ hd) rfl (by decide) lf_X5_87 ?_
    refine sx_icmp_ge (pc := 29) (tgt := 77) dX5_join_29 (by decide) (fun c_29 => ?_) (fun c_29 => ?_)
    · have h_29t := c_29
      exact l_join_end hE hb hd hV hq hμq hC _ _
    · have h_29f := c_29
      have hlt : j < q := Nat.lt_of_not_le fun z => h_29f (by rw [hr]; exact nI_le z (by omega))
      have hrow := (hV.1 _ hd).2.2.2 j (by omega)
      have e7 : μ (2 + 9 * dev.toNatClampNeg + 7) = μ0 (2 + 9 * dev.toNatClampNeg + 7) := hC.1 _ (by show ¬ (57 ≤ _ ∧ _ ≤ 94); omega)
      have e8 : μ (2 + 9 * dev.toNatClampNeg + 8) = μ0 (2 + 9 * dev.toNatClampNeg + 8) := hC.1 _ (by show ¬ (57 ≤ _ ∧ _ ≤ 94); omega)
      have ecl : (nI j).toNatClampNeg = j := nI_clamp (by omega)
      refine sx_aload_n (pc := 32) dX5_join_32 rfl rfl ?_
      refine sx_getr (pc := 33) (ci := 5) (j := 3) (r := 94) dX5_join_33 rfl s_EW rfl (by decide) lf_X5_33 ?_
      refine sx_aload_n (pc := 36) dX5_join_36 rfl rfl ?_
      refine sx_getr (pc := 37) (ci := 2) (j := 8) (r := 2 + 9 * dev.toNatClampNeg + 6) dX5_join_37 rfl (s_Line _ hd) rfl (by decide) lf_X5_90 ?_
      refine sx_iload (pc := 40) dX5_join_40 rfl ?_
      refine sx_iald (pc := 42) dX5_join_42 (s_Lrk _ hd) (by decide) rfl (vp_in_nI (by omega) (by decide)) ?_
      refine sx_aload_n (pc := 43) dX5_join_43 rfl rfl ?_
      refine sx_getr (pc := 44) (ci := 2) (j := 9) (r := 2 + 9 * dev.toNatClampNeg + 7) dX5_join_44 rfl (s_Line _ hd) rfl (by decide) lf_X5_93 ?_
      refine sx_iload (pc := 47) dX5_join_47 rfl ?_
      refine sx_iald (pc := 49) dX5_join_49 (s_Lri _ hd) (by decide) rfl (vp_in_nI (by omega) (by decide)) ?_
      refine sx_aload_n (pc := 50) dX5_join_50 rfl rfl ?_
      refine sx_getr (pc := 51) (ci := 2) (j := 10) (r := 2 + 9 * dev.toNatClampNeg + 8) dX5_join_51 rfl (s_Line _ hd) rfl (by decide) lf_X5_96 ?_
      refine sx_iload (pc := 54) dX5_join_54 rfl ?_
      refine sx_iald (pc := 56) dX5_join_56 (s_Lrp _ hd) (by decide) rfl (vp_in_nI (by omega) (by decide)) ?_
      refine sx_callV (pc := 57) (As := [.int (μ (2 + 9 * dev.toNatClampNeg + 6) (nI j).toNatClampNeg), .int (μ (2 + 9 * dev.toNatClampNeg + 7) (nI j).toNatClampNeg), .int (μ (2 + 9 * dev.toNatClampNeg + 8) (nI j).toNatClampNeg)]) dX5_join_57 (c_fill X Ex hE μ _ _ _) mX3_fillFromRow lm_X5_99 rfl s_Me rfl ⟨Nat.le_of_ble_eq_true rfl, Nat.le_of_ble_eq_true rfl⟩ ⟨Nat.le_of_ble_eq_true rfl, Nat.le_of_ble_eq_true rfl⟩ (Nat.le_of_ble_eq_true rfl) hE (fun r_57 sh1 μ1 h_57 => ?_)
      obtain ⟨rfl, rfl, k_57, g0, g3, g2⟩ := h_57
      have hG : GD μ1 := fun i hi => ⟨fun _ => by rw [g3, ecl, e7]; exact hrow.1, fun _ => by rw [g2, ecl, e8]; exact hrow.2⟩
      refine sx_aload_n (pc := 60) dX5_join_60 rfl rfl ?_
      refine sx_iload_n (pc := 61) dX5_join_61 rfl rfl ?_
      refine sx_callV (pc := 62) (As := [.int dev]) dX5_join_62 (c_carry X Ex hE μ1 _ hG (((Ch.trans hC k_57 (fun a (h : a = 94) => by show SC a; show 57 ≤ a ∧ a ≤ 94; omega))).2 hV.2.2)) mX5_carryOut lm_X5_103 rfl s_EW rfl ⟨Nat.le_of_ble_eq_true rfl, Nat.le_of_ble_eq_true rfl⟩ ⟨Nat.le_of_ble_eq_true rfl, Nat.le_of_ble_eq_true rfl⟩ (Nat.le_of_ble_eq_true rfl) hE (fun r_62 sh1 μ2 h_62 => ?_)
      obtain ⟨rfl, k_62, hG62, x_62, rfl, hx_62⟩ := h_62
      refine sx_if_eq (pc := 65) (tgt := 71) dX5_join_65 (by decide) (fun c_65 => ?_) (fun c_65 => ?_)
      · have h_65t := c_65
        refine sx_iinc (pc := 71) (v := nI (j + 1)) (L' := [some (.ref (X.2 + 0)), some (.int dev), some (.ref (X.2 + (2 + 9 * dev.toNatClampNeg))), some (.int y), some (.int (nI (j + 1)))]) dX5_join_71 rfl (nI_1 j) (by decide) rfl ?_
        refine sx_goto (pc := 74) (tgt := 23) dX5_join_74 (by decide) ?_
        exact ih (j + 1) _ _ (by omega) (by omega) (Ch.trans (Ch.trans hC k_57 (fun a (h : a = 94) => by show SC a; show 57 ≤ a ∧ a ≤ 94; omega)) k_62 (fun _ h => h))
      · have h_65f := c_65
        refine sx_iinc (pc := 68) (v := y + 1) (L' := [some (.ref (X.2 + 0)), some (.int dev), some (.ref (X.2 + (2 + 9 * dev.toNatClampNeg))), some (.int (y + 1)), some (.int (nI j))]) dX5_join_68 rfl rfl (by decide) rfl ?_
        refine sx_iinc (pc := 71) (v := nI (j + 1)) (L' := [some (.ref (X.2 + 0)), some (.int dev), some (.ref (X.2 + (2 + 9 * dev.toNatClampNeg))), some (.int (y + 1)), some (.int (nI (j + 1)))]) dX5_join_71 rfl (nI_1 j) (by decide) rfl ?_
        refine sx_goto (pc := 74) (tgt := 23) dX5_join_74 (by decide) ?_
        exact ih (j + 1) _ _ (by omega) (by omega) (Ch.trans (Ch.trans hC k_57 (fun a (h : a = 94) => by show SC a; show 57 ≤ a ∧ a ≤ 94; omega)) k_62 (fun _ h => h))
set_option maxHeartbeats 1000000 in
set_option maxRecDepth 20000 in
theorem p_join (X : xD) (Ex : State → Prop) (hE : xEs X false shA.length Ex) (μ : xM) (dev : Int32) {v : VT} (hV : Vc μ v) (hD : VD v) : Ct X Ex false yX5_join kX5_join (rmN 4) [.ref (X.2 + 0), .int dev] shA μ (fun r sh' μ' => shA = sh' ∧ Ks μ μ' ∧ Vc μ' (oJoin dev v) ∧ ∃ x : Int32, r = some (.int x)) := by
  refine Ct.of (L0 := [some (.ref (X.2 + 0)), some (.int dev), none, none, none]) (by decide) rfl (fun h => by cases h) (by simp [Value.category]) (Nat.le_of_ble_eq_true rfl) rfl (fun l => ?_)
  refine sx_iload_n (pc := 0) dX5_join_0 rfl rfl ?_
  refine sx_bipush (pc := 1) (v := 6) dX5_join_1 (by decide) ?_
  refine sx_callS (pc := 3) (As := [.int dev, .int 6]) dX5_join_3 (c_isBelow X Ex false shA μ _ _) mX5_isBelow lm_X5_41 rfl ⟨Nat.le_of_ble_eq_true rfl, Nat.le_of_ble_eq_true rfl⟩ ⟨Nat.le_of_ble_eq_true rfl, Nat.le_of_ble_eq_true rfl⟩ (Nat.le_of_ble_eq_true rfl) hE (fun r_3 sh1 μ1 h_3 => ?_)
  obtain ⟨rfl, rfl, x_3, rfl, hx_3⟩ := h_3
  refine sx_if_ne (pc := 6) (tgt := 11) dX5_join_6 (by decide) (fun c_6 => ?_) (fun c_6 => ?_)
  · have h_6t := c_6
    have hb := isB_t hx_3 h_6t
    have hd := clamp_lt (n := 6) hb.1 hb.2 (by decide)
    obtain ⟨q, hq, e⟩ := nI_of2 (x := μ (2 + 9 * dev.toNatClampNeg) 11) (M := 20) (n := 20) rfl (by rw [(hV.1 _ hd).2.2.1]; exact Int32.not_lt.mpr (hD.1 _ hd).2.2.1) (by rw [(hV.1 _ hd).2.2.1]; exact (hD.1 _ hd).2.2.2)
    refine sx_aload_n (pc := 11) dX5_join_11 rfl rfl ?_
    refine sx_getr (pc := 12) (ci := 5) (j := 0) (r := 1) dX5_join_12 rfl s_EW rfl (by decide) lf_X5_11 ?_
    refine sx_iload_n (pc := 15) dX5_join_15 rfl rfl ?_
    refine sx_aald (pc := 16) (r := 2 + 9 * dev.toNatClampNeg) dX5_join_16 s_lines rfl rfl (vp_in_lt (n := 6) hb.1 hb.2 (by decide)) (el_lines _ hd) ?_
    refine sx_astore_n (pc := 17) (L' := [some (.ref (X.2 + 0)), some (.int dev), some (.ref (X.2 + (2 + 9 * dev.toNatClampNeg))), none, none]) dX5_join_17 rfl (by decide) rfl ?_
    refine sx_iconst (pc := 18) (v := 0) dX5_join_18 (by decide) ?_
    refine sx_istore_n (pc := 19) (L' := [some (.ref (X.2 + 0)), some (.int dev), some (.ref (X.2 + (2 + 9 * dev.toNatClampNeg))), some (.int 0), none]) dX5_join_19 rfl (by decide) rfl ?_
    refine sx_iconst (pc := 20) (v := 0) dX5_join_20 (by decide) ?_
    refine sx_istore (pc := 21) (L' := [some (.ref (X.2 + 0)), some (.int dev), some (.ref (X.2 + (2 + 9 * dev.toNatClampNeg))), some (.int 0), some (.int 0)]) dX5_join_21 (by decide) rfl ?_
    exact l_join hE hb hd hV hq e 20 0 _ _ (by omega) (Nat.zero_le _) Ch.rf
  · have h_6f := c_6
    refine sx_iconst (pc := 9) (v := (-1)) dX5_join_9 (by decide) ?_
    exact sx_iret (pc := 10) dX5_join_10 rfl rfl (Nat.zero_le _) (Nat.zero_le _) (⟨rfl, fun _ _ => rfl, by rw [oJoin, if_neg (isB_f hx_3 h_6f)]; exact hV, _, rfl⟩)
