/-! the pure state: lines, rows, sum; the house -/
abbrev LT : Type := (Nat → Int32) × (Nat → Int32) × (Nat → Int32) × (Nat → Int32) × (Nat → Int32) × (Nat → Int32) × (Nat → Int32) × (Nat → Int32) × (Nat → Int32) × (Nat → Int32) × Int32
abbrev VT : Type := LT × HT
abbrev lS (v : VT) : Nat → Int32 := v.1.1
abbrev lY (v : VT) : Nat → Int32 := v.1.2.1
abbrev lB (v : VT) : Nat → Int32 := v.1.2.2.1
abbrev lG (v : VT) : Nat → Int32 := v.1.2.2.2.1
abbrev lD (v : VT) : Nat → Int32 := v.1.2.2.2.2.1
abbrev lW (v : VT) : Nat → Int32 := v.1.2.2.2.2.2.1
abbrev lR (v : VT) : Nat → Int32 := v.1.2.2.2.2.2.2.1
abbrev lK (v : VT) : Nat → Int32 := v.1.2.2.2.2.2.2.2.1
abbrev lI (v : VT) : Nat → Int32 := v.1.2.2.2.2.2.2.2.2.1
abbrev lP (v : VT) : Nat → Int32 := v.1.2.2.2.2.2.2.2.2.2.1
abbrev lM (v : VT) : Int32 := v.1.2.2.2.2.2.2.2.2.2.2
abbrev sgf (v : VT) (D : Nat) : Nat → Int32 := fun j => lY v (60 * D + j) &&& 255
def sMsg (v : VT) (D : Nat) (dev : Int32) (t : PT) : VT := if t.1 = 81 ∨ t.2.1 = lD v D then ((upd (lS v) D 0, lY v, lB v, lG v, lD v, lW v, lR v, lK v, lI v, lP v, lM v), v.2) else if (¬ t.1 = 83 ∧ lG v D = 0) ∨ bd t then ((upd (lS v) D 0, lY v, lB v, lG v, upd (lD v) D t.2.1, lW v, lR v, lK v, lI v, lP v, lM v), v.2) else ((upd (lS v) D 0, lY v, lB v, upd (lG v) D 1, upd (lD v) D t.2.1, lW v, lR v, lK v, lI v, lP v, lM v), jT v.2 dev t)
def sBad (v : VT) (D : Nat) : VT := ((upd (lS v) D 0, lY v, lB v, lG v, lD v, upd (lW v) D (lW v D + 1), lR v, lK v, lI v, lP v, lM v), v.2)
def sEnd (v : VT) (D : Nat) (dev : Int32) : VT := match prs (sgf v D) (lS v D).toNatClampNeg with
  | none => sBad v D
  | some t => sMsg v D dev t
theorem sEnd_n {v : VT} {D : Nat} {dev : Int32} (h : prs (sgf v D) (lS v D).toNatClampNeg = none) : sEnd v D dev = sBad v D := by rw [sEnd, h]
theorem sEnd_s {v : VT} {D : Nat} {dev : Int32} {t : PT} (h : prs (sgf v D) (lS v D).toNatClampNeg = some t) : sEnd v D dev = sMsg v D dev t := by rw [sEnd, h]
abbrev isD (dev : Int32) : Prop := 0 ≤ dev ∧ dev < 6
def oOct (dev b : Int32) (v : VT) : VT × Int32 := if isD dev then (if lB v (dev.toNatClampNeg) = 0 then (if b &&& 255 = 13 then (sEnd v (dev.toNatClampNeg) dev, 0) else (if lS v (dev.toNatClampNeg) = 60 then (((lS v, lY v, upd (lB v) (dev.toNatClampNeg) 1, lG v, lD v, lW v, lR v, lK v, lI v, lP v, lM v), v.2), (-2)) else (((upd (lS v) (dev.toNatClampNeg) (lS v (dev.toNatClampNeg) + 1), upd (lY v) (60 * dev.toNatClampNeg + (lS v (dev.toNatClampNeg)).toNatClampNeg) (vp_nar .byte b.toInt8.toInt32), lB v, lG v, lD v, lW v, lR v, lK v, lI v, lP v, lM v), v.2), lS v (dev.toNatClampNeg) + 1))) else (v, (-2))) else (v, (-1))
def oReset (dev : Int32) (v : VT) : VT := if isD dev then ((upd (lS v) (dev.toNatClampNeg) 0, lY v, upd (lB v) (dev.toNatClampNeg) 0, upd (lG v) (dev.toNatClampNeg) 0, upd (lD v) (dev.toNatClampNeg) (-1), upd (lW v) (dev.toNatClampNeg) 0, lR v, lK v, lI v, lP v, lM v), v.2) else v
def oOff (dev k i p : Int32) (v : VT) : VT × Int32 := if isD dev ∧ (0 ≤ k ∧ k < 2) ∧ (0 ≤ i ∧ i < 30) ∧ (0 ≤ p ∧ p < 30) then (if lR v (dev.toNatClampNeg) = 20 then (v, (-2)) else (((lS v, lY v, lB v, lG v, lD v, lW v, upd (lR v) (dev.toNatClampNeg) (lR v (dev.toNatClampNeg) + 1), upd (lK v) (20 * dev.toNatClampNeg + (lR v (dev.toNatClampNeg)).toNatClampNeg) k, upd (lI v) (20 * dev.toNatClampNeg + (lR v (dev.toNatClampNeg)).toNatClampNeg) i, upd (lP v) (20 * dev.toNatClampNeg + (lR v (dev.toNatClampNeg)).toNatClampNeg) p, lM v), v.2), lR v (dev.toNatClampNeg) + 1)) else (v, (-1))
def jst (v : VT) (dev : Int32) (z : HT × Int32) (j : Nat) : HT × Int32 := if lK v (20 * dev.toNatClampNeg + j) = 0 then (sC z.1 dev (-1) ((lI v (20 * dev.toNatClampNeg + j)).toNatClampNeg) ((lP v (20 * dev.toNatClampNeg + j)).toNatClampNeg), if oC z.1 ((lI v (20 * dev.toNatClampNeg + j)).toNatClampNeg) ((lP v (20 * dev.toNatClampNeg + j)).toNatClampNeg) then z.2 + 1 else z.2) else (sB z.1 dev (-1) ((lI v (20 * dev.toNatClampNeg + j)).toNatClampNeg), if oB z.1 ((lI v (20 * dev.toNatClampNeg + j)).toNatClampNeg) then z.2 + 1 else z.2)
def jl (v : VT) (dev : Int32) : Nat → HT × Int32
  | 0 => (v.2, 0)
  | j + 1 => jst v dev (jl v dev j) j
def oJoin (dev : Int32) (v : VT) : VT × Int32 := if isD dev then (((lS v, lY v, lB v, lG v, lD v, lW v, upd (lR v) (dev.toNatClampNeg) 0, lK v, lI v, lP v, lM v), (jl v dev ((lR v (dev.toNatClampNeg)).toNatClampNeg)).1), (jl v dev ((lR v (dev.toNatClampNeg)).toNatClampNeg)).2) else (v, (-1))
def oOwes (p c : Int32) (v : VT) : VT × Int32 := if (0 ≤ p ∧ p < 30) ∧ 0 ≤ c ∧ c ≤ 100000 then ((v.1, (upd (vO v.2) (p.toNatClampNeg) c, v.2.2)), vO v.2 (p.toNatClampNeg)) else (v, (-1))
def oActs (v : VT) : Int32 := vA v.2
def oAct (i w : Int32) (v : VT) : Int32 := if ((0 ≤ i ∧ i < vA v.2) ∧ i < 1000) ∧ 0 ≤ w ∧ w < 5 then vJ v.2 ((5 * i + w).toNatClampNeg) else (-1)
def oSum (c : Int32) (v : VT) : VT × Int32 := if c < 0 then (((lS v, lY v, lB v, lG v, lD v, lW v, lR v, lK v, lI v, lP v, 0), v.2), lM v) else (((lS v, lY v, lB v, lG v, lD v, lW v, lR v, lK v, lI v, lP v, (lM v + c) &&& 255), v.2), (lM v + c) &&& 255)
def oState (dev w : Int32) (v : VT) : Int32 := if isD dev then (if w = 0 then lD v (dev.toNatClampNeg) else if w = 1 then (if lG v (dev.toNatClampNeg) = 0 then 0 else 1) else if w = 2 then (if lB v (dev.toNatClampNeg) = 0 then 0 else 1) else if w = 3 then lR v (dev.toNatClampNeg) else if w = 4 then lW v (dev.toNatClampNeg) else (-1)) else (-1)
def oWaits (it i : Int32) (v : VT) : Int32 := if (0 ≤ it ∧ it < 30) ∧ 0 ≤ i ∧ i < vW v.2 (it.toNatClampNeg) then vQ v.2 (30 * it.toNatClampNeg + i.toNatClampNeg) else (-1)
def VD (n : Nat) (v : VT) : Prop := (∀ d, d < 6 → (lB v d = 0 ∨ lB v d = 1) ∧ (lG v d = 0 ∨ lG v d = 1) ∧ (0 ≤ lS v d ∧ lS v d ≤ 60) ∧ 0 ≤ lR v d ∧ lR v d ≤ 20) ∧ (∀ j, j < 120 → (0 ≤ lI v j ∧ lI v j < 30) ∧ 0 ≤ lP v j ∧ lP v j < 30) ∧ (0 ≤ lM v ∧ lM v < 256) ∧ HW n v.2
/-! the class against it -/
def Rw (μ : xM) (v : VT) (d j : Nat) : Prop := (nI j < lR v d → μ (2 + 9 * d + 6) j = if lK v (20 * d + j) = 0 then 67 else 66) ∧ μ (2 + 9 * d + 7) j = lI v (20 * d + j) ∧ μ (2 + 9 * d + 8) j = lP v (20 * d + j)
def Ln (μ : xM) (v : VT) (d : Nat) : Prop := (μ (2 + 9 * d) 2 = lB v d ∧ (lB v d = 0 → μ (2 + 9 * d) 1 = lS v d) ∧ μ (2 + 9 * d) 11 = lR v d ∧ μ (2 + 9 * d) 3 = lG v d ∧ μ (2 + 9 * d) 4 = lD v d ∧ μ (2 + 9 * d) 5 = lW v d) ∧ (∀ j, j < 60 → μ (2 + 9 * d + 1) j = sgf v d j) ∧ ∀ j, j < 20 → Rw μ v d j
def Vc (μ : xM) (v : VT) : Prop := (∀ d, d < 6 → Ln μ v d) ∧ μ 0 4 = lM v ∧ LB μ ∧ Hc μ v.2
abbrev Ks (μ μ' : xM) : Prop := ∀ a, 95 ≤ a → μ' a = μ a
abbrev pl (a : Nat) : Prop := ∀ e, e < 6 → a ≠ 2 + 9 * e + 2 ∧ a ≠ 2 + 9 * e + 3 ∧ a ≠ 2 + 9 * e + 4 ∧ a ≠ 2 + 9 * e + 5
def Lv (v v' : VT) (e : Nat) : Prop := (lB v' e = lB v e ∧ lS v' e = lS v e ∧ lR v' e = lR v e ∧ lG v' e = lG v e ∧ lD v' e = lD v e ∧ lW v' e = lW v e) ∧ (∀ j, j < 60 → lY v' (60 * e + j) = lY v (60 * e + j)) ∧ ∀ j, j < 20 → lK v' (20 * e + j) = lK v (20 * e + j) ∧ lI v' (20 * e + j) = lI v (20 * e + j) ∧ lP v' (20 * e + j) = lP v (20 * e + j)
theorem Ln.same {μ μ' : xM} {v v' : VT} {e : Nat} (h : Ln μ v e) (k : μ' (2 + 9 * e) = μ (2 + 9 * e) ∧ μ' (2 + 9 * e + 1) = μ (2 + 9 * e + 1) ∧ μ' (2 + 9 * e + 6) = μ (2 + 9 * e + 6) ∧ μ' (2 + 9 * e + 7) = μ (2 + 9 * e + 7) ∧ μ' (2 + 9 * e + 8) = μ (2 + 9 * e + 8)) (q : Lv v v' e) : Ln μ' v' e := by
  obtain ⟨k1, k2, k3, k4, k5⟩ := k
  obtain ⟨⟨q1, q2, q3, q4, q5, q6⟩, q7, q8⟩ := q
  obtain ⟨h1, h2, h3⟩ := h
  refine ⟨by rw [k1, q1, q2, q3, q4, q5, q6]; exact h1, fun j hj => ?_, fun j hj => ?_⟩
  · show μ' (2 + 9 * e + 1) j = lY v' (60 * e + j) &&& 255
    rw [k2, q7 j hj]; exact h2 j hj
  · obtain ⟨r1, r2, r3⟩ := q8 j hj
    unfold Rw
    rw [k3, k4, k5, q3, r1, r2, r3]
    exact h3 j hj
theorem Lv.rf {v : VT} {e : Nat} : Lv v v e := ⟨⟨rfl, rfl, rfl, rfl, rfl, rfl⟩, fun _ _ => rfl, fun _ _ => ⟨rfl, rfl, rfl⟩⟩
theorem Vc.upd {μ μ' : xM} {v v' : VT} {d : Nat} (h : Vc μ v) (hLB : LB μ') (h0 : μ' 0 4 = lM v') (ho : ∀ e, e < 6 → e ≠ d → ∀ a, 2 + 9 * e ≤ a → a ≤ 2 + 9 * e + 8 → μ' a = μ a) (hv : ∀ e, e < 6 → e ≠ d → Lv v v' e) (hl : Ln μ' v' d) (hH : Hc μ' v'.2) : Vc μ' v' := by
  refine ⟨fun e he => ?_, h0, hLB, hH⟩
  by_cases q : e = d
  · rw [q]; exact hl
  · have k := ho e he q
    exact (h.1 e he).same ⟨k _ (by omega) (by omega), k _ (by omega) (by omega), k _ (by omega) (by omega), k _ (by omega) (by omega), k _ (by omega) (by omega)⟩ (hv e he q)
theorem Vc.lines {μ μ' : xM} {v v' : VT} (h : Vc μ v) (hLB : LB μ') (h0 : μ' 0 4 = lM v') (ho : ∀ a, 2 ≤ a → a ≤ 55 → μ' a = μ a) (hv : ∀ e, e < 6 → Lv v v' e) (hH : Hc μ' v'.2) : Vc μ' v' :=
  ⟨fun e he => (h.1 e he).same ⟨ho _ (by omega) (by omega), ho _ (by omega) (by omega), ho _ (by omega) (by omega), ho _ (by omega) (by omega), ho _ (by omega) (by omega)⟩ (hv e he), h0, hLB, hH⟩
set_option maxHeartbeats 1000000 in
set_option maxRecDepth 20000 in
theorem c_take (X : xD) (Ex : State → Prop) (hE : xEs X false shA.length Ex) (μ : xM) (d : Nat) (hd : d < 6) (sg : Int32) : Ct X Ex false yX2_take kX2_take (rmN 1) [.ref (X.2 + (2 + 9 * d)), .int sg] shA μ (fun r sh' μ' => shA = sh' ∧ Ch (fun a => a = 2 + 9 * d ∨ a = 2 + 9 * d + 1) μ μ' ∧ ((¬ μ (2 + 9 * d) 2 = 0 ∧ μ' = μ ∧ r = some (.int (-2))) ∨ (μ (2 + 9 * d) 2 = 0 ∧ (0 ≤ μ (2 + 9 * d) 1 ∧ μ (2 + 9 * d) 1 < 60) ∧ μ' = xup (xup μ (2 + 9 * d + 1) (μ (2 + 9 * d) 1).toNatClampNeg sg) (2 + 9 * d) 1 (μ (2 + 9 * d) 1 + 1) ∧ r = some (.int (μ (2 + 9 * d) 1 + 1))) ∨ (μ (2 + 9 * d) 2 = 0 ∧ ¬ (0 ≤ μ (2 + 9 * d) 1 ∧ μ (2 + 9 * d) 1 < 60) ∧ μ' = xup (xup μ (2 + 9 * d) 1 (μ (2 + 9 * d) 1 + 1)) (2 + 9 * d) 2 1 ∧ r = some (.int (-2))))) := by
  refine Ct.of (L0 := [some (.ref (X.2 + (2 + 9 * d))), some (.int sg)]) (by decide) rfl (fun h => by cases h) (by simp [Value.category]) (Nat.le_of_ble_eq_true rfl) rfl (fun l => ?_)
  refine sx_aload_n (pc := 0) dX2_take_0 rfl rfl ?_
  refine sx_geti (pc := 1) (ci := 2) (j := 2) dX2_take_1 rfl (s_Line _ hd) rfl (by decide) lf_X2_19 ?_
  refine sx_if_eq (pc := 4) (tgt := 10) dX2_take_4 (by decide) (fun c_4 => ?_) (fun c_4 => ?_)
  · have h_4t := c_4
    refine sx_aload_n (pc := 10) dX2_take_10 rfl rfl ?_
    refine sx_geti (pc := 11) (ci := 2) (j := 1) dX2_take_11 rfl (s_Line _ hd) rfl (by decide) lf_X2_15 ?_
    refine sx_bipush (pc := 14) (v := 60) dX2_take_14 (by decide) ?_
    refine sx_callSN (host := "ExchangeWire") (pc := 16) (As := [.int (μ (2 + 9 * d) 1), .int 60]) dX2_take_16 (c_isBelow X Ex false shA μ _ _) mX5_isBelow (by decide +kernel) rfl ⟨Nat.le_of_ble_eq_true rfl, Nat.le_of_ble_eq_true rfl⟩ ⟨Nat.le_of_ble_eq_true rfl, Nat.le_of_ble_eq_true rfl⟩ (Nat.le_of_ble_eq_true rfl) hE (fun r_16 sh1 μ1 h_16 => ?_)
    obtain ⟨rfl, rfl, x_16, rfl, hx_16⟩ := h_16
    refine sx_if_eq (pc := 19) (tgt := 47) dX2_take_19 (by decide) (fun c_19 => ?_) (fun c_19 => ?_)
    · have h_19t := c_19
      refine sx_aload_n (pc := 47) dX2_take_47 rfl rfl ?_
      refine sx_dup (pc := 48) dX2_take_48 rfl ?_
      refine sx_geti (pc := 49) (ci := 2) (j := 1) dX2_take_49 rfl (s_Line _ hd) rfl (by decide) lf_X2_15 ?_
      refine sx_iconst (pc := 52) (v := 1) dX2_take_52 (by decide) ?_
      refine sx_iadd (pc := 53) dX2_take_53 ?_
      refine sx_puti (pc := 54) (ci := 2) (j := 1) (ty := .int) dX2_take_54 rfl (s_Line _ hd) rfl (by decide) lf_X2_15 rfl (by decide +kernel) rfl rfl (fun μ2 hμ2 => ?_)
      refine sx_aload_n (pc := 57) dX2_take_57 rfl rfl ?_
      refine sx_iconst (pc := 58) (v := 1) dX2_take_58 (by decide) ?_
      refine sx_puti (pc := 59) (ci := 2) (j := 2) (ty := .boolean) dX2_take_59 rfl (s_Line _ hd) rfl (by decide) lf_X2_19 rfl (by decide +kernel) rfl rfl (fun μ3 hμ3 => ?_)
      refine sx_bipush (pc := 62) (v := (-2)) dX2_take_62 (by decide) ?_
      exact sx_iret (pc := 64) dX2_take_64 rfl rfl (Nat.zero_le _) (Nat.zero_le _) (⟨rfl, (Ch.put (Ch.put (Ch.rf) hμ2 (by omega) (LB.off hμ2 ⟨by omega, fun _ _ => by omega⟩)) hμ3 (by omega) (LB.off hμ3 ⟨by omega, fun _ _ => by omega⟩)), Or.inr (Or.inr ⟨h_4t, isB_f hx_16 h_19t, by subst hμ3; subst hμ2; rfl, rfl⟩)⟩)
    · have h_19f := c_19
      refine sx_aload_n (pc := 22) dX2_take_22 rfl rfl ?_
      refine sx_getr (pc := 23) (ci := 2) (j := 0) (r := 2 + 9 * d + 1) dX2_take_23 rfl (s_Line _ hd) rfl (by decide) lf_X2_9 ?_
      refine sx_aload_n (pc := 26) dX2_take_26 rfl rfl ?_
      refine sx_geti (pc := 27) (ci := 2) (j := 1) dX2_take_27 rfl (s_Line _ hd) rfl (by decide) lf_X2_15 ?_
      refine sx_iload_n (pc := 30) dX2_take_30 rfl rfl ?_
      refine sx_iast (pc := 31) dX2_take_31 (s_Lsg _ hd) (by decide) rfl (vp_in_lt (n := 60) (isB_t hx_16 h_19f).1 (isB_t hx_16 h_19f).2 (by decide)) (fun μ4 hμ4 => ?_)
      refine sx_aload_n (pc := 32) dX2_take_32 rfl rfl ?_
      refine sx_dup (pc := 33) dX2_take_33 rfl ?_
      refine sx_geti (pc := 34) (ci := 2) (j := 1) dX2_take_34 rfl (s_Line _ hd) rfl (by decide) lf_X2_15 ?_
      refine sx_iconst (pc := 37) (v := 1) dX2_take_37 (by decide) ?_
      refine sx_iadd (pc := 38) dX2_take_38 ?_
      refine sx_puti (pc := 39) (ci := 2) (j := 1) (ty := .int) dX2_take_39 rfl (s_Line _ hd) rfl (by decide) lf_X2_15 rfl (by decide +kernel) rfl rfl (fun μ5 hμ5 => ?_)
      refine sx_aload_n (pc := 42) dX2_take_42 rfl rfl ?_
      refine sx_geti (pc := 43) (ci := 2) (j := 1) dX2_take_43 rfl (s_Line _ hd) rfl (by decide) lf_X2_15 ?_
      exact sx_iret (pc := 46) dX2_take_46 rfl rfl (Nat.zero_le _) (Nat.zero_le _) (⟨rfl, (Ch.put (Ch.put (Ch.rf) hμ4 (by omega) (LB.off hμ4 ⟨by omega, fun _ _ => by omega⟩)) hμ5 (by omega) (LB.off hμ5 ⟨by omega, fun _ _ => by omega⟩)), Or.inr (Or.inl ⟨h_4t, isB_t hx_16 h_19f, by subst hμ5; subst hμ4; rw [show xup μ (2 + 9 * d + 1) _ sg (2 + 9 * d) 1 = μ (2 + 9 * d) 1 from (by rw [xup_at, if_neg (by omega)])], by subst hμ5; subst hμ4; simp [xup_at]⟩)⟩)
  · have h_4f := c_4
    refine sx_bipush (pc := 7) (v := (-2)) dX2_take_7 (by decide) ?_
    exact sx_iret (pc := 9) dX2_take_9 rfl rfl (Nat.zero_le _) (Nat.zero_le _) (⟨rfl, (Ch.rf), Or.inl ⟨h_4f, rfl, rfl⟩⟩)
set_option maxHeartbeats 1000000 in
set_option maxRecDepth 20000 in
theorem c_clear (X : xD) (Ex : State → Prop) (hE : xEs X false shA.length Ex) (μ : xM) (d : Nat) (hd : d < 6) : Ct X Ex false yX2_clear kX2_clear (rmN 0) [.ref (X.2 + (2 + 9 * d))] shA μ (fun r sh' μ' => shA = sh' ∧ r = none ∧ Ch (fun a => a = 2 + 9 * d ∨ a = 2 + 9 * d + 2 ∨ a = 2 + 9 * d + 4) μ μ' ∧ μ' (2 + 9 * d) 1 = 0 ∧ μ' (2 + 9 * d) 2 = 0 ∧ μ' (2 + 9 * d) 11 = μ (2 + 9 * d) 11 ∧ μ' (2 + 9 * d) 3 = 0 ∧ μ' (2 + 9 * d) 4 = (-1) ∧ μ' (2 + 9 * d) 5 = 0) := by
  refine Ct.of (L0 := [some (.ref (X.2 + (2 + 9 * d)))]) (by decide) rfl (fun h => by cases h) (by simp [Value.category]) (Nat.le_of_ble_eq_true rfl) rfl (fun l => ?_)
  refine sx_aload_n (pc := 0) dX2_clear_0 rfl rfl ?_
  refine sx_iconst (pc := 1) (v := 0) dX2_clear_1 (by decide) ?_
  refine sx_puti (pc := 2) (ci := 2) (j := 1) (ty := .int) dX2_clear_2 rfl (s_Line _ hd) rfl (by decide) lf_X2_15 rfl (by decide +kernel) rfl rfl (fun μ1 hμ1 => ?_)
  refine sx_aload_n (pc := 5) dX2_clear_5 rfl rfl ?_
  refine sx_iconst (pc := 6) (v := 0) dX2_clear_6 (by decide) ?_
  refine sx_puti (pc := 7) (ci := 2) (j := 2) (ty := .boolean) dX2_clear_7 rfl (s_Line _ hd) rfl (by decide) lf_X2_19 rfl (by decide +kernel) rfl rfl (fun μ2 hμ2 => ?_)
  refine sx_aload_n (pc := 10) dX2_clear_10 rfl rfl ?_
  refine sx_iconst (pc := 11) (v := 0) dX2_clear_11 (by decide) ?_
  refine sx_puti (pc := 12) (ci := 2) (j := 3) (ty := .boolean) dX2_clear_12 rfl (s_Line _ hd) rfl (by decide) lf_X2_23 rfl (by decide +kernel) rfl rfl (fun μ3 hμ3 => ?_)
  refine sx_aload_n (pc := 15) dX2_clear_15 rfl rfl ?_
  refine sx_iconst (pc := 16) (v := (-1)) dX2_clear_16 (by decide) ?_
  refine sx_puti (pc := 17) (ci := 2) (j := 4) (ty := .int) dX2_clear_17 rfl (s_Line _ hd) rfl (by decide) lf_X2_26 rfl (by decide +kernel) rfl rfl (fun μ4 hμ4 => ?_)
  refine sx_aload_n (pc := 20) dX2_clear_20 rfl rfl ?_
  refine sx_iconst (pc := 21) (v := 0) dX2_clear_21 (by decide) ?_
  refine sx_puti (pc := 22) (ci := 2) (j := 5) (ty := .int) dX2_clear_22 rfl (s_Line _ hd) rfl (by decide) lf_X2_29 rfl (by decide +kernel) rfl rfl (fun μ5 hμ5 => ?_)
  refine sx_aload_n (pc := 25) dX2_clear_25 rfl rfl ?_
  refine sx_getr (pc := 26) (ci := 2) (j := 6) (r := 2 + 9 * d + 2) dX2_clear_26 rfl (s_Line _ hd) rfl (by decide) lf_X2_35 ?_
  refine sx_iconst (pc := 29) (v := 0) dX2_clear_29 (by decide) ?_
  refine sx_puti (pc := 30) (ci := 4) (j := 1) (ty := .int) dX2_clear_30 rfl (s_Lsh _ hd).1 rfl (by decide) lf_X2_58 rfl (by decide +kernel) rfl rfl (fun μ6 hμ6 => ?_)
  refine sx_aload_n (pc := 33) dX2_clear_33 rfl rfl ?_
  refine sx_getr (pc := 34) (ci := 2) (j := 7) (r := 2 + 9 * d + 4) dX2_clear_34 rfl (s_Line _ hd) rfl (by decide) lf_X2_39 ?_
  refine sx_iconst (pc := 37) (v := 0) dX2_clear_37 (by decide) ?_
  refine sx_puti (pc := 38) (ci := 4) (j := 1) (ty := .int) dX2_clear_38 rfl (s_Lke _ hd).1 rfl (by decide) lf_X2_58 rfl (by decide +kernel) rfl rfl (fun μ7 hμ7 => ?_)
  exact sx_vret (pc := 41) dX2_clear_41 rfl (Nat.zero_le _) (Nat.zero_le _) (⟨rfl, rfl, (Ch.put (Ch.put (Ch.put (Ch.put (Ch.put (Ch.put (Ch.put (Ch.rf) hμ1 (by omega) (LB.off hμ1 ⟨by omega, fun _ _ => by omega⟩)) hμ2 (by omega) (LB.off hμ2 ⟨by omega, fun _ _ => by omega⟩)) hμ3 (by omega) (LB.off hμ3 ⟨by omega, fun _ _ => by omega⟩)) hμ4 (by omega) (LB.off hμ4 ⟨by omega, fun _ _ => by omega⟩)) hμ5 (by omega) (LB.off hμ5 ⟨by omega, fun _ _ => by omega⟩)) hμ6 (by omega) (LB.len hμ6 ⟨d, hd, Or.inl rfl⟩ (by decide))) hμ7 (by omega) (LB.len hμ7 ⟨d, hd, Or.inr rfl⟩ (by decide))), by subst hμ7; subst hμ6; subst hμ5; subst hμ4; subst hμ3; subst hμ2; subst hμ1; simp [xup_at], by subst hμ7; subst hμ6; subst hμ5; subst hμ4; subst hμ3; subst hμ2; subst hμ1; simp [xup_at], by subst hμ7; subst hμ6; subst hμ5; subst hμ4; subst hμ3; subst hμ2; subst hμ1; simp [xup_at], by subst hμ7; subst hμ6; subst hμ5; subst hμ4; subst hμ3; subst hμ2; subst hμ1; simp [xup_at], by subst hμ7; subst hμ6; subst hμ5; subst hμ4; subst hμ3; subst hμ2; subst hμ1; simp [xup_at], by subst hμ7; subst hμ6; subst hμ5; subst hμ4; subst hμ3; subst hμ2; subst hμ1; simp [xup_at]⟩)
set_option maxHeartbeats 1000000 in
set_option maxRecDepth 20000 in
theorem c_addRow (X : xD) (Ex : State → Prop) (hE : xEs X false shA.length Ex) (μ : xM) (d : Nat) (hd : d < 6) (kd it ps : Int32) : Ct X Ex false yX2_addRow kX2_addRow (rmN 1) [.ref (X.2 + (2 + 9 * d)), .int kd, .int it, .int ps] shA μ (fun r sh' μ' => shA = sh' ∧ Ch (fun a => a = 2 + 9 * d ∨ a = 2 + 9 * d + 6 ∨ a = 2 + 9 * d + 7 ∨ a = 2 + 9 * d + 8) μ μ' ∧ ((¬ (0 ≤ μ (2 + 9 * d) 11 ∧ μ (2 + 9 * d) 11 < 20) ∧ μ' = μ ∧ r = some (.int (-2))) ∨ ((0 ≤ μ (2 + 9 * d) 11 ∧ μ (2 + 9 * d) 11 < 20) ∧ (∀ j, j ≠ 11 → μ' (2 + 9 * d) j = μ (2 + 9 * d) j) ∧ μ' (2 + 9 * d) 11 = μ (2 + 9 * d) 11 + 1 ∧ (∀ j, μ' (2 + 9 * d + 6) j = if j = (μ (2 + 9 * d) 11).toNatClampNeg then kd else μ (2 + 9 * d + 6) j) ∧ (∀ j, μ' (2 + 9 * d + 7) j = if j = (μ (2 + 9 * d) 11).toNatClampNeg then it else μ (2 + 9 * d + 7) j) ∧ (∀ j, μ' (2 + 9 * d + 8) j = if j = (μ (2 + 9 * d) 11).toNatClampNeg then ps else μ (2 + 9 * d + 8) j) ∧ r = some (.int (μ (2 + 9 * d) 11 + 1))))) := by
  refine Ct.of (L0 := [some (.ref (X.2 + (2 + 9 * d))), some (.int kd), some (.int it), some (.int ps)]) (by decide) rfl (fun h => by cases h) (by simp [Value.category]) (Nat.le_of_ble_eq_true rfl) rfl (fun l => ?_)
  refine sx_aload_n (pc := 0) dX2_addRow_0 rfl rfl ?_
  refine sx_geti (pc := 1) (ci := 2) (j := 11) dX2_addRow_1 rfl (s_Line _ hd) rfl (by decide) lf_X2_51 ?_
  refine sx_bipush (pc := 4) (v := 20) dX2_addRow_4 (by decide) ?_
  refine sx_callSN (host := "ExchangeWire") (pc := 6) (As := [.int (μ (2 + 9 * d) 11), .int 20]) dX2_addRow_6 (c_isBelow X Ex false shA μ _ _) mX5_isBelow (by decide +kernel) rfl ⟨Nat.le_of_ble_eq_true rfl, Nat.le_of_ble_eq_true rfl⟩ ⟨Nat.le_of_ble_eq_true rfl, Nat.le_of_ble_eq_true rfl⟩ (Nat.le_of_ble_eq_true rfl) hE (fun r_6 sh1 μ1 h_6 => ?_)
  obtain ⟨rfl, rfl, x_6, rfl, hx_6⟩ := h_6
  refine sx_if_ne (pc := 9) (tgt := 15) dX2_addRow_9 (by decide) (fun c_9 => ?_) (fun c_9 => ?_)
  · have h_9t := c_9
    refine sx_aload_n (pc := 15) dX2_addRow_15 rfl rfl ?_
    refine sx_getr (pc := 16) (ci := 2) (j := 8) (r := 2 + 9 * d + 6) dX2_addRow_16 rfl (s_Line _ hd) rfl (by decide) lf_X2_42 ?_
    refine sx_aload_n (pc := 19) dX2_addRow_19 rfl rfl ?_
    refine sx_geti (pc := 20) (ci := 2) (j := 11) dX2_addRow_20 rfl (s_Line _ hd) rfl (by decide) lf_X2_51 ?_
    refine sx_iload_n (pc := 23) dX2_addRow_23 rfl rfl ?_
    refine sx_iast (pc := 24) dX2_addRow_24 (s_Lrk _ hd) (by decide) rfl (vp_in_lt (n := 20) (isB_t hx_6 h_9t).1 (isB_t hx_6 h_9t).2 (by decide)) (fun μ2 hμ2 => ?_)
    refine sx_aload_n (pc := 25) dX2_addRow_25 rfl rfl ?_
    refine sx_getr (pc := 26) (ci := 2) (j := 9) (r := 2 + 9 * d + 7) dX2_addRow_26 rfl (s_Line _ hd) rfl (by decide) lf_X2_45 ?_
    refine sx_aload_n (pc := 29) dX2_addRow_29 rfl rfl ?_
    refine sx_geti (pc := 30) (ci := 2) (j := 11) dX2_addRow_30 rfl (s_Line _ hd) rfl (by decide) lf_X2_51 ?_
    refine sx_iload_n (pc := 33) dX2_addRow_33 rfl rfl ?_
    refine sx_iast (pc := 34) dX2_addRow_34 (s_Lri _ hd) (by decide) rfl (by rw [hμ2, xup_at, if_neg (by omega)]; exact (vp_in_lt (n := 20) (isB_t hx_6 h_9t).1 (isB_t hx_6 h_9t).2 (by decide))) (fun μ3 hμ3 => ?_)
    refine sx_aload_n (pc := 35) dX2_addRow_35 rfl rfl ?_
    refine sx_getr (pc := 36) (ci := 2) (j := 10) (r := 2 + 9 * d + 8) dX2_addRow_36 rfl (s_Line _ hd) rfl (by decide) lf_X2_48 ?_
    refine sx_aload_n (pc := 39) dX2_addRow_39 rfl rfl ?_
    refine sx_geti (pc := 40) (ci := 2) (j := 11) dX2_addRow_40 rfl (s_Line _ hd) rfl (by decide) lf_X2_51 ?_
    refine sx_iload_n (pc := 43) dX2_addRow_43 rfl rfl ?_
    refine sx_iast (pc := 44) dX2_addRow_44 (s_Lrp _ hd) (by decide) rfl (by rw [hμ3, xup_at, if_neg (by omega), hμ2, xup_at, if_neg (by omega)]; exact (vp_in_lt (n := 20) (isB_t hx_6 h_9t).1 (isB_t hx_6 h_9t).2 (by decide))) (fun μ4 hμ4 => ?_)
    refine sx_aload_n (pc := 45) dX2_addRow_45 rfl rfl ?_
    refine sx_dup (pc := 46) dX2_addRow_46 rfl ?_
    refine sx_geti (pc := 47) (ci := 2) (j := 11) dX2_addRow_47 rfl (s_Line _ hd) rfl (by decide) lf_X2_51 ?_
    refine sx_iconst (pc := 50) (v := 1) dX2_addRow_50 (by decide) ?_
    refine sx_iadd (pc := 51) dX2_addRow_51 ?_
    refine sx_puti (pc := 52) (ci := 2) (j := 11) (ty := .int) dX2_addRow_52 rfl (s_Line _ hd) rfl (by decide) lf_X2_51 rfl (by decide +kernel) rfl rfl (fun μ5 hμ5 => ?_)
    refine sx_aload_n (pc := 55) dX2_addRow_55 rfl rfl ?_
    refine sx_geti (pc := 56) (ci := 2) (j := 11) dX2_addRow_56 rfl (s_Line _ hd) rfl (by decide) lf_X2_51 ?_
    exact sx_iret (pc := 59) dX2_addRow_59 rfl rfl (Nat.zero_le _) (Nat.zero_le _) (⟨rfl, (Ch.put (Ch.put (Ch.put (Ch.put (Ch.rf) hμ2 (by omega) (LB.off hμ2 ⟨by omega, fun _ _ => by omega⟩)) hμ3 (by omega) (LB.off hμ3 ⟨by omega, fun _ _ => by omega⟩)) hμ4 (by omega) (LB.off hμ4 ⟨by omega, fun _ _ => by omega⟩)) hμ5 (by omega) (LB.off hμ5 ⟨by omega, fun _ _ => by omega⟩)), Or.inr ⟨isB_t hx_6 h_9t, fun j hj => by subst hμ5; subst hμ4; subst hμ3; subst hμ2; simp [xup_at, hj], by subst hμ5; subst hμ4; subst hμ3; subst hμ2; simp [xup_at], fun j => by subst hμ5; subst hμ4; subst hμ3; subst hμ2; simp [xup_at], fun j => by subst hμ5; subst hμ4; subst hμ3; subst hμ2; simp [xup_at], fun j => by subst hμ5; subst hμ4; subst hμ3; subst hμ2; simp [xup_at], by subst hμ5; subst hμ4; subst hμ3; subst hμ2; simp [xup_at]⟩⟩)
  · have h_9f := c_9
    refine sx_bipush (pc := 12) (v := (-2)) dX2_addRow_12 (by decide) ?_
    exact sx_iret (pc := 14) dX2_addRow_14 rfl rfl (Nat.zero_le _) (Nat.zero_le _) (⟨rfl, (Ch.rf), Or.inl ⟨isB_f hx_6 h_9f, rfl, rfl⟩⟩)
