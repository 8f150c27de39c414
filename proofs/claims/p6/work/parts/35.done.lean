/-! a message is done -/
abbrev SC : Nat → Prop := fun a => 57 ≤ a ∧ a ≤ 94
abbrev SD (d : Nat) : Nat → Prop := fun a => (57 ≤ a ∧ a ≤ 94) ∨ a = 2 + 9 * d ∨ a = 2 + 9 * d + 4 ∨ a = 2 + 9 * d + 5
abbrev SEd (d : Nat) : Nat → Prop := fun a => (57 ≤ a ∧ a ≤ 94) ∨ a = 2 + 9 * d ∨ (2 + 9 * d + 2 ≤ a ∧ a ≤ 2 + 9 * d + 5)
theorem gd_b {μ μ1 : xM} {v : Int32} (e : μ1 = xup μ 94 2 v) (hk : μ 94 0 = 66) (h : GD μ) : GD μ1 := by
  intro i hi
  have e0 : μ1 94 0 = 66 := by rw [e, xup_at, if_neg (by omega)]; exact hk
  have e3 : μ1 94 3 = μ 94 3 := by rw [e, xup_at, if_neg (by omega)]
  rw [e0] at hi
  have hi2 : i = 2 := by
    have : fK 66 = some 2 := by decide
    rw [this] at hi
    exact (Option.some.inj hi).symm
  subst hi2
  rw [e3]
  exact ⟨fun _ => (h 2 (by rw [hk]; decide)).1 (by decide), fun q => by omega⟩
theorem gd_ch {μ μ1 : xM} (e : μ1 94 = μ 94) (h : GD μ) : GD μ1 := by
  unfold GD
  rw [e]
  exact h

def Hc (μ : xM) (h : HT) : Prop := Hx μ h ∧ Jx μ h
theorem Hc.same {μ μ' : xM} {h : HT} (x : Hc μ h) (k : ∀ a, 57 ≤ a → a ≤ 93 → μ' a = μ a) : Hc μ' h := ⟨x.1.same (fun a h1 h2 => k a h1 (by omega)), x.2.same (k 92 (by omega) (by omega)) (k 93 (by omega) (by omega))⟩
section JUD
variable {h : HT} {dv n : Int32} {i p : Nat} {c : Int32}
theorem jud_C : jud h dv n 67 i p c = sC h dv n i p := by rw [jud, if_pos rfl]
theorem jud_B : jud h dv n 66 i p c = sB h dv n i := by rw [jud, if_neg (by decide), if_pos rfl]
theorem jud_F : jud h dv n 70 i p c = sF h dv n p c := by rw [jud, if_neg (by decide), if_neg (by decide), if_pos rfl]
theorem jud_H : jud h dv n 72 i p c = sH h dv n i p := by rw [jud, if_neg (by decide), if_neg (by decide), if_neg (by decide), if_pos rfl]
theorem jud_R : jud h dv n 82 i p c = sR h dv n i p := by rw [jud, if_neg (by decide), if_neg (by decide), if_neg (by decide), if_neg (by decide), if_pos rfl]
theorem jud_o {k : Int32} (w : ¬ k = 66 ∧ ¬ k = 67 ∧ ¬ k = 70 ∧ ¬ k = 72 ∧ ¬ k = 82) : jud h dv n k i p c = h := by rw [jud, if_neg w.2.1, if_neg w.1, if_neg w.2.2.1, if_neg w.2.2.2.1, if_neg w.2.2.2.2]
theorem jud_n {k : Int32} (hv : ¬ vdc h k i p c) : jud h dv n k i p c = h := by
  rcases lk5 k with rfl | rfl | rfl | rfl | rfl | w
  · rw [vdc_B] at hv; rw [jud_B, sB, if_neg hv]
  · rw [vdc_C] at hv; rw [jud_C, sC, if_neg hv]
  · rw [vdc_F] at hv; rw [jud_F, sF, if_neg hv]
  · rw [vdc_H] at hv; rw [jud_H, sH, if_neg hv]
  · rw [vdc_R] at hv; rw [jud_R, sR, if_neg hv]
  · exact jud_o w
theorem jud_y {k : Int32} (hv : vdc h k i p c) (hk : k = 67 ∨ k = 66 ∨ k = 70 ∨ k = 72 ∨ k = 82) : jud h dv n k i p c = ent (chg h k i p c) dv n k (if k = 70 then (-1) else nI i) (if k = 66 then vL h i - 1 else nI p) := by
  rcases hk with rfl | rfl | rfl | rfl | rfl
  · rw [vdc_C] at hv; rw [jud_C, sC, if_pos hv, chg_C, if_neg (by decide), if_neg (by decide)]
  · rw [vdc_B] at hv; rw [jud_B, sB, if_pos hv, chg_B, if_neg (by decide), if_pos rfl]
  · rw [vdc_F] at hv; rw [jud_F, sF, if_pos hv, chg_F, if_pos rfl, if_neg (by decide)]
  · rw [vdc_H] at hv; rw [jud_H, sH, if_pos hv, chg_H, if_neg (by decide), if_neg (by decide)]
  · rw [vdc_R] at hv; rw [jud_R, sR, if_pos hv, chg_R, if_neg (by decide), if_neg (by decide)]
theorem jud_cg {k : Int32} {i' p' : Nat} {c' : Int32} (h1 : hI k → i = i') (h2 : hP k → p = p') (h3 : k = 70 → c = c') : jud h dv n k i p c = jud h dv n k i' p' c' := by
  rcases lk5 k with rfl | rfl | rfl | rfl | rfl | w
  · rw [jud_B, jud_B, h1 (by decide)]
  · rw [jud_C, jud_C, h1 (by decide), h2 (by decide)]
  · rw [jud_F, jud_F, h2 (by decide), h3 rfl]
  · rw [jud_H, jud_H, h1 (by decide), h2 (by decide)]
  · rw [jud_R, jud_R, h1 (by decide), h2 (by decide)]
  · rw [jud_o w, jud_o w]
theorem vdc_cg {k : Int32} {i' p' : Nat} {c' : Int32} (h1 : hI k → i = i') (h2 : hP k → p = p') (h3 : k = 70 → c = c') : vdc h k i p c = vdc h k i' p' c' ∧ chg h k i p c = chg h k i' p' c' := by
  rcases lk5 k with rfl | rfl | rfl | rfl | rfl | w
  · rw [vdc_B, vdc_B, chg_B, chg_B, h1 (by decide)]; exact ⟨rfl, rfl⟩
  · rw [vdc_C, vdc_C, chg_C, chg_C, h1 (by decide), h2 (by decide)]; exact ⟨rfl, rfl⟩
  · rw [vdc_F, vdc_F, chg_F, chg_F, h2 (by decide), h3 rfl]; exact ⟨rfl, rfl⟩
  · rw [vdc_H, vdc_H, chg_H, chg_H, h1 (by decide), h2 (by decide)]; exact ⟨rfl, rfl⟩
  · rw [vdc_R, vdc_R, chg_R, chg_R, h1 (by decide), h2 (by decide)]; exact ⟨rfl, rfl⟩
  · rw [vdc_o _ _ _ _ w, vdc_o _ _ _ _ w, chg_o _ _ _ _ w, chg_o _ _ _ _ w]; exact ⟨rfl, rfl⟩
end JUD
/-- what the message says while it is carried out: the person of a B is whom it was lent to -/
def Mm (h : HT) (μ m : xM) : Prop := m 94 0 = μ 94 0 ∧ m 94 1 = μ 94 1 ∧ m 94 3 = μ 94 3 ∧ m 94 4 = μ 94 4 ∧ (¬ μ 94 0 = 66 → m 94 2 = μ 94 2) ∧ (μ 94 0 = 66 → m 94 2 = vL h (μ 94 3).toNatClampNeg - 1)
theorem Mm.rf {h : HT} {μ : xM} (hk : ¬ μ 94 0 = 66) : Mm h μ μ := ⟨rfl, rfl, rfl, rfl, fun _ => rfl, fun z => absurd z hk⟩
theorem Mm.b {h : HT} {μ m : xM} (hX : Hx μ h) (hk : μ 94 0 = 66) (hr : 0 ≤ μ 94 3 ∧ μ 94 3 < 30) (e : m = xup μ 94 2 (μ 58 (μ 94 3).toNatClampNeg)) : Mm h μ m := by
  have hi := clamp_lt (n := 30) hr.1 hr.2 (by decide)
  refine ⟨by rw [e, xup_at, if_neg (by omega)], by rw [e, xup_at, if_neg (by omega)], by rw [e, xup_at, if_neg (by omega)], by rw [e, xup_at, if_neg (by omega)], fun z => absurd hk z, fun _ => ?_⟩
  rw [e, xup_at, if_pos ⟨rfl, rfl⟩, ← (hX _ hi).2.1]
  simp
theorem Mm.vd {h : HT} {μ m : xM} (k : Mm h μ m) : vdc h (m 94 0) (m 94 3).toNatClampNeg (m 94 2).toNatClampNeg (m 94 4) = vdc h (μ 94 0) (μ 94 3).toNatClampNeg (μ 94 2).toNatClampNeg (μ 94 4) ∧ chg h (m 94 0) (m 94 3).toNatClampNeg (m 94 2).toNatClampNeg (m 94 4) = chg h (μ 94 0) (μ 94 3).toNatClampNeg (μ 94 2).toNatClampNeg (μ 94 4) := by
  rw [k.1, k.2.2.1, k.2.2.2.1]
  refine vdc_cg (fun _ => rfl) (fun z => ?_) (fun _ => rfl)
  rw [k.2.2.2.2.1 (fun w => by rw [w] at z; exact absurd z (by decide))]
theorem GD.i {μ : xM} (h : GD μ) (hk : hI (μ 94 0)) : 0 ≤ μ 94 3 ∧ μ 94 3 < 30 := by
  rcases hk with e | e | e | e | e
  · exact (h 1 (by rw [e]; decide)).1 (by decide)
  · exact (h 2 (by rw [e]; decide)).1 (by decide)
  · exact (h 2 (by rw [e]; decide)).1 (by decide)
  · exact (h 1 (by rw [e]; decide)).1 (by decide)
  · exact (h 1 (by rw [e]; decide)).1 (by decide)
theorem GD.p {μ : xM} (h : GD μ) (hk : hP (μ 94 0)) : 0 ≤ μ 94 2 ∧ μ 94 2 < 30 := by
  rcases hk with e | e | e | e | e
  · exact (h 1 (by rw [e]; decide)).2 (by decide)
  · exact (h 3 (by rw [e]; decide)).2 (by decide)
  · exact (h 4 (by rw [e]; decide)).2 (by decide)
  · exact (h 1 (by rw [e]; decide)).2 (by decide)
  · exact (h 1 (by rw [e]; decide)).2 (by decide)
theorem hw_chg {n : Nat} {h : HT} (hw : HW n h) {k : Int32} {i p : Nat} {c : Int32} : vA (chg h k i p c) = vA h ∧ vJ (chg h k i p c) = vJ h := by
  rcases lk5 k with rfl | rfl | rfl | rfl | rfl | w
  · rw [chg_B]; exact ⟨rfl, rfl⟩
  · rw [chg_C]; exact ⟨rfl, rfl⟩
  · rw [chg_F]; exact ⟨rfl, rfl⟩
  · rw [chg_H]; exact ⟨rfl, rfl⟩
  · rw [chg_R]; exact ⟨rfl, rfl⟩
  · rw [chg_o _ _ _ _ w]; exact ⟨rfl, rfl⟩
abbrev jM (h : HT) (dv : Int32) (μ : xM) : HT := jud h dv (μ 94 1) (μ 94 0) (μ 94 3).toNatClampNeg (μ 94 2).toNatClampNeg (μ 94 4)
abbrev vM (h : HT) (μ : xM) : Prop := vdc h (μ 94 0) (μ 94 3).toNatClampNeg (μ 94 2).toNatClampNeg (μ 94 4)
section CAR
variable {h : HT} {n : Nat} {μ m m2 m3 : xM} {dv x : Int32}
theorem car_b (k : Mm h μ m) (hx : (x = 1 ∧ vM h m ∧ Hx m2 (chg h (m 94 0) (m 94 3).toNatClampNeg (m 94 2).toNatClampNeg (m 94 4))) ∨ (x = 0 ∧ ¬ vM h m ∧ Hx m2 h)) : (x = 1 ∧ vM h μ) ∨ (x = 0 ∧ ¬ vM h μ) := by
  have e := k.vd.1
  rcases hx with z | z
  · exact Or.inl ⟨z.1, cast e z.2.1⟩
  · exact Or.inr ⟨z.1, fun w => z.2.1 (cast e.symm w)⟩
theorem car_no (k : Mm h μ m) (hJ : Jx m h) (kJ : m2 92 = m 92 ∧ m2 93 = m 93) (hx : (x = 1 ∧ vM h m ∧ Hx m2 (chg h (m 94 0) (m 94 3).toNatClampNeg (m 94 2).toNatClampNeg (m 94 4))) ∨ (x = 0 ∧ ¬ vM h m ∧ Hx m2 h)) (h0 : x = 0) : Hc m2 (jM h dv μ) := by
  rcases hx with z | z
  · rw [z.1] at h0; exact absurd h0 (by decide)
  · rw [jM, jud_n (fun w => z.2.1 (by rw [vM, k.vd.1]; exact w))]
    exact ⟨z.2.2, hJ.same kJ.1 kJ.2⟩
theorem car_nc (k : Mm h μ m) (hJ : Jx m h) (kJ : m2 92 = m 92 ∧ m2 93 = m 93) (hx : (x = 1 ∧ vM h m ∧ Hx m2 (chg h (m 94 0) (m 94 3).toNatClampNeg (m 94 2).toNatClampNeg (m 94 4))) ∨ (x = 0 ∧ ¬ vM h m ∧ Hx m2 h)) (h0 : ¬ x = 0) (e0 : m2 94 0 = m 94 0) (hk : ¬ (m2 94 0 = 67 ∨ m2 94 0 = 66 ∨ m2 94 0 = 70 ∨ m2 94 0 = 72 ∨ m2 94 0 = 82)) : Hc m2 (jM h dv μ) := by
  rw [e0, k.1] at hk
  have w : ¬ μ 94 0 = 66 ∧ ¬ μ 94 0 = 67 ∧ ¬ μ 94 0 = 70 ∧ ¬ μ 94 0 = 72 ∧ ¬ μ 94 0 = 82 := ⟨fun z => hk (by simp [z]), fun z => hk (by simp [z]), fun z => hk (by simp [z]), fun z => hk (by simp [z]), fun z => hk (by simp [z])⟩
  rcases hx with z | z
  · rw [jM, jud_o w]
    rw [k.vd.2, chg_o _ _ _ _ w] at z
    exact ⟨z.2.2, hJ.same kJ.1 kJ.2⟩
  · exact absurd z.1 h0
theorem car_yes (k : Mm h μ m) (hW : HW n h) (hG : GD μ) (hF : μ 94 0 = 70 → μ 94 3 = (-1)) (hx : (x = 1 ∧ vM h m ∧ Hx m2 (chg h (m 94 0) (m 94 3).toNatClampNeg (m 94 2).toNatClampNeg (m 94 4))) ∨ (x = 0 ∧ ¬ vM h m ∧ Hx m2 h)) (h0 : ¬ x = 0) (e9 : m2 94 = m 94) (hk : m2 94 0 = 67 ∨ m2 94 0 = 66 ∨ m2 94 0 = 70 ∨ m2 94 0 = 72 ∨ m2 94 0 = 82) (k3 : ∀ a, a ≠ 92 → a ≠ 93 → m3 a = m2 a) (hj : Jx m3 (ent (chg h (m 94 0) (m 94 3).toNatClampNeg (m 94 2).toNatClampNeg (m 94 4)) dv (m2 94 1) (m2 94 0) (m2 94 3) (m2 94 2))) : Hc m3 (jM h dv μ) := by
  rw [e9, k.1] at hk
  rw [e9, k.1, k.2.1, k.2.2.1, k.2.2.2.1] at hj
  rcases hx with z | z
  · have hv : vM h μ := by have := z.2.1; rw [vM, k.vd.1] at this; exact this
    rw [jM, jud_y hv hk]
    have hx2 := z.2.2
    rw [k.vd.2] at hx2
    refine ⟨Hx.same (μ := m2) hx2 (fun a h1 h2 => k3 a (by omega) (by omega)), ?_⟩
    have e1 : (if μ 94 0 = 70 then (-1 : Int32) else nI (μ 94 3).toNatClampNeg) = μ 94 3 := by
      split
      · rename_i y; exact (hF y).symm
      · rename_i y
        refine nI_cl (hG.i ?_)
        rcases hk with w | w | w | w | w
        · rw [w]; decide
        · rw [w]; decide
        · exact absurd w y
        · rw [w]; decide
        · rw [w]; decide
    have e2 : (if μ 94 0 = 66 then vL h (μ 94 3).toNatClampNeg - 1 else nI (μ 94 2).toNatClampNeg) = m 94 2 := by
      split
      · rename_i y; exact (k.2.2.2.2.2 y).symm
      · rename_i y
        rw [k.2.2.2.2.1 y]
        refine nI_cl (hG.p ?_)
        rcases hk with w | w | w | w | w
        · rw [w]; decide
        · exact absurd w y
        · rw [w]; decide
        · rw [w]; decide
        · rw [w]; decide
    rw [e1, e2]
    have e3 := k.vd.2
    rw [k.1, k.2.2.1, k.2.2.2.1] at e3
    rw [e3] at hj
    exact hj
  · exact absurd z.1 h0
end CAR
set_option maxHeartbeats 1000000 in
set_option maxRecDepth 20000 in
theorem c_changes2 (X : xD) (Ex : State → Prop) (hE : xEs X false shA.length Ex) (μ : xM)  : Ct X Ex false yX3_changesTheHouse kX3_changesTheHouse (rmN 0) [.ref (X.2 + 94)] shA μ (fun r sh' μ' => shA = sh' ∧ μ = μ' ∧ ∃ x : Int32, r = some (.int x) ∧ ((x = 1 ∧ (μ 94 0 = 67 ∨ μ 94 0 = 66 ∨ μ 94 0 = 70 ∨ μ 94 0 = 72 ∨ μ 94 0 = 82)) ∨ (x = 0 ∧ ¬ (μ 94 0 = 67 ∨ μ 94 0 = 66 ∨ μ 94 0 = 70 ∨ μ 94 0 = 72 ∨ μ 94 0 = 82)))) := by
  refine Ct.of (L0 := [some (.ref (X.2 + 94))]) (by decide) rfl (fun h => by cases h) (by simp [Value.category]) (Nat.le_of_ble_eq_true rfl) rfl (fun l => ?_)
  refine sx_aload_n (pc := 0) dX3_changesTheHouse_0 rfl rfl ?_
  refine sx_geti (pc := 1) (ci := 3) (j := 0) dX3_changesTheHouse_1 rfl s_Me rfl (by decide) lf_X3_9 ?_
  refine sx_bipush (pc := 4) (v := 67) dX3_changesTheHouse_4 (by decide) ?_
  refine sx_icmp_eq (pc := 6) (tgt := 45) dX3_changesTheHouse_6 (by decide) (fun c_6 => ?_) (fun c_6 => ?_)
  · have h_6t := c_6
    refine sx_iconst (pc := 45) (v := 1) dX3_changesTheHouse_45 (by decide) ?_
    refine sx_goto (pc := 46) (tgt := 50) dX3_changesTheHouse_46 (by decide) ?_
    exact sx_iret (pc := 50) dX3_changesTheHouse_50 rfl rfl (Nat.zero_le _) (Nat.zero_le _) (⟨rfl, rfl, _, rfl, by first | (left; exact ⟨rfl, by simp_all⟩) | (right; exact ⟨rfl, by simp_all⟩)⟩)
  · have h_6f := c_6
    refine sx_aload_n (pc := 9) dX3_changesTheHouse_9 rfl rfl ?_
    refine sx_geti (pc := 10) (ci := 3) (j := 0) dX3_changesTheHouse_10 rfl s_Me rfl (by decide) lf_X3_9 ?_
    refine sx_bipush (pc := 13) (v := 66) dX3_changesTheHouse_13 (by decide) ?_
    refine sx_icmp_eq (pc := 15) (tgt := 45) dX3_changesTheHouse_15 (by decide) (fun c_15 => ?_) (fun c_15 => ?_)
    · have h_15t := c_15
      refine sx_iconst (pc := 45) (v := 1) dX3_changesTheHouse_45 (by decide) ?_
      refine sx_goto (pc := 46) (tgt := 50) dX3_changesTheHouse_46 (by decide) ?_
      exact sx_iret (pc := 50) dX3_changesTheHouse_50 rfl rfl (Nat.zero_le _) (Nat.zero_le _) (⟨rfl, rfl, _, rfl, by first | (left; exact ⟨rfl, by simp_all⟩) | (right; exact ⟨rfl, by simp_all⟩)⟩)
    · have h_15f := c_15
      refine sx_aload_n (pc := 18) dX3_changesTheHouse_18 rfl rfl ?_
      refine sx_geti (pc := 19) (ci := 3) (j := 0) dX3_changesTheHouse_19 rfl s_Me rfl (by decide) lf_X3_9 ?_
      refine sx_bipush (pc := 22) (v := 70) dX3_changesTheHouse_22 (by decide) ?_
      refine sx_icmp_eq (pc := 24) (tgt := 45) dX3_changesTheHouse_24 (by decide) (fun c_24 => ?_) (fun c_24 => ?_)
      · have h_24t := c_24
        refine sx_iconst (pc := 45) (v := 1) dX3_changesTheHouse_45 (by decide) ?_
        refine sx_goto (pc := 46) (tgt := 50) dX3_changesTheHouse_46 (by decide) ?_
        exact sx_iret (pc := 50) dX3_changesTheHouse_50 rfl rfl (Nat.zero_le _) (Nat.zero_le _) (⟨rfl, rfl, _, rfl, by first | (left; exact ⟨rfl, by simp_all⟩) | (right; exact ⟨rfl, by simp_all⟩)⟩)
      · have h_24f := c_24
        refine sx_aload_n (pc := 27) dX3_changesTheHouse_27 rfl rfl ?_
        refine sx_geti (pc := 28) (ci := 3) (j := 0) dX3_changesTheHouse_28 rfl s_Me rfl (by decide) lf_X3_9 ?_
        refine sx_bipush (pc := 31) (v := 72) dX3_changesTheHouse_31 (by decide) ?_
        refine sx_icmp_eq (pc := 33) (tgt := 45) dX3_changesTheHouse_33 (by decide) (fun c_33 => ?_) (fun c_33 => ?_)
        · have h_33t := c_33
          refine sx_iconst (pc := 45) (v := 1) dX3_changesTheHouse_45 (by decide) ?_
          refine sx_goto (pc := 46) (tgt := 50) dX3_changesTheHouse_46 (by decide) ?_
          exact sx_iret (pc := 50) dX3_changesTheHouse_50 rfl rfl (Nat.zero_le _) (Nat.zero_le _) (⟨rfl, rfl, _, rfl, by first | (left; exact ⟨rfl, by simp_all⟩) | (right; exact ⟨rfl, by simp_all⟩)⟩)
        · have h_33f := c_33
          refine sx_aload_n (pc := 36) dX3_changesTheHouse_36 rfl rfl ?_
          refine sx_geti (pc := 37) (ci := 3) (j := 0) dX3_changesTheHouse_37 rfl s_Me rfl (by decide) lf_X3_9 ?_
          refine sx_bipush (pc := 40) (v := 82) dX3_changesTheHouse_40 (by decide) ?_
          refine sx_icmp_ne (pc := 42) (tgt := 49) dX3_changesTheHouse_42 (by decide) (fun c_42 => ?_) (fun c_42 => ?_)
          · have h_42t := c_42
            refine sx_iconst (pc := 49) (v := 0) dX3_changesTheHouse_49 (by decide) ?_
            exact sx_iret (pc := 50) dX3_changesTheHouse_50 rfl rfl (Nat.zero_le _) (Nat.zero_le _) (⟨rfl, rfl, _, rfl, by first | (left; exact ⟨rfl, by simp_all⟩) | (right; exact ⟨rfl, by simp_all⟩)⟩)
          · have h_42f := c_42
            refine sx_iconst (pc := 45) (v := 1) dX3_changesTheHouse_45 (by decide) ?_
            refine sx_goto (pc := 46) (tgt := 50) dX3_changesTheHouse_46 (by decide) ?_
            exact sx_iret (pc := 50) dX3_changesTheHouse_50 rfl rfl (Nat.zero_le _) (Nat.zero_le _) (⟨rfl, rfl, _, rfl, by first | (left; exact ⟨rfl, by simp_all⟩) | (right; exact ⟨rfl, by simp_all⟩)⟩)
theorem Jx.of_chg {n : Nat} {h : HT} (hW : HW n h) {μ : xM} {k : Int32} {i p : Nat} {c : Int32} (j : Jx μ h) : Jx μ (chg h k i p c) := by
  have e := hw_chg (k := k) (i := i) (p := p) (c := c) hW
  refine ⟨j.1.trans e.1.symm, fun a ha => ?_⟩
  rw [e.2]; exact j.2 a ha
theorem vA_chg {n : Nat} {h : HT} (hW : HW n h) (hn : n < 2 ^ 20) {k : Int32} {i p : Nat} {c : Int32} : 0 ≤ vA (chg h k i p c) := by
  rw [(hw_chg (k := k) (i := i) (p := p) (c := c) hW).1]
  obtain ⟨q, h1, h2⟩ := hW.2
  rw [h2]; exact nI_pos' (by omega)
set_option maxHeartbeats 1000000 in
set_option maxRecDepth 20000 in
theorem c_carry (X : xD) (Ex : State → Prop) (hE : xEs X false shA.length Ex) (μ : xM) (dv : Int32) (hG : GD μ) (hL : LB μ) {h : HT} (hH : Hc μ h) {n : Nat} (hn : n < 2 ^ 20) (hW : HW n h) (hF : μ 94 0 = 70 → μ 94 3 = (-1)) : Ct X Ex false yX5_carryOut kX5_carryOut (rmN 3) [.ref (X.2 + 0), .int dv] shA μ (fun r sh' μ' => shA = sh' ∧ Ch SC μ μ' ∧ GD μ' ∧ Hc μ' (jM h dv μ) ∧ ∃ x : Int32, r = some (.int x) ∧ ((x = 1 ∧ vM h μ) ∨ (x = 0 ∧ ¬ vM h μ))) := by
  refine Ct.of (L0 := [some (.ref (X.2 + 0)), some (.int dv), none]) (by decide) rfl (fun h => by cases h) (by simp [Value.category]) (Nat.le_of_ble_eq_true rfl) rfl (fun l => ?_)
  refine sx_aload_n (pc := 0) dX5_carryOut_0 rfl rfl ?_
  refine sx_getr (pc := 1) (ci := 5) (j := 3) (r := 94) dX5_carryOut_1 rfl s_EW rfl (by decide) lf_X5_33 ?_
  refine sx_geti (pc := 4) (ci := 3) (j := 0) dX5_carryOut_4 rfl s_Me rfl (by decide) lf_X5_140 ?_
  refine sx_bipush (pc := 7) (v := 66) dX5_carryOut_7 (by decide) ?_
  refine sx_icmp_ne (pc := 9) (tgt := 34) dX5_carryOut_9 (by decide) (fun c_9 => ?_) (fun c_9 => ?_)
  · have h_9t := c_9
    have hGm : GD μ := by first | exact hG | exact gd_b hμ h_9f hG
    have hLm : LB μ := by first | exact hL | exact LB.off hμ ⟨by omega, fun _ _ => by omega⟩ hL
    have kM : Mm h μ μ := by first | exact Mm.rf h_9t | exact Mm.b hH.1 h_9f ((hG 2 (by rw [h_9f]; decide)).1 (by decide)) hμ
    have hHm : Hc μ h := by first | exact hH | exact hH.same (fun a h1 h2 => by rw [hμ]; funext b; rw [xup_at, if_neg (by omega)])
    refine sx_aload_n (pc := 34) dX5_carryOut_34 rfl rfl ?_
    refine sx_getr (pc := 35) (ci := 5) (j := 1) (r := 56) dX5_carryOut_35 rfl s_EW rfl (by decide) lf_X5_19 ?_
    refine sx_aload_n (pc := 38) dX5_carryOut_38 rfl rfl ?_
    refine sx_getr (pc := 39) (ci := 5) (j := 3) (r := 94) dX5_carryOut_39 rfl s_EW rfl (by decide) lf_X5_33 ?_
    refine sx_callV (pc := 42) (As := [.ref (X.2 + 94)]) dX5_carryOut_42 (c_decide X Ex hE μ hGm hLm hHm.1 hW) mX0_decide lm_X5_185 rfl s_Ho rfl ⟨Nat.le_of_ble_eq_true rfl, Nat.le_of_ble_eq_true rfl⟩ ⟨Nat.le_of_ble_eq_true rfl, Nat.le_of_ble_eq_true rfl⟩ (Nat.le_of_ble_eq_true rfl) hE (fun r_42 sh1 μ1 h_42 => ?_)
    obtain ⟨rfl, k_42, x_42, rfl, hx_42⟩ := h_42
    refine sx_istore_n (pc := 45) (L' := [some (.ref (X.2 + 0)), some (.int dv), some (.int x_42)]) dX5_carryOut_45 rfl (by decide) rfl ?_
    refine sx_iload_n (pc := 46) dX5_carryOut_46 rfl rfl ?_
    refine sx_if_eq (pc := 47) (tgt := 72) dX5_carryOut_47 (by decide) (fun c_47 => ?_) (fun c_47 => ?_)
    · have h_47t := c_47
      refine sx_iload_n (pc := 72) dX5_carryOut_72 rfl rfl ?_
      exact sx_iret (pc := 73) dX5_carryOut_73 rfl (bool_n (dq_bb hx_42)) (Nat.zero_le _) (Nat.zero_le _) (⟨rfl, (Ch.trans (Ch.rf) k_42 (fun a (h : 57 ≤ a ∧ a ≤ 91) => by show SC a; omega)), by first | exact gd_ch (k_69.1 94 (by show ¬ (94 = 92 ∨ 94 = 93); omega)) (gd_ch (k_42.1 94 (by show ¬ (57 ≤ 94 ∧ 94 ≤ 91); omega)) hGm) | exact gd_ch (k_42.1 94 (by show ¬ (57 ≤ 94 ∧ 94 ≤ 91); omega)) hGm, by first | exact car_no kM hHm.2 ⟨k_42.1 92 (by show ¬ (57 ≤ 92 ∧ 92 ≤ 91); omega), k_42.1 93 (by show ¬ (57 ≤ 93 ∧ 93 ≤ 91); omega)⟩ hx_42 h_47t | exact car_yes kM hW hG hF hx_42 h_47f (k_42.1 94 (by show ¬ (57 ≤ 94 ∧ 94 ≤ 91); omega)) (dq_t hx_54 h_57f) (fun a a1 a2 => k_69.1 a (fun z => z.elim a1 a2)) j_69 | exact car_nc kM hHm.2 ⟨k_42.1 92 (by show ¬ (57 ≤ 92 ∧ 92 ≤ 91); omega), k_42.1 93 (by show ¬ (57 ≤ 93 ∧ 93 ≤ 91); omega)⟩ hx_42 h_47f (congrFun (k_42.1 94 (by show ¬ (57 ≤ 94 ∧ 94 ≤ 91); omega)) 0) (dq_f hx_54 h_57t), _, rfl, car_b kM hx_42⟩)
    · have h_47f := c_47
      refine sx_aload_n (pc := 50) dX5_carryOut_50 rfl rfl ?_
      refine sx_getr (pc := 51) (ci := 5) (j := 3) (r := 94) dX5_carryOut_51 rfl s_EW rfl (by decide) lf_X5_33 ?_
      refine sx_callV (pc := 54) (As := []) dX5_carryOut_54 (c_changes2 X Ex hE μ1) mX3_changesTheHouse lm_X5_189 rfl s_Me rfl ⟨Nat.le_of_ble_eq_true rfl, Nat.le_of_ble_eq_true rfl⟩ ⟨Nat.le_of_ble_eq_true rfl, Nat.le_of_ble_eq_true rfl⟩ (Nat.le_of_ble_eq_true rfl) hE (fun r_54 sh1 μ2 h_54 => ?_)
      obtain ⟨rfl, rfl, x_54, rfl, hx_54⟩ := h_54
      refine sx_if_eq (pc := 57) (tgt := 72) dX5_carryOut_57 (by decide) (fun c_57 => ?_) (fun c_57 => ?_)
      · have h_57t := c_57
        refine sx_iload_n (pc := 72) dX5_carryOut_72 rfl rfl ?_
        exact sx_iret (pc := 73) dX5_carryOut_73 rfl (bool_n (dq_bb hx_42)) (Nat.zero_le _) (Nat.zero_le _) (⟨rfl, (Ch.trans (Ch.rf) k_42 (fun a (h : 57 ≤ a ∧ a ≤ 91) => by show SC a; omega)), by first | exact gd_ch (k_69.1 94 (by show ¬ (94 = 92 ∨ 94 = 93); omega)) (gd_ch (k_42.1 94 (by show ¬ (57 ≤ 94 ∧ 94 ≤ 91); omega)) hGm) | exact gd_ch (k_42.1 94 (by show ¬ (57 ≤ 94 ∧ 94 ≤ 91); omega)) hGm, by first | exact car_no kM hHm.2 ⟨k_42.1 92 (by show ¬ (57 ≤ 92 ∧ 92 ≤ 91); omega), k_42.1 93 (by show ¬ (57 ≤ 93 ∧ 93 ≤ 91); omega)⟩ hx_42 h_47t | exact car_yes kM hW hG hF hx_42 h_47f (k_42.1 94 (by show ¬ (57 ≤ 94 ∧ 94 ≤ 91); omega)) (dq_t hx_54 h_57f) (fun a a1 a2 => k_69.1 a (fun z => z.elim a1 a2)) j_69 | exact car_nc kM hHm.2 ⟨k_42.1 92 (by show ¬ (57 ≤ 92 ∧ 92 ≤ 91); omega), k_42.1 93 (by show ¬ (57 ≤ 93 ∧ 93 ≤ 91); omega)⟩ hx_42 h_47f (congrFun (k_42.1 94 (by show ¬ (57 ≤ 94 ∧ 94 ≤ 91); omega)) 0) (dq_f hx_54 h_57t), _, rfl, car_b kM hx_42⟩)
      · have h_57f := c_57
        refine sx_aload_n (pc := 60) dX5_carryOut_60 rfl rfl ?_
        refine sx_getr (pc := 61) (ci := 5) (j := 2) (r := 92) dX5_carryOut_61 rfl s_EW rfl (by decide) lf_X5_26 ?_
        refine sx_iload_n (pc := 64) dX5_carryOut_64 rfl rfl ?_
        refine sx_aload_n (pc := 65) dX5_carryOut_65 rfl rfl ?_
        refine sx_getr (pc := 66) (ci := 5) (j := 3) (r := 94) dX5_carryOut_66 rfl s_EW rfl (by decide) lf_X5_33 ?_
        refine sx_callV (pc := 69) (As := [.int dv, .ref (X.2 + 94)]) dX5_carryOut_69 (c_jadd X Ex hE μ1 _ (h := chg h (μ 94 0) (μ 94 3).toNatClampNeg (μ 94 2).toNatClampNeg (μ 94 4)) (Jx.of_chg hW (hHm.2.same (k_42.1 92 (by show ¬ (57 ≤ 92 ∧ 92 ≤ 91); omega)) (k_42.1 93 (by show ¬ (57 ≤ 93 ∧ 93 ≤ 91); omega)))) (vA_chg hW hn)) mX1_add lm_X5_193 rfl s_Jo rfl ⟨Nat.le_of_ble_eq_true rfl, Nat.le_of_ble_eq_true rfl⟩ ⟨Nat.le_of_ble_eq_true rfl, Nat.le_of_ble_eq_true rfl⟩ (Nat.le_of_ble_eq_true rfl) hE (fun r_69 sh1 μ3 h_69 => ?_)
        obtain ⟨rfl, rfl, k_69, j_69⟩ := h_69
        refine sx_iload_n (pc := 72) dX5_carryOut_72 rfl rfl ?_
        exact sx_iret (pc := 73) dX5_carryOut_73 rfl (bool_n (dq_bb hx_42)) (Nat.zero_le _) (Nat.zero_le _) (⟨rfl, (Ch.trans (Ch.trans (Ch.rf) k_42 (fun a (h : 57 ≤ a ∧ a ≤ 91) => by show SC a; omega)) k_69 (fun a (h : a = 92 ∨ a = 93) => by show SC a; omega)), by first | exact gd_ch (k_69.1 94 (by show ¬ (94 = 92 ∨ 94 = 93); omega)) (gd_ch (k_42.1 94 (by show ¬ (57 ≤ 94 ∧ 94 ≤ 91); omega)) hGm) | exact gd_ch (k_42.1 94 (by show ¬ (57 ≤ 94 ∧ 94 ≤ 91); omega)) hGm, by first | exact car_no kM hHm.2 ⟨k_42.1 92 (by show ¬ (57 ≤ 92 ∧ 92 ≤ 91); omega), k_42.1 93 (by show ¬ (57 ≤ 93 ∧ 93 ≤ 91); omega)⟩ hx_42 h_47t | exact car_yes kM hW hG hF hx_42 h_47f (k_42.1 94 (by show ¬ (57 ≤ 94 ∧ 94 ≤ 91); omega)) (dq_t hx_54 h_57f) (fun a a1 a2 => k_69.1 a (fun z => z.elim a1 a2)) j_69 | exact car_nc kM hHm.2 ⟨k_42.1 92 (by show ¬ (57 ≤ 92 ∧ 92 ≤ 91); omega), k_42.1 93 (by show ¬ (57 ≤ 93 ∧ 93 ≤ 91); omega)⟩ hx_42 h_47f (congrFun (k_42.1 94 (by show ¬ (57 ≤ 94 ∧ 94 ≤ 91); omega)) 0) (dq_f hx_54 h_57t), _, rfl, car_b kM hx_42⟩)
  · have h_9f := c_9
    refine sx_aload_n (pc := 12) dX5_carryOut_12 rfl rfl ?_
    refine sx_getr (pc := 13) (ci := 5) (j := 3) (r := 94) dX5_carryOut_13 rfl s_EW rfl (by decide) lf_X5_33 ?_
    refine sx_aload_n (pc := 16) dX5_carryOut_16 rfl rfl ?_
    refine sx_getr (pc := 17) (ci := 5) (j := 1) (r := 56) dX5_carryOut_17 rfl s_EW rfl (by decide) lf_X5_19 ?_
    refine sx_getr (pc := 20) (ci := 0) (j := 1) (r := 58) dX5_carryOut_20 rfl s_Ho rfl (by decide) lf_X5_176 ?_
    refine sx_aload_n (pc := 23) dX5_carryOut_23 rfl rfl ?_
    refine sx_getr (pc := 24) (ci := 5) (j := 3) (r := 94) dX5_carryOut_24 rfl s_EW rfl (by decide) lf_X5_33 ?_
    refine sx_geti (pc := 27) (ci := 3) (j := 3) dX5_carryOut_27 rfl s_Me rfl (by decide) lf_X5_179 ?_
    refine sx_iald (pc := 30) dX5_carryOut_30 s_borr (by decide) rfl (vp_in_lt (n := 30) ((hG 2 (by rw [h_9f]; decide)).1 (by decide)).1 ((hG 2 (by rw [h_9f]; decide)).1 (by decide)).2 (by decide)) ?_
    refine sx_puti (pc := 31) (ci := 3) (j := 2) (ty := .int) dX5_carryOut_31 rfl s_Me rfl (by decide) lf_X5_182 rfl (by decide +kernel) rfl rfl (fun μ4 hμ4 => ?_)
    have hGm : GD μ4 := by first | exact hG | exact gd_b hμ4 h_9f hG
    have hLm : LB μ4 := by first | exact hL | exact LB.off hμ4 ⟨by omega, fun _ _ => by omega⟩ hL
    have kM : Mm h μ μ4 := by first | exact Mm.rf h_9t | exact Mm.b hH.1 h_9f ((hG 2 (by rw [h_9f]; decide)).1 (by decide)) hμ4
    have hHm : Hc μ4 h := by first | exact hH | exact hH.same (fun a h1 h2 => by rw [hμ4]; funext b; rw [xup_at, if_neg (by omega)])
    refine sx_aload_n (pc := 34) dX5_carryOut_34 rfl rfl ?_
    refine sx_getr (pc := 35) (ci := 5) (j := 1) (r := 56) dX5_carryOut_35 rfl s_EW rfl (by decide) lf_X5_19 ?_
    refine sx_aload_n (pc := 38) dX5_carryOut_38 rfl rfl ?_
    refine sx_getr (pc := 39) (ci := 5) (j := 3) (r := 94) dX5_carryOut_39 rfl s_EW rfl (by decide) lf_X5_33 ?_
    refine sx_callV (pc := 42) (As := [.ref (X.2 + 94)]) dX5_carryOut_42 (c_decide X Ex hE μ4 hGm hLm hHm.1 hW) mX0_decide lm_X5_185 rfl s_Ho rfl ⟨Nat.le_of_ble_eq_true rfl, Nat.le_of_ble_eq_true rfl⟩ ⟨Nat.le_of_ble_eq_true rfl, Nat.le_of_ble_eq_true rfl⟩ (Nat.le_of_ble_eq_true rfl) hE (fun r_42 sh1 μ5 h_42 => ?_)
    obtain ⟨rfl, k_42, x_42, rfl, hx_42⟩ := h_42
    refine sx_istore_n (pc := 45) (L' := [some (.ref (X.2 + 0)), some (.int dv), some (.int x_42)]) dX5_carryOut_45 rfl (by decide) rfl ?_
    refine sx_iload_n (pc := 46) dX5_carryOut_46 rfl rfl ?_
    refine sx_if_eq (pc := 47) (tgt := 72) dX5_carryOut_47 (by decide) (fun c_47 => ?_) (fun c_47 => ?_)
    · have h_47t := c_47
      refine sx_iload_n (pc := 72) dX5_carryOut_72 rfl rfl ?_
      exact sx_iret (pc := 73) dX5_carryOut_73 rfl (bool_n (dq_bb hx_42)) (Nat.zero_le _) (Nat.zero_le _) (⟨rfl, (Ch.trans (Ch.put (Ch.rf) hμ4 (by show SC _; omega) (LB.off hμ4 ⟨by omega, fun _ _ => by omega⟩)) k_42 (fun a (h : 57 ≤ a ∧ a ≤ 91) => by show SC a; omega)), by first | exact gd_ch (k_69.1 94 (by show ¬ (94 = 92 ∨ 94 = 93); omega)) (gd_ch (k_42.1 94 (by show ¬ (57 ≤ 94 ∧ 94 ≤ 91); omega)) hGm) | exact gd_ch (k_42.1 94 (by show ¬ (57 ≤ 94 ∧ 94 ≤ 91); omega)) hGm, by first | exact car_no kM hHm.2 ⟨k_42.1 92 (by show ¬ (57 ≤ 92 ∧ 92 ≤ 91); omega), k_42.1 93 (by show ¬ (57 ≤ 93 ∧ 93 ≤ 91); omega)⟩ hx_42 h_47t | exact car_yes kM hW hG hF hx_42 h_47f (k_42.1 94 (by show ¬ (57 ≤ 94 ∧ 94 ≤ 91); omega)) (dq_t hx_54 h_57f) (fun a a1 a2 => k_69.1 a (fun z => z.elim a1 a2)) j_69 | exact car_nc kM hHm.2 ⟨k_42.1 92 (by show ¬ (57 ≤ 92 ∧ 92 ≤ 91); omega), k_42.1 93 (by show ¬ (57 ≤ 93 ∧ 93 ≤ 91); omega)⟩ hx_42 h_47f (congrFun (k_42.1 94 (by show ¬ (57 ≤ 94 ∧ 94 ≤ 91); omega)) 0) (dq_f hx_54 h_57t), _, rfl, car_b kM hx_42⟩)
    · have h_47f := c_47
      refine sx_aload_n (pc := 50) dX5_carryOut_50 rfl rfl ?_
      refine sx_getr (pc := 51) (ci := 5) (j := 3) (r := 94) dX5_carryOut_51 rfl s_EW rfl (by decide) lf_X5_33 ?_
      refine sx_callV (pc := 54) (As := []) dX5_carryOut_54 (c_changes2 X Ex hE μ5) mX3_changesTheHouse lm_X5_189 rfl s_Me rfl ⟨Nat.le_of_ble_eq_true rfl, Nat.le_of_ble_eq_true rfl⟩ ⟨Nat.le_of_ble_eq_true rfl, Nat.le_of_ble_eq_true rfl⟩ (Nat.le_of_ble_eq_true rfl) hE (fun r_54 sh1 μ6 h_54 => ?_)
      obtain ⟨rfl, rfl, x_54, rfl, hx_54⟩ := h_54
      refine sx_if_eq (pc := 57) (tgt := 72) dX5_carryOut_57 (by decide) (fun c_57 => ?_) (fun c_57 => ?_)
      · have h_57t := c_57
        refine sx_iload_n (pc := 72) dX5_carryOut_72 rfl rfl ?_
        exact sx_iret (pc := 73) dX5_carryOut_73 rfl (bool_n (dq_bb hx_42)) (Nat.zero_le _) (Nat.zero_le _) (⟨rfl, (Ch.trans (Ch.put (Ch.rf) hμ4 (by show SC _; omega) (LB.off hμ4 ⟨by omega, fun _ _ => by omega⟩)) k_42 (fun a (h : 57 ≤ a ∧ a ≤ 91) => by show SC a; omega)), by first | exact gd_ch (k_69.1 94 (by show ¬ (94 = 92 ∨ 94 = 93); omega)) (gd_ch (k_42.1 94 (by show ¬ (57 ≤ 94 ∧ 94 ≤ 91); omega)) hGm) | exact gd_ch (k_42.1 94 (by show ¬ (57 ≤ 94 ∧ 94 ≤ 91); omega)) hGm, by first | exact car_no kM hHm.2 ⟨k_42.1 92 (by show ¬ (57 ≤ 92 ∧ 92 ≤ 91); omega), k_42.1 93 (by show ¬ (57 ≤ 93 ∧ 93 ≤ 91); omega)⟩ hx_42 h_47t | exact car_yes kM hW hG hF hx_42 h_47f (k_42.1 94 (by show ¬ (57 ≤ 94 ∧ 94 ≤ 91); omega)) (dq_t hx_54 h_57f) (fun a a1 a2 => k_69.1 a (fun z => z.elim a1 a2)) j_69 | exact car_nc kM hHm.2 ⟨k_42.1 92 (by show ¬ (57 ≤ 92 ∧ 92 ≤ 91); omega), k_42.1 93 (by show ¬ (57 ≤ 93 ∧ 93 ≤ 91); omega)⟩ hx_42 h_47f (congrFun (k_42.1 94 (by show ¬ (57 ≤ 94 ∧ 94 ≤ 91); omega)) 0) (dq_f hx_54 h_57t), _, rfl, car_b kM hx_42⟩)
      · have h_57f := c_57
        refine sx_aload_n (pc := 60) dX5_carryOut_60 rfl rfl ?_
        refine sx_getr (pc := 61) (ci := 5) (j := 2) (r := 92) dX5_carryOut_61 rfl s_EW rfl (by decide) lf_X5_26 ?_
        refine sx_iload_n (pc := 64) dX5_carryOut_64 rfl rfl ?_
        refine sx_aload_n (pc := 65) dX5_carryOut_65 rfl rfl ?_
        refine sx_getr (pc := 66) (ci := 5) (j := 3) (r := 94) dX5_carryOut_66 rfl s_EW rfl (by decide) lf_X5_33 ?_
        refine sx_callV (pc := 69) (As := [.int dv, .ref (X.2 + 94)]) dX5_carryOut_69 (c_jadd X Ex hE μ5 _ (h := chg h (μ4 94 0) (μ4 94 3).toNatClampNeg (μ4 94 2).toNatClampNeg (μ4 94 4)) (Jx.of_chg hW (hHm.2.same (k_42.1 92 (by show ¬ (57 ≤ 92 ∧ 92 ≤ 91); omega)) (k_42.1 93 (by show ¬ (57 ≤ 93 ∧ 93 ≤ 91); omega)))) (vA_chg hW hn)) mX1_add lm_X5_193 rfl s_Jo rfl ⟨Nat.le_of_ble_eq_true rfl, Nat.le_of_ble_eq_true rfl⟩ ⟨Nat.le_of_ble_eq_true rfl, Nat.le_of_ble_eq_true rfl⟩ (Nat.le_of_ble_eq_true rfl) hE (fun r_69 sh1 μ7 h_69 => ?_)
        obtain ⟨rfl, rfl, k_69, j_69⟩ := h_69
        refine sx_iload_n (pc := 72) dX5_carryOut_72 rfl rfl ?_
        exact sx_iret (pc := 73) dX5_carryOut_73 rfl (bool_n (dq_bb hx_42)) (Nat.zero_le _) (Nat.zero_le _) (⟨rfl, (Ch.trans (Ch.trans (Ch.put (Ch.rf) hμ4 (by show SC _; omega) (LB.off hμ4 ⟨by omega, fun _ _ => by omega⟩)) k_42 (fun a (h : 57 ≤ a ∧ a ≤ 91) => by show SC a; omega)) k_69 (fun a (h : a = 92 ∨ a = 93) => by show SC a; omega)), by first | exact gd_ch (k_69.1 94 (by show ¬ (94 = 92 ∨ 94 = 93); omega)) (gd_ch (k_42.1 94 (by show ¬ (57 ≤ 94 ∧ 94 ≤ 91); omega)) hGm) | exact gd_ch (k_42.1 94 (by show ¬ (57 ≤ 94 ∧ 94 ≤ 91); omega)) hGm, by first | exact car_no kM hHm.2 ⟨k_42.1 92 (by show ¬ (57 ≤ 92 ∧ 92 ≤ 91); omega), k_42.1 93 (by show ¬ (57 ≤ 93 ∧ 93 ≤ 91); omega)⟩ hx_42 h_47t | exact car_yes kM hW hG hF hx_42 h_47f (k_42.1 94 (by show ¬ (57 ≤ 94 ∧ 94 ≤ 91); omega)) (dq_t hx_54 h_57f) (fun a a1 a2 => k_69.1 a (fun z => z.elim a1 a2)) j_69 | exact car_nc kM hHm.2 ⟨k_42.1 92 (by show ¬ (57 ≤ 92 ∧ 92 ≤ 91); omega), k_42.1 93 (by show ¬ (57 ≤ 93 ∧ 93 ≤ 91); omega)⟩ hx_42 h_47f (congrFun (k_42.1 94 (by show ¬ (57 ≤ 94 ∧ 94 ≤ 91); omega)) 0) (dq_f hx_54 h_57t), _, rfl, car_b kM hx_42⟩)
abbrev jT (h : HT) (dv : Int32) (t : PT) : HT := jud h dv t.2.1 t.1 t.2.2.2.1.toNatClampNeg t.2.2.1.toNatClampNeg t.2.2.2.2
theorem jT_of {h : HT} {dv : Int32} {μ : xM} {t : PT} (hM : MF μ t) : jM h dv μ = jT h dv t := by
  rw [jM, jT, hM.1, hM.2.1]
  exact jud_cg (fun z => by rw [hM.2.2.2.1 z]) (fun z => by rw [hM.2.2.1 z]) (fun z => (hM.2.2.2.2 z).1)
theorem MF.same {μ μ' : xM} {t : PT} (hM : MF μ t) (e : μ' 94 = μ 94) : MF μ' t := by
  unfold MF; rw [e]; exact hM
theorem MF.fk {f : Nat → Int32} {n : Nat} {μ : xM} {t : PT} (hp : prs f n = some t) (hM : MF μ t) : ∃ i, fK (μ 94 0) = some i ∧ fK t.1 = some i := by
  have hk := (prs_s hp).1
  rw [hM.1]
  rcases hk with e | e | e | e | e | e | e | e | e <;> rw [e]
  · exact ⟨0, rfl, rfl⟩
  · exact ⟨1, rfl, rfl⟩
  · exact ⟨2, rfl, rfl⟩
  · exact ⟨3, rfl, rfl⟩
  · exact ⟨2, rfl, rfl⟩
  · exact ⟨4, rfl, rfl⟩
  · exact ⟨1, rfl, rfl⟩
  · exact ⟨1, rfl, rfl⟩
  · exact ⟨0, rfl, rfl⟩
set_option maxHeartbeats 1000000 in
set_option maxRecDepth 20000 in
theorem l_dm {X : xD} {Ex : State → Prop} (hE : xEs X false shA.length Ex) {sk sv : Nat → Nat} {fm : Option Nat} (hS : ∀ s, Ex s → ExS X sk sv fm s) {l : Launch} {dv : Int32} {d : Nat} (hd : d < 6) {μ : xM} (hL : LB μ) {f : Nat → Int32} {nn : Nat} {t : PT} (hp : prs f nn = some t) (hM : MF μ t) {h : HT} (hH : Hc μ h) {n : Nat} (hn : n < 2 ^ 20) (hW : HW n h) {Po : Option Value → List xS → xM → Prop} (hPo : ∀ μ', Ch (SD d) μ μ' → μ' (2 + 9 * d) = μ (2 + 9 * d) → (((μ (2 + 9 * d) 3 = 0 ∨ bd t) ∧ Hc μ' h) ∨ (¬ (μ (2 + 9 * d) 3 = 0 ∨ bd t) ∧ Hc μ' (jT h dv t))) → Po none shA μ') : sx l (rmN 5) X Ex false kX5_doMessage shA.length (xZ X false shA.length Po 0 0) 28 [some (.ref (X.2 + 0)), some (.int dv), some (.ref (X.2 + (2 + 9 * d))), none, none] [] shA μ 0 0 := by
  obtain ⟨i, hK1, hK2⟩ := MF.fk hp hM
  have hgb := ge_bd hp hM hK2
  refine sx_aload_n (pc := 28) dX5_doMessage_28 rfl rfl ?_
  refine sx_getr (pc := 29) (ci := 5) (j := 3) (r := 94) dX5_doMessage_29 rfl s_EW rfl (by decide) lf_X5_33 ?_
  refine sx_callV (pc := 32) (As := []) dX5_doMessage_32 (c_firstBad X Ex hE μ hS) mX3_firstBadField lm_X5_160 rfl s_Me rfl ⟨Nat.le_of_ble_eq_true rfl, Nat.le_of_ble_eq_true rfl⟩ ⟨Nat.le_of_ble_eq_true rfl, Nat.le_of_ble_eq_true rfl⟩ (Nat.le_of_ble_eq_true rfl) hE (fun r_32 sh1 μ1 h_32 => ?_)
  obtain ⟨rfl, rfl, x_32, rfl, hx_32⟩ := h_32
  have hb := hx_32 i hK1
  refine sx_istore_n (pc := 35) (L' := [some (.ref (X.2 + 0)), some (.int dv), some (.ref (X.2 + (2 + 9 * d))), some (.int x_32), none]) dX5_doMessage_35 rfl (by decide) rfl ?_
  refine sx_aload_n (pc := 36) dX5_doMessage_36 rfl rfl ?_
  refine sx_geti (pc := 37) (ci := 2) (j := 3) dX5_doMessage_37 rfl (s_Line _ hd) rfl (by decide) lf_X5_119 ?_
  refine sx_if_ne (pc := 40) (tgt := 57) dX5_doMessage_40 (by decide) (fun c_40 => ?_) (fun c_40 => ?_)
  · have h_40t := c_40
    refine sx_iload_n (pc := 57) dX5_doMessage_57 rfl rfl ?_
    refine sx_iconst (pc := 58) (v := (-1)) dX5_doMessage_58 (by decide) ?_
    refine sx_icmp_eq (pc := 59) (tgt := 77) dX5_doMessage_59 (by decide) (fun c_59 => ?_) (fun c_59 => ?_)
    · have h_59t := c_59
      have hge := hb.elim (fun z => z.2) (fun z => absurd h_59t z.1)
      have hG := GE_gd hK1 hge
      refine sx_aload_n (pc := 77) dX5_doMessage_77 rfl rfl ?_
      refine sx_iload_n (pc := 78) dX5_doMessage_78 rfl rfl ?_
      refine sx_callV (pc := 79) (As := [.int dv]) dX5_doMessage_79 (c_carry X Ex hE μ _ hG hL hH hn hW (fun z => (hM.2.2.2.2 (hM.1.symm.trans z)).2)) mX5_carryOut lm_X5_103 rfl s_EW rfl ⟨Nat.le_of_ble_eq_true rfl, Nat.le_of_ble_eq_true rfl⟩ ⟨Nat.le_of_ble_eq_true rfl, Nat.le_of_ble_eq_true rfl⟩ (Nat.le_of_ble_eq_true rfl) hE (fun r_79 sh1 μ2 h_79 => ?_)
      obtain ⟨rfl, k_79, hG79, hc79, x_79, rfl, hx_79⟩ := h_79
      refine sx_istore (pc := 82) (L' := [some (.ref (X.2 + 0)), some (.int dv), some (.ref (X.2 + (2 + 9 * d))), some (.int x_32), some (.int x_79)]) dX5_doMessage_82 (by decide) rfl ?_
      refine sx_aload_n (pc := 84) dX5_doMessage_84 rfl rfl ?_
      refine sx_getr (pc := 85) (ci := 2) (j := 7) (r := 2 + 9 * d + 4) dX5_doMessage_85 rfl (s_Line _ hd) rfl (by decide) lf_X5_143 ?_
      refine sx_aload_n (pc := 88) dX5_doMessage_88 rfl rfl ?_
      refine sx_getr (pc := 89) (ci := 5) (j := 3) (r := 94) dX5_doMessage_89 rfl s_EW rfl (by decide) lf_X5_33 ?_
      refine sx_iload (pc := 92) dX5_doMessage_92 rfl ?_
      refine sx_aload_n (pc := 94) dX5_doMessage_94 rfl rfl ?_
      refine sx_getr (pc := 95) (ci := 5) (j := 1) (r := 56) dX5_doMessage_95 rfl s_EW rfl (by decide) lf_X5_19 ?_
      refine sx_aload_n (pc := 98) dX5_doMessage_98 rfl rfl ?_
      refine sx_getr (pc := 99) (ci := 5) (j := 3) (r := 94) dX5_doMessage_99 rfl s_EW rfl (by decide) lf_X5_33 ?_
      refine sx_callV (pc := 102) (As := [.ref (X.2 + 94)]) dX5_doMessage_102 (c_figure X Ex hE μ2 hG79) mX0_figureFor lm_X5_168 rfl s_Ho rfl ⟨Nat.le_of_ble_eq_true rfl, Nat.le_of_ble_eq_true rfl⟩ ⟨Nat.le_of_ble_eq_true rfl, Nat.le_of_ble_eq_true rfl⟩ (Nat.le_of_ble_eq_true rfl) hE (fun r_102 sh1 μ3 h_102 => ?_)
      obtain ⟨rfl, rfl, x_102, rfl⟩ := h_102
      refine sx_callV (pc := 105) (As := [.ref (X.2 + 94), .int x_79, .int x_102]) dX5_doMessage_105 (c_writeVerdict X Ex hE μ2 _ (s_Lke _ hd) ⟨d, hd, Or.inr rfl⟩ _ _) mX4_writeVerdict lm_X5_172 rfl (s_Lke _ hd).1 rfl ⟨Nat.le_of_ble_eq_true rfl, Nat.le_of_ble_eq_true rfl⟩ ⟨Nat.le_of_ble_eq_true rfl, Nat.le_of_ble_eq_true rfl⟩ (Nat.le_of_ble_eq_true rfl) hE (fun r_105 sh1 μ4 h_105 => ?_)
      obtain ⟨rfl, rfl, k_105⟩ := h_105
      exact sx_vret (pc := 108) dX5_doMessage_108 rfl (Nat.zero_le _) (Nat.zero_le _) (by first | exact hPo _ (Ch.trans (Ch.trans (Ch.rf) k_79 (fun a (h : 57 ≤ a ∧ a ≤ 94) => by show SD d a; omega)) k_105 (fun a (h : a = 2 + 9 * d + 4 ∨ a = 2 + 9 * d + 4 + 1) => by show SD d a; omega)) (k_51.1 (2 + 9 * d) (by show ¬ (2 + 9 * d = 2 + 9 * d + 4 ∨ 2 + 9 * d = 2 + 9 * d + 4 + 1); omega)) (Or.inl ⟨Or.inl h_40f, (hH.same (fun a h1 h2 => k_51.1 a (by show ¬ (a = 2 + 9 * d + 4 ∨ a = 2 + 9 * d + 4 + 1); omega)))⟩) | exact hPo _ (Ch.trans (Ch.trans (Ch.rf) k_79 (fun a (h : 57 ≤ a ∧ a ≤ 94) => by show SD d a; omega)) k_105 (fun a (h : a = 2 + 9 * d + 4 ∨ a = 2 + 9 * d + 4 + 1) => by show SD d a; omega)) (k_71.1 (2 + 9 * d) (by show ¬ (2 + 9 * d = 2 + 9 * d + 4 ∨ 2 + 9 * d = 2 + 9 * d + 4 + 1); omega)) (Or.inl ⟨Or.inr (Classical.byContradiction fun z => hnge (hgb.mpr z)), (hH.same (fun a h1 h2 => k_71.1 a (by show ¬ (a = 2 + 9 * d + 4 ∨ a = 2 + 9 * d + 4 + 1); omega)))⟩) | exact hPo _ (Ch.trans (Ch.trans (Ch.rf) k_79 (fun a (h : 57 ≤ a ∧ a ≤ 94) => by show SD d a; omega)) k_105 (fun a (h : a = 2 + 9 * d + 4 ∨ a = 2 + 9 * d + 4 + 1) => by show SD d a; omega)) ((k_105.1 (2 + 9 * d) (by show ¬ (2 + 9 * d = 2 + 9 * d + 4 ∨ 2 + 9 * d = 2 + 9 * d + 4 + 1); omega)).trans (k_79.1 (2 + 9 * d) (by show ¬ (57 ≤ 2 + 9 * d ∧ 2 + 9 * d ≤ 94); omega))) (Or.inr ⟨fun z => z.elim (fun w => h_40t w) (fun w => hgb.mp hge w), by rw [← jT_of hM]; exact (hc79.same (fun a h1 h2 => k_105.1 a (by show ¬ (a = 2 + 9 * d + 4 ∨ a = 2 + 9 * d + 4 + 1); omega)))⟩))
    · have h_59f := c_59
      have hnge := hb.elim (fun z => absurd z.1 h_59f) (fun z => z.2)
      refine sx_aload_n (pc := 62) dX5_doMessage_62 rfl rfl ?_
      refine sx_getr (pc := 63) (ci := 2) (j := 7) (r := 2 + 9 * d + 4) dX5_doMessage_63 rfl (s_Line _ hd) rfl (by decide) lf_X5_143 ?_
      refine sx_aload_n (pc := 66) dX5_doMessage_66 rfl rfl ?_
      refine sx_getr (pc := 67) (ci := 5) (j := 3) (r := 94) dX5_doMessage_67 rfl s_EW rfl (by decide) lf_X5_33 ?_
      refine sx_iload_n (pc := 70) dX5_doMessage_70 rfl rfl ?_
      refine sx_callV (pc := 71) (As := [.ref (X.2 + 94), .int x_32]) dX5_doMessage_71 (c_writeError X Ex hE μ _ (s_Lke _ hd) ⟨d, hd, Or.inr rfl⟩ _) mX4_writeError lm_X5_164 rfl (s_Lke _ hd).1 rfl ⟨Nat.le_of_ble_eq_true rfl, Nat.le_of_ble_eq_true rfl⟩ ⟨Nat.le_of_ble_eq_true rfl, Nat.le_of_ble_eq_true rfl⟩ (Nat.le_of_ble_eq_true rfl) hE (fun r_71 sh1 μ5 h_71 => ?_)
      obtain ⟨rfl, rfl, k_71⟩ := h_71
      refine sx_goto (pc := 74) (tgt := 108) dX5_doMessage_74 (by decide) ?_
      exact sx_vret (pc := 108) dX5_doMessage_108 rfl (Nat.zero_le _) (Nat.zero_le _) (by first | exact hPo _ (Ch.trans (Ch.rf) k_71 (fun a (h : a = 2 + 9 * d + 4 ∨ a = 2 + 9 * d + 4 + 1) => by show SD d a; omega)) (k_51.1 (2 + 9 * d) (by show ¬ (2 + 9 * d = 2 + 9 * d + 4 ∨ 2 + 9 * d = 2 + 9 * d + 4 + 1); omega)) (Or.inl ⟨Or.inl h_40f, (hH.same (fun a h1 h2 => k_51.1 a (by show ¬ (a = 2 + 9 * d + 4 ∨ a = 2 + 9 * d + 4 + 1); omega)))⟩) | exact hPo _ (Ch.trans (Ch.rf) k_71 (fun a (h : a = 2 + 9 * d + 4 ∨ a = 2 + 9 * d + 4 + 1) => by show SD d a; omega)) (k_71.1 (2 + 9 * d) (by show ¬ (2 + 9 * d = 2 + 9 * d + 4 ∨ 2 + 9 * d = 2 + 9 * d + 4 + 1); omega)) (Or.inl ⟨Or.inr (Classical.byContradiction fun z => hnge (hgb.mpr z)), (hH.same (fun a h1 h2 => k_71.1 a (by show ¬ (a = 2 + 9 * d + 4 ∨ a = 2 + 9 * d + 4 + 1); omega)))⟩) | exact hPo _ (Ch.trans (Ch.rf) k_71 (fun a (h : a = 2 + 9 * d + 4 ∨ a = 2 + 9 * d + 4 + 1) => by show SD d a; omega)) ((k_105.1 (2 + 9 * d) (by show ¬ (2 + 9 * d = 2 + 9 * d + 4 ∨ 2 + 9 * d = 2 + 9 * d + 4 + 1); omega)).trans (k_79.1 (2 + 9 * d) (by show ¬ (57 ≤ 2 + 9 * d ∧ 2 + 9 * d ≤ 94); omega))) (Or.inr ⟨fun z => z.elim (fun w => h_40t w) (fun w => hgb.mp hge w), by rw [← jT_of hM]; exact (hc79.same (fun a h1 h2 => k_105.1 a (by show ¬ (a = 2 + 9 * d + 4 ∨ a = 2 + 9 * d + 4 + 1); omega)))⟩))
  · have h_40f := c_40
    refine sx_aload_n (pc := 43) dX5_doMessage_43 rfl rfl ?_
    refine sx_getr (pc := 44) (ci := 2) (j := 7) (r := 2 + 9 * d + 4) dX5_doMessage_44 rfl (s_Line _ hd) rfl (by decide) lf_X5_143 ?_
    refine sx_aload_n (pc := 47) dX5_doMessage_47 rfl rfl ?_
    refine sx_getr (pc := 48) (ci := 5) (j := 3) (r := 94) dX5_doMessage_48 rfl s_EW rfl (by decide) lf_X5_33 ?_
    refine sx_callV (pc := 51) (As := [.ref (X.2 + 94)]) dX5_doMessage_51 (c_writeNo X Ex hE μ _ (s_Lke _ hd) ⟨d, hd, Or.inr rfl⟩) mX4_writeNo lm_X5_146 rfl (s_Lke _ hd).1 rfl ⟨Nat.le_of_ble_eq_true rfl, Nat.le_of_ble_eq_true rfl⟩ ⟨Nat.le_of_ble_eq_true rfl, Nat.le_of_ble_eq_true rfl⟩ (Nat.le_of_ble_eq_true rfl) hE (fun r_51 sh1 μ6 h_51 => ?_)
    obtain ⟨rfl, rfl, k_51⟩ := h_51
    refine sx_goto (pc := 54) (tgt := 108) dX5_doMessage_54 (by decide) ?_
    exact sx_vret (pc := 108) dX5_doMessage_108 rfl (Nat.zero_le _) (Nat.zero_le _) (by first | exact hPo _ (Ch.trans (Ch.rf) k_51 (fun a (h : a = 2 + 9 * d + 4 ∨ a = 2 + 9 * d + 4 + 1) => by show SD d a; omega)) (k_51.1 (2 + 9 * d) (by show ¬ (2 + 9 * d = 2 + 9 * d + 4 ∨ 2 + 9 * d = 2 + 9 * d + 4 + 1); omega)) (Or.inl ⟨Or.inl h_40f, (hH.same (fun a h1 h2 => k_51.1 a (by show ¬ (a = 2 + 9 * d + 4 ∨ a = 2 + 9 * d + 4 + 1); omega)))⟩) | exact hPo _ (Ch.trans (Ch.rf) k_51 (fun a (h : a = 2 + 9 * d + 4 ∨ a = 2 + 9 * d + 4 + 1) => by show SD d a; omega)) (k_71.1 (2 + 9 * d) (by show ¬ (2 + 9 * d = 2 + 9 * d + 4 ∨ 2 + 9 * d = 2 + 9 * d + 4 + 1); omega)) (Or.inl ⟨Or.inr (Classical.byContradiction fun z => hnge (hgb.mpr z)), (hH.same (fun a h1 h2 => k_71.1 a (by show ¬ (a = 2 + 9 * d + 4 ∨ a = 2 + 9 * d + 4 + 1); omega)))⟩) | exact hPo _ (Ch.trans (Ch.rf) k_51 (fun a (h : a = 2 + 9 * d + 4 ∨ a = 2 + 9 * d + 4 + 1) => by show SD d a; omega)) ((k_105.1 (2 + 9 * d) (by show ¬ (2 + 9 * d = 2 + 9 * d + 4 ∨ 2 + 9 * d = 2 + 9 * d + 4 + 1); omega)).trans (k_79.1 (2 + 9 * d) (by show ¬ (57 ≤ 2 + 9 * d ∧ 2 + 9 * d ≤ 94); omega))) (Or.inr ⟨fun z => z.elim (fun w => h_40t w) (fun w => hgb.mp hge w), by rw [← jT_of hM]; exact (hc79.same (fun a h1 h2 => k_105.1 a (by show ¬ (a = 2 + 9 * d + 4 ∨ a = 2 + 9 * d + 4 + 1); omega)))⟩))
theorem bd_S {t : PT} (h : t.1 = 83) : ¬ bd t := by
  unfold bd
  rw [h]
  rintro (z | z | z)
  · exact absurd z.1 (by decide)
  · exact absurd z.1 (by decide)
  · exact absurd z.1 (by decide)
theorem dm_1 {d : Nat} {μ μ1 μ' : xM} {t : PT} {h : HT} {dv : Int32} (hd : d < 6) (hk : ¬ t.1 = 83) (hg : μ (2 + 9 * d) 3 = 0 ∨ μ (2 + 9 * d) 3 = 1) (e1 : μ1 = xup μ (2 + 9 * d) 4 t.2.1) (k : Ch (SD d) μ1 μ') (kl : μ' (2 + 9 * d) = μ1 (2 + 9 * d)) (hc : ((μ1 (2 + 9 * d) 3 = 0 ∨ bd t) ∧ Hc μ' h) ∨ (¬ (μ1 (2 + 9 * d) 3 = 0 ∨ bd t) ∧ Hc μ' (jT h dv t))) : Ch (SD d) μ μ' ∧ (∀ j, j ≠ 3 → j ≠ 4 → μ' (2 + 9 * d) j = μ (2 + 9 * d) j) ∧ μ' (2 + 9 * d) 4 = t.2.1 ∧ (((¬ t.1 = 83 ∧ μ (2 + 9 * d) 3 = 0 ∨ bd t) ∧ μ' (2 + 9 * d) 3 = μ (2 + 9 * d) 3 ∧ Hc μ' h) ∨ (¬ (¬ t.1 = 83 ∧ μ (2 + 9 * d) 3 = 0 ∨ bd t) ∧ μ' (2 + 9 * d) 3 = 1 ∧ Hc μ' (jT h dv t))) := by
  have e3 : μ1 (2 + 9 * d) 3 = μ (2 + 9 * d) 3 := by rw [e1, xup_at, if_neg (by omega)]
  rw [e3] at hc
  refine ⟨Ch.trans (Ch.put Ch.rf e1 (by show SD d _; omega) (LB.off e1 ⟨by omega, fun _ _ => by omega⟩)) k (fun _ z => z), fun j j3 j4 => by rw [kl, e1, xup_at, if_neg (fun z => j4 z.2)], by rw [kl, e1, xup_at, if_pos ⟨rfl, rfl⟩], ?_⟩
  rw [kl, e3]
  rcases hc with z | z
  · exact Or.inl ⟨z.1.elim (fun w => Or.inl ⟨hk, w⟩) Or.inr, rfl, z.2⟩
  · refine Or.inr ⟨fun w => z.1 (w.elim (fun y => Or.inl y.2) Or.inr), ?_, z.2⟩
    exact hg.elim (fun w => absurd (Or.inl w) z.1) (fun w => w)
theorem dm_2 {d : Nat} {μ μ1 μ2 μ' : xM} {t : PT} {h : HT} {dv : Int32} (hd : d < 6) (hk : t.1 = 83) (e1 : μ1 = xup μ (2 + 9 * d) 4 t.2.1) (e2 : μ2 = xup μ1 (2 + 9 * d) 3 1) (k : Ch (SD d) μ2 μ') (kl : μ' (2 + 9 * d) = μ2 (2 + 9 * d)) (hc : ((μ2 (2 + 9 * d) 3 = 0 ∨ bd t) ∧ Hc μ' h) ∨ (¬ (μ2 (2 + 9 * d) 3 = 0 ∨ bd t) ∧ Hc μ' (jT h dv t))) : Ch (SD d) μ μ' ∧ (∀ j, j ≠ 3 → j ≠ 4 → μ' (2 + 9 * d) j = μ (2 + 9 * d) j) ∧ μ' (2 + 9 * d) 4 = t.2.1 ∧ (((¬ t.1 = 83 ∧ μ (2 + 9 * d) 3 = 0 ∨ bd t) ∧ μ' (2 + 9 * d) 3 = μ (2 + 9 * d) 3 ∧ Hc μ' h) ∨ (¬ (¬ t.1 = 83 ∧ μ (2 + 9 * d) 3 = 0 ∨ bd t) ∧ μ' (2 + 9 * d) 3 = 1 ∧ Hc μ' (jT h dv t))) := by
  have e3 : μ2 (2 + 9 * d) 3 = 1 := by rw [e2, xup_at, if_pos ⟨rfl, rfl⟩]
  rw [e3] at hc
  have nA : ¬ (¬ t.1 = 83 ∧ μ (2 + 9 * d) 3 = 0 ∨ bd t) := fun z => z.elim (fun w => w.1 hk) (bd_S hk)
  refine ⟨Ch.trans (Ch.put (Ch.put Ch.rf e1 (by show SD d _; omega) (LB.off e1 ⟨by omega, fun _ _ => by omega⟩)) e2 (by show SD d _; omega) (LB.off e2 ⟨by omega, fun _ _ => by omega⟩)) k (fun _ z => z), fun j j3 j4 => by rw [kl, e2, xup_at, if_neg (fun z => j3 z.2), e1, xup_at, if_neg (fun z => j4 z.2)], by rw [kl, e2, xup_at, if_neg (by omega), e1, xup_at, if_pos ⟨rfl, rfl⟩], ?_⟩
  rw [kl, e3]
  rcases hc with z | z
  · exact z.1.elim (fun w => absurd w (by decide)) (fun w => absurd w (bd_S hk))
  · exact Or.inr ⟨nA, rfl, z.2⟩
set_option maxHeartbeats 1000000 in
set_option maxRecDepth 20000 in
theorem c_doMessage (X : xD) (Ex : State → Prop) (hE : xEs X false shA.length Ex) (μ : xM) {sk sv : Nat → Nat} {fm : Option Nat} (hS : ∀ s, Ex s → ExS X sk sv fm s) (dv : Int32) (d : Nat) (hd : d < 6) (hL : LB μ) {f : Nat → Int32} {nn : Nat} {t : PT} (hp : prs f nn = some t) (hM : MF μ t) {h : HT} (hH : Hc μ h) {n : Nat} (hn : n < 2 ^ 20) (hW : HW n h) (hg : μ (2 + 9 * d) 3 = 0 ∨ μ (2 + 9 * d) 3 = 1) : Ct X Ex false yX5_doMessage kX5_doMessage (rmN 5) [.ref (X.2 + 0), .int dv, .ref (X.2 + (2 + 9 * d))] shA μ (fun r sh' μ' => shA = sh' ∧ r = none ∧ Ch (SD d) μ μ' ∧ (∀ j, j ≠ 3 → j ≠ 4 → μ' (2 + 9 * d) j = μ (2 + 9 * d) j) ∧ μ' (2 + 9 * d) 4 = t.2.1 ∧ (((¬ t.1 = 83 ∧ μ (2 + 9 * d) 3 = 0 ∨ bd t) ∧ μ' (2 + 9 * d) 3 = μ (2 + 9 * d) 3 ∧ Hc μ' h) ∨ (¬ (¬ t.1 = 83 ∧ μ (2 + 9 * d) 3 = 0 ∨ bd t) ∧ μ' (2 + 9 * d) 3 = 1 ∧ Hc μ' (jT h dv t)))) := by
  refine Ct.of (L0 := [some (.ref (X.2 + 0)), some (.int dv), some (.ref (X.2 + (2 + 9 * d))), none, none]) (by decide) rfl (fun h => by cases h) (by simp [Value.category]) (Nat.le_of_ble_eq_true rfl) rfl (fun l => ?_)
  refine sx_aload_n (pc := 0) dX5_doMessage_0 rfl rfl ?_
  refine sx_aload_n (pc := 1) dX5_doMessage_1 rfl rfl ?_
  refine sx_getr (pc := 2) (ci := 5) (j := 3) (r := 94) dX5_doMessage_2 rfl s_EW rfl (by decide) lf_X5_33 ?_
  refine sx_geti (pc := 5) (ci := 3) (j := 1) dX5_doMessage_5 rfl s_Me rfl (by decide) lf_X5_150 ?_
  refine sx_puti (pc := 8) (ci := 2) (j := 4) (ty := .int) dX5_doMessage_8 rfl (s_Line _ hd) rfl (by decide) lf_X5_116 rfl (by decide +kernel) rfl rfl (fun μ1 hμ1 => ?_)
  refine sx_aload_n (pc := 11) dX5_doMessage_11 rfl rfl ?_
  refine sx_getr (pc := 12) (ci := 5) (j := 3) (r := 94) dX5_doMessage_12 rfl s_EW rfl (by decide) lf_X5_33 ?_
  refine sx_geti (pc := 15) (ci := 3) (j := 0) dX5_doMessage_15 rfl s_Me rfl (by decide) lf_X5_140 ?_
  refine sx_bipush (pc := 18) (v := 83) dX5_doMessage_18 (by decide) ?_
  refine sx_icmp_ne (pc := 20) (tgt := 28) dX5_doMessage_20 (by decide) (fun c_20 => ?_) (fun c_20 => ?_)
  · have h_20t := c_20
    have k1 : ∀ a, a ≠ 2 + 9 * d → μ1 a = μ a := (fun a ha => by rw [hμ1]; funext b; rw [xup_at, if_neg (fun z => ha z.1)])
    exact l_dm hE hS hd (LB.off hμ1 ⟨by omega, fun _ _ => by omega⟩ hL) hp (hM.same (k1 94 (by omega))) (hH.same (fun a h1 h2 => k1 a (by omega))) hn hW (fun μ9 k9 kl9 c9 => ⟨rfl, rfl, dm_1 hd (fun z => h_20t (by rw [k1 94 (by omega)]; exact hM.1.trans z)) hg (by rw [← hM.2.1]; exact hμ1) k9 kl9 c9⟩)
  · have h_20f := c_20
    refine sx_aload_n (pc := 23) dX5_doMessage_23 rfl rfl ?_
    refine sx_iconst (pc := 24) (v := 1) dX5_doMessage_24 (by decide) ?_
    refine sx_puti (pc := 25) (ci := 2) (j := 3) (ty := .boolean) dX5_doMessage_25 rfl (s_Line _ hd) rfl (by decide) lf_X5_119 rfl (by decide +kernel) rfl rfl (fun μ2 hμ2 => ?_)
    have k1 : ∀ a, a ≠ 2 + 9 * d → μ2 a = μ a := (fun a ha => by rw [hμ2, hμ1]; funext b; rw [xup_at, if_neg (fun z => ha z.1), xup_at, if_neg (fun z => ha z.1)])
    exact l_dm hE hS hd (LB.off hμ2 ⟨by omega, fun _ _ => by omega⟩ (LB.off hμ1 ⟨by omega, fun _ _ => by omega⟩ hL)) hp (hM.same (k1 94 (by omega))) (hH.same (fun a h1 h2 => k1 a (by omega))) hn hW (fun μ9 k9 kl9 c9 => ⟨rfl, rfl, dm_2 hd (by rw [← hM.1, ← h_20f, hμ1, xup_at, if_neg (by omega)]) (by rw [← hM.2.1]; exact hμ1) hμ2 k9 kl9 c9⟩)
def Ed (d : Nat) (dv : Int32) (f : Nat → Int32) (n : Nat) (h : HT) (μ μ' : xM) : Prop := Ch (SEd d) μ μ' ∧ (∀ j, j ≠ 1 → j ≠ 3 → j ≠ 4 → j ≠ 5 → μ' (2 + 9 * d) j = μ (2 + 9 * d) j) ∧ μ' (2 + 9 * d) 1 = 0 ∧ ((prs f n = none ∧ μ' (2 + 9 * d) 5 = μ (2 + 9 * d) 5 + 1 ∧ μ' (2 + 9 * d) 3 = μ (2 + 9 * d) 3 ∧ μ' (2 + 9 * d) 4 = μ (2 + 9 * d) 4 ∧ Hc μ' h) ∨ ∃ t, prs f n = some t ∧ μ' (2 + 9 * d) 5 = μ (2 + 9 * d) 5 ∧ (((t.1 = 81 ∨ t.2.1 = μ (2 + 9 * d) 4) ∧ μ' (2 + 9 * d) 3 = μ (2 + 9 * d) 3 ∧ μ' (2 + 9 * d) 4 = μ (2 + 9 * d) 4 ∧ Hc μ' h) ∨ (¬ (t.1 = 81 ∨ t.2.1 = μ (2 + 9 * d) 4) ∧ μ' (2 + 9 * d) 4 = t.2.1 ∧ (((¬ t.1 = 83 ∧ μ (2 + 9 * d) 3 = 0 ∨ bd t) ∧ μ' (2 + 9 * d) 3 = μ (2 + 9 * d) 3 ∧ Hc μ' h) ∨ (¬ (¬ t.1 = 83 ∧ μ (2 + 9 * d) 3 = 0 ∨ bd t) ∧ μ' (2 + 9 * d) 3 = 1 ∧ Hc μ' (jT h dv t))))))
theorem Ed.rep {d : Nat} {dv : Int32} {f : Nat → Int32} {n : Nat} {h : HT} {μ μ1 μ2 : xM} {S : Nat → Prop} (hd : d < 6) (e : Ed d dv f n h μ μ1) (k : Ch S μ1 μ2) (hs : ∀ a, S a → 2 + 9 * d + 2 ≤ a ∧ a ≤ 2 + 9 * d + 5) : Ed d dv f n h μ μ2 := by
  have kl : μ2 (2 + 9 * d) = μ1 (2 + 9 * d) := k.1 _ (fun z => by have := hs _ z; omega)
  have kh : ∀ x, Hc μ1 x → Hc μ2 x := fun x y => y.same (fun a h1 h2 => k.1 a (fun z => by have := hs _ z; omega))
  obtain ⟨e1, e2, e3, e4⟩ := e
  refine ⟨Ch.trans e1 k (fun a ha => by have := hs a ha; show SEd d a; omega), by rw [kl]; exact e2, by rw [kl]; exact e3, ?_⟩
  rw [kl]
  rcases e4 with ⟨a1, a2, a3, a4, a5⟩ | ⟨t, a1, a2, a3⟩
  · exact Or.inl ⟨a1, a2, a3, a4, kh _ a5⟩
  · refine Or.inr ⟨t, a1, a2, ?_⟩
    rcases a3 with ⟨b1, b2, b3, b4⟩ | ⟨b1, b2, b3⟩
    · exact Or.inl ⟨b1, b2, b3, kh _ b4⟩
    · refine Or.inr ⟨b1, b2, ?_⟩
      rcases b3 with ⟨c1, c2, c3⟩ | ⟨c1, c2, c3⟩
      · exact Or.inl ⟨c1, c2, kh _ c3⟩
      · exact Or.inr ⟨c1, c2, kh _ c3⟩
section EDS
variable {d : Nat} {dv : Int32} {f : Nat → Int32} {n : Nat} {h : HT} {μ μ1 μ2 μ3 : xM}
theorem ed_0 (hd : d < 6) (k : Ch SM μ μ1) (e : μ2 = xup μ1 (2 + 9 * d) 1 0) (hH : Hc μ h) : Ch (SEd d) μ μ2 ∧ (∀ j, j ≠ 1 → μ2 (2 + 9 * d) j = μ (2 + 9 * d) j) ∧ μ2 (2 + 9 * d) 1 = 0 ∧ Hc μ2 h ∧ μ2 94 = μ1 94 := by
  have k1 : ∀ a, a ≠ 94 → μ1 a = μ a := k.1
  refine ⟨Ch.put (Ch.trans Ch.rf k (fun a (ha : a = 94) => by show SEd d a; omega)) e (by show SEd d _; omega) (LB.off e ⟨by omega, fun _ _ => by omega⟩), fun j hj => by rw [e, xup_at, if_neg (fun z => hj z.2), k1 _ (by omega)], by rw [e, xup_at, if_pos ⟨rfl, rfl⟩], hH.same (fun a h1 h2 => ?_), ?_⟩
  · rw [e]; funext b; rw [xup_at, if_neg (by omega), k1 a (by omega)]
  · rw [e]; funext b; rw [xup_at, if_neg (by omega)]
theorem ed_n (hd : d < 6) (q : Ch (SEd d) μ μ2 ∧ (∀ j, j ≠ 1 → μ2 (2 + 9 * d) j = μ (2 + 9 * d) j) ∧ μ2 (2 + 9 * d) 1 = 0 ∧ Hc μ2 h ∧ μ2 94 = μ1 94) (hp : prs f n = none) (e : μ3 = xup μ2 (2 + 9 * d) 5 (μ2 (2 + 9 * d) 5 + 1)) : Ed d dv f n h μ μ3 := by
  obtain ⟨q1, q2, q3, q4, _⟩ := q
  have kl : ∀ j, j ≠ 5 → μ3 (2 + 9 * d) j = μ2 (2 + 9 * d) j := fun j hj => by rw [e, xup_at, if_neg (fun z => hj z.2)]
  refine ⟨Ch.put q1 e (by show SEd d _; omega) (LB.off e ⟨by omega, fun _ _ => by omega⟩), fun j j1 _ _ j5 => by rw [kl j j5, q2 j j1], by rw [kl 1 (by decide)]; exact q3, Or.inl ⟨hp, by rw [e, xup_at, if_pos ⟨rfl, rfl⟩, q2 5 (by decide)], by rw [kl 3 (by decide), q2 3 (by decide)], by rw [kl 4 (by decide), q2 4 (by decide)], q4.same (fun a h1 h2 => ?_)⟩⟩
  rw [e]; funext b; rw [xup_at, if_neg (by omega)]
theorem ed_q {t : PT} (q : Ch (SEd d) μ μ2 ∧ (∀ j, j ≠ 1 → μ2 (2 + 9 * d) j = μ (2 + 9 * d) j) ∧ μ2 (2 + 9 * d) 1 = 0 ∧ Hc μ2 h ∧ μ2 94 = μ1 94) (hp : prs f n = some t) (ht : t.1 = 81 ∨ t.2.1 = μ (2 + 9 * d) 4) : Ed d dv f n h μ μ2 := by
  obtain ⟨q1, q2, q3, q4, _⟩ := q
  exact ⟨q1, fun j j1 _ _ _ => q2 j j1, q3, Or.inr ⟨t, hp, q2 5 (by decide), Or.inl ⟨ht, q2 3 (by decide), q2 4 (by decide), q4⟩⟩⟩
theorem ed_d {t : PT} (q : Ch (SEd d) μ μ2 ∧ (∀ j, j ≠ 1 → μ2 (2 + 9 * d) j = μ (2 + 9 * d) j) ∧ μ2 (2 + 9 * d) 1 = 0 ∧ Hc μ2 h ∧ μ2 94 = μ1 94) (hp : prs f n = some t) (ht : ¬ (t.1 = 81 ∨ t.2.1 = μ (2 + 9 * d) 4)) (k : Ch (SD d) μ2 μ3) (kl : ∀ j, j ≠ 3 → j ≠ 4 → μ3 (2 + 9 * d) j = μ2 (2 + 9 * d) j) (k4 : μ3 (2 + 9 * d) 4 = t.2.1) (kc : ((¬ t.1 = 83 ∧ μ2 (2 + 9 * d) 3 = 0 ∨ bd t) ∧ μ3 (2 + 9 * d) 3 = μ2 (2 + 9 * d) 3 ∧ Hc μ3 h) ∨ (¬ (¬ t.1 = 83 ∧ μ2 (2 + 9 * d) 3 = 0 ∨ bd t) ∧ μ3 (2 + 9 * d) 3 = 1 ∧ Hc μ3 (jT h dv t))) : Ed d dv f n h μ μ3 := by
  obtain ⟨q1, q2, q3, q4, _⟩ := q
  rw [q2 3 (by decide)] at kc
  exact ⟨Ch.trans q1 k (fun a (ha : (57 ≤ a ∧ a ≤ 94) ∨ a = 2 + 9 * d ∨ a = 2 + 9 * d + 4 ∨ a = 2 + 9 * d + 5) => by show SEd d a; omega), fun j j1 j3 j4 _ => by rw [kl j j3 j4, q2 j j1], by rw [kl 1 (by decide) (by decide)]; exact q3, Or.inr ⟨t, hp, by rw [kl 5 (by decide) (by decide), q2 5 (by decide)], Or.inr ⟨ht, k4, kc⟩⟩⟩
end EDS
set_option maxHeartbeats 1000000 in
set_option maxRecDepth 20000 in
theorem c_endMessage (X : xD) (Ex : State → Prop) (hE : xEs X false shA.length Ex) (μ : xM) {sk sv : Nat → Nat} {fm : Option Nat} (hS : ∀ s, Ex s → ExS X sk sv fm s) (dv : Int32) (d : Nat) (hd : d < 6) (hL : LB μ) {f : Nat → Int32} (hf : ∀ j, j < 60 → μ (2 + 9 * d + 1) j = f j) (nn : Nat) (hnn : nn ≤ 60) (hcnt : μ (2 + 9 * d) 1 = nI nn) {h : HT} (hH : Hc μ h) {n : Nat} (hn : n < 2 ^ 20) (hW : HW n h) (hg : μ (2 + 9 * d) 3 = 0 ∨ μ (2 + 9 * d) 3 = 1) : Ct X Ex false yX5_endMessage kX5_endMessage (rmN 6) [.ref (X.2 + 0), .int dv, .ref (X.2 + (2 + 9 * d))] shA μ (fun r sh' μ' => shA = sh' ∧ r = none ∧ Ed d dv f nn h μ μ') := by
  refine Ct.of (L0 := [some (.ref (X.2 + 0)), some (.int dv), some (.ref (X.2 + (2 + 9 * d))), none]) (by decide) rfl (fun h => by cases h) (by simp [Value.category]) (Nat.le_of_ble_eq_true rfl) rfl (fun l => ?_)
  refine sx_aload_n (pc := 0) dX5_endMessage_0 rfl rfl ?_
  refine sx_getr (pc := 1) (ci := 5) (j := 3) (r := 94) dX5_endMessage_1 rfl s_EW rfl (by decide) lf_X5_33 ?_
  refine sx_aload_n (pc := 4) dX5_endMessage_4 rfl rfl ?_
  refine sx_getr (pc := 5) (ci := 2) (j := 0) (r := 2 + 9 * d + 1) dX5_endMessage_5 rfl (s_Line _ hd) rfl (by decide) lf_X5_132 ?_
  refine sx_aload_n (pc := 8) dX5_endMessage_8 rfl rfl ?_
  refine sx_geti (pc := 9) (ci := 2) (j := 1) dX5_endMessage_9 rfl (s_Line _ hd) rfl (by decide) lf_X5_77 ?_
  rw [hcnt]
  refine sx_callV (pc := 12) (As := [.ref (X.2 + (2 + 9 * d + 1)), .int (nI nn)]) dX5_endMessage_12 (c_read X Ex hE μ hS _ nn (s_Lsg _ hd) (by show ¬ (_ = 94); omega) hnn hf) mX3_read lm_X5_133 rfl s_Me rfl ⟨Nat.le_of_ble_eq_true rfl, Nat.le_of_ble_eq_true rfl⟩ ⟨Nat.le_of_ble_eq_true rfl, Nat.le_of_ble_eq_true rfl⟩ (Nat.le_of_ble_eq_true rfl) hE (fun r_12 sh1 μ1 h_12 => ?_)
  obtain ⟨rfl, k_12, x_12, rfl, hx_12⟩ := h_12
  refine sx_istore_n (pc := 15) (L' := [some (.ref (X.2 + 0)), some (.int dv), some (.ref (X.2 + (2 + 9 * d))), some (.int x_12)]) dX5_endMessage_15 rfl (by decide) rfl ?_
  refine sx_aload_n (pc := 16) dX5_endMessage_16 rfl rfl ?_
  refine sx_iconst (pc := 17) (v := 0) dX5_endMessage_17 (by decide) ?_
  refine sx_puti (pc := 18) (ci := 2) (j := 1) (ty := .int) dX5_endMessage_18 rfl (s_Line _ hd) rfl (by decide) lf_X5_77 rfl (by decide +kernel) rfl rfl (fun μ2 hμ2 => ?_)
  have q0 := ed_0 hd k_12 hμ2 hH
  refine sx_iload_n (pc := 21) dX5_endMessage_21 rfl rfl ?_
  refine sx_if_ne (pc := 22) (tgt := 45) dX5_endMessage_22 (by decide) (fun c_22 => ?_) (fun c_22 => ?_)
  · have h_22t := c_22
    obtain ⟨t, hp, hM1⟩ := hx_12.elim (fun z => z.2) (fun z => absurd z.1 h_22t)
    have hM2 := hM1.same q0.2.2.2.2
    refine sx_aload_n (pc := 45) dX5_endMessage_45 rfl rfl ?_
    refine sx_getr (pc := 46) (ci := 5) (j := 3) (r := 94) dX5_endMessage_46 rfl s_EW rfl (by decide) lf_X5_33 ?_
    refine sx_geti (pc := 49) (ci := 3) (j := 0) dX5_endMessage_49 rfl s_Me rfl (by decide) lf_X5_140 ?_
    refine sx_bipush (pc := 52) (v := 81) dX5_endMessage_52 (by decide) ?_
    refine sx_icmp_ne (pc := 54) (tgt := 81) dX5_endMessage_54 (by decide) (fun c_54 => ?_) (fun c_54 => ?_)
    · have h_54t := c_54
      refine sx_aload_n (pc := 81) dX5_endMessage_81 rfl rfl ?_
      refine sx_getr (pc := 82) (ci := 5) (j := 3) (r := 94) dX5_endMessage_82 rfl s_EW rfl (by decide) lf_X5_33 ?_
      refine sx_geti (pc := 85) (ci := 3) (j := 0) dX5_endMessage_85 rfl s_Me rfl (by decide) lf_X5_140 ?_
      refine sx_bipush (pc := 88) (v := 81) dX5_endMessage_88 (by decide) ?_
      refine sx_icmp_eq (pc := 90) (tgt := 113) dX5_endMessage_90 (by decide) (fun c_90 => ?_) (fun c_90 => ?_)
      · have h_90t := c_90
        have E9 := ed_q (dv := dv) q0 hp (Or.inl (by rw [← hM2.1]; exact h_90t))
        have hL9 := q0.1.2 hL
        refine sx_aload_n (pc := 113) dX5_endMessage_113 rfl rfl ?_
        refine sx_getr (pc := 114) (ci := 2) (j := 6) (r := 2 + 9 * d + 2) dX5_endMessage_114 rfl (s_Line _ hd) rfl (by decide) lf_X5_57 ?_
        refine sx_aload_n (pc := 117) dX5_endMessage_117 rfl rfl ?_
        refine sx_getr (pc := 118) (ci := 2) (j := 7) (r := 2 + 9 * d + 4) dX5_endMessage_118 rfl (s_Line _ hd) rfl (by decide) lf_X5_143 ?_
        refine sx_callV (pc := 121) (As := [.ref (X.2 + (2 + 9 * d + 4))]) dX5_endMessage_121 (c_copy X Ex hE μ2 _ _ (s_Lsh _ hd) ⟨d, hd, Or.inl rfl⟩ (s_Lke _ hd) ⟨d, hd, Or.inr rfl⟩ hL9) mX4_copy lm_X5_156 rfl (s_Lsh _ hd).1 rfl ⟨Nat.le_of_ble_eq_true rfl, Nat.le_of_ble_eq_true rfl⟩ ⟨Nat.le_of_ble_eq_true rfl, Nat.le_of_ble_eq_true rfl⟩ (Nat.le_of_ble_eq_true rfl) hE (fun r_121 sh1 μ3 h_121 => ?_)
        obtain ⟨rfl, rfl, k_121⟩ := h_121
        have E8 := E9.rep hd k_121 (fun a (h : a = 2 + 9 * d + 2 ∨ a = 2 + 9 * d + 2 + 1) => by omega)
        exact sx_vret (pc := 124) dX5_endMessage_124 rfl (Nat.zero_le _) (Nat.zero_le _) (⟨rfl, rfl, E8⟩)
      · have h_90f := c_90
        refine sx_aload_n (pc := 93) dX5_endMessage_93 rfl rfl ?_
        refine sx_getr (pc := 94) (ci := 5) (j := 3) (r := 94) dX5_endMessage_94 rfl s_EW rfl (by decide) lf_X5_33 ?_
        refine sx_geti (pc := 97) (ci := 3) (j := 1) dX5_endMessage_97 rfl s_Me rfl (by decide) lf_X5_150 ?_
        refine sx_aload_n (pc := 100) dX5_endMessage_100 rfl rfl ?_
        refine sx_geti (pc := 101) (ci := 2) (j := 4) dX5_endMessage_101 rfl (s_Line _ hd) rfl (by decide) lf_X5_116 ?_
        refine sx_icmp_eq (pc := 104) (tgt := 113) dX5_endMessage_104 (by decide) (fun c_104 => ?_) (fun c_104 => ?_)
        · have h_104t := c_104
          have E9 := ed_q (dv := dv) q0 hp (Or.inr (by rw [← hM2.2.1, h_104t, q0.2.1 4 (by decide)]))
          have hL9 := q0.1.2 hL
          refine sx_aload_n (pc := 113) dX5_endMessage_113 rfl rfl ?_
          refine sx_getr (pc := 114) (ci := 2) (j := 6) (r := 2 + 9 * d + 2) dX5_endMessage_114 rfl (s_Line _ hd) rfl (by decide) lf_X5_57 ?_
          refine sx_aload_n (pc := 117) dX5_endMessage_117 rfl rfl ?_
          refine sx_getr (pc := 118) (ci := 2) (j := 7) (r := 2 + 9 * d + 4) dX5_endMessage_118 rfl (s_Line _ hd) rfl (by decide) lf_X5_143 ?_
          refine sx_callV (pc := 121) (As := [.ref (X.2 + (2 + 9 * d + 4))]) dX5_endMessage_121 (c_copy X Ex hE μ2 _ _ (s_Lsh _ hd) ⟨d, hd, Or.inl rfl⟩ (s_Lke _ hd) ⟨d, hd, Or.inr rfl⟩ hL9) mX4_copy lm_X5_156 rfl (s_Lsh _ hd).1 rfl ⟨Nat.le_of_ble_eq_true rfl, Nat.le_of_ble_eq_true rfl⟩ ⟨Nat.le_of_ble_eq_true rfl, Nat.le_of_ble_eq_true rfl⟩ (Nat.le_of_ble_eq_true rfl) hE (fun r_121 sh1 μ4 h_121 => ?_)
          obtain ⟨rfl, rfl, k_121⟩ := h_121
          have E8 := E9.rep hd k_121 (fun a (h : a = 2 + 9 * d + 2 ∨ a = 2 + 9 * d + 2 + 1) => by omega)
          exact sx_vret (pc := 124) dX5_endMessage_124 rfl (Nat.zero_le _) (Nat.zero_le _) (⟨rfl, rfl, E8⟩)
        · have h_104f := c_104
          refine sx_aload_n (pc := 107) dX5_endMessage_107 rfl rfl ?_
          refine sx_iload_n (pc := 108) dX5_endMessage_108 rfl rfl ?_
          refine sx_aload_n (pc := 109) dX5_endMessage_109 rfl rfl ?_
          refine sx_callV (pc := 110) (As := [.int dv, .ref (X.2 + (2 + 9 * d))]) dX5_endMessage_110 (c_doMessage X Ex hE μ2 hS _ d hd (q0.1.2 hL) hp hM2 q0.2.2.2.1 hn hW (by rw [q0.2.1 3 (by decide)]; exact hg)) mX5_doMessage lm_X5_153 rfl s_EW rfl ⟨Nat.le_of_ble_eq_true rfl, Nat.le_of_ble_eq_true rfl⟩ ⟨Nat.le_of_ble_eq_true rfl, Nat.le_of_ble_eq_true rfl⟩ (Nat.le_of_ble_eq_true rfl) hE (fun r_110 sh1 μ5 h_110 => ?_)
          obtain ⟨rfl, rfl, k_110, l_110, e_110, c_110⟩ := h_110
          have E9 := ed_d q0 hp (fun z => z.elim (fun w => h_90f (by rw [hM2.1]; exact w)) (fun w => h_104f (by rw [hM2.2.1, w, q0.2.1 4 (by decide)]))) k_110 l_110 e_110 c_110
          have hL9 := E9.1.2 hL
          refine sx_aload_n (pc := 113) dX5_endMessage_113 rfl rfl ?_
          refine sx_getr (pc := 114) (ci := 2) (j := 6) (r := 2 + 9 * d + 2) dX5_endMessage_114 rfl (s_Line _ hd) rfl (by decide) lf_X5_57 ?_
          refine sx_aload_n (pc := 117) dX5_endMessage_117 rfl rfl ?_
          refine sx_getr (pc := 118) (ci := 2) (j := 7) (r := 2 + 9 * d + 4) dX5_endMessage_118 rfl (s_Line _ hd) rfl (by decide) lf_X5_143 ?_
          refine sx_callV (pc := 121) (As := [.ref (X.2 + (2 + 9 * d + 4))]) dX5_endMessage_121 (c_copy X Ex hE μ5 _ _ (s_Lsh _ hd) ⟨d, hd, Or.inl rfl⟩ (s_Lke _ hd) ⟨d, hd, Or.inr rfl⟩ hL9) mX4_copy lm_X5_156 rfl (s_Lsh _ hd).1 rfl ⟨Nat.le_of_ble_eq_true rfl, Nat.le_of_ble_eq_true rfl⟩ ⟨Nat.le_of_ble_eq_true rfl, Nat.le_of_ble_eq_true rfl⟩ (Nat.le_of_ble_eq_true rfl) hE (fun r_121 sh1 μ6 h_121 => ?_)
          obtain ⟨rfl, rfl, k_121⟩ := h_121
          have E8 := E9.rep hd k_121 (fun a (h : a = 2 + 9 * d + 2 ∨ a = 2 + 9 * d + 2 + 1) => by omega)
          exact sx_vret (pc := 124) dX5_endMessage_124 rfl (Nat.zero_le _) (Nat.zero_le _) (⟨rfl, rfl, E8⟩)
    · have h_54f := c_54
      refine sx_aload_n (pc := 57) dX5_endMessage_57 rfl rfl ?_
      refine sx_getr (pc := 58) (ci := 2) (j := 7) (r := 2 + 9 * d + 4) dX5_endMessage_58 rfl (s_Line _ hd) rfl (by decide) lf_X5_143 ?_
      refine sx_geti (pc := 61) (ci := 4) (j := 1) dX5_endMessage_61 rfl (s_Lke _ hd).1 rfl (by decide) lf_X5_61 ?_
      refine sx_if_ne (pc := 64) (tgt := 81) dX5_endMessage_64 (by decide) (fun c_64 => ?_) (fun c_64 => ?_)
      · have h_64t := c_64
        refine sx_aload_n (pc := 81) dX5_endMessage_81 rfl rfl ?_
        refine sx_getr (pc := 82) (ci := 5) (j := 3) (r := 94) dX5_endMessage_82 rfl s_EW rfl (by decide) lf_X5_33 ?_
        refine sx_geti (pc := 85) (ci := 3) (j := 0) dX5_endMessage_85 rfl s_Me rfl (by decide) lf_X5_140 ?_
        refine sx_bipush (pc := 88) (v := 81) dX5_endMessage_88 (by decide) ?_
        refine sx_icmp_eq (pc := 90) (tgt := 113) dX5_endMessage_90 (by decide) (fun c_90 => ?_) (fun c_90 => ?_)
        · have h_90t := c_90
          have E9 := ed_q (dv := dv) q0 hp (Or.inl (by rw [← hM2.1]; exact h_90t))
          have hL9 := q0.1.2 hL
          refine sx_aload_n (pc := 113) dX5_endMessage_113 rfl rfl ?_
          refine sx_getr (pc := 114) (ci := 2) (j := 6) (r := 2 + 9 * d + 2) dX5_endMessage_114 rfl (s_Line _ hd) rfl (by decide) lf_X5_57 ?_
          refine sx_aload_n (pc := 117) dX5_endMessage_117 rfl rfl ?_
          refine sx_getr (pc := 118) (ci := 2) (j := 7) (r := 2 + 9 * d + 4) dX5_endMessage_118 rfl (s_Line _ hd) rfl (by decide) lf_X5_143 ?_
          refine sx_callV (pc := 121) (As := [.ref (X.2 + (2 + 9 * d + 4))]) dX5_endMessage_121 (c_copy X Ex hE μ2 _ _ (s_Lsh _ hd) ⟨d, hd, Or.inl rfl⟩ (s_Lke _ hd) ⟨d, hd, Or.inr rfl⟩ hL9) mX4_copy lm_X5_156 rfl (s_Lsh _ hd).1 rfl ⟨Nat.le_of_ble_eq_true rfl, Nat.le_of_ble_eq_true rfl⟩ ⟨Nat.le_of_ble_eq_true rfl, Nat.le_of_ble_eq_true rfl⟩ (Nat.le_of_ble_eq_true rfl) hE (fun r_121 sh1 μ7 h_121 => ?_)
          obtain ⟨rfl, rfl, k_121⟩ := h_121
          have E8 := E9.rep hd k_121 (fun a (h : a = 2 + 9 * d + 2 ∨ a = 2 + 9 * d + 2 + 1) => by omega)
          exact sx_vret (pc := 124) dX5_endMessage_124 rfl (Nat.zero_le _) (Nat.zero_le _) (⟨rfl, rfl, E8⟩)
        · have h_90f := c_90
          refine sx_aload_n (pc := 93) dX5_endMessage_93 rfl rfl ?_
          refine sx_getr (pc := 94) (ci := 5) (j := 3) (r := 94) dX5_endMessage_94 rfl s_EW rfl (by decide) lf_X5_33 ?_
          refine sx_geti (pc := 97) (ci := 3) (j := 1) dX5_endMessage_97 rfl s_Me rfl (by decide) lf_X5_150 ?_
          refine sx_aload_n (pc := 100) dX5_endMessage_100 rfl rfl ?_
          refine sx_geti (pc := 101) (ci := 2) (j := 4) dX5_endMessage_101 rfl (s_Line _ hd) rfl (by decide) lf_X5_116 ?_
          refine sx_icmp_eq (pc := 104) (tgt := 113) dX5_endMessage_104 (by decide) (fun c_104 => ?_) (fun c_104 => ?_)
          · have h_104t := c_104
            have E9 := ed_q (dv := dv) q0 hp (Or.inr (by rw [← hM2.2.1, h_104t, q0.2.1 4 (by decide)]))
            have hL9 := q0.1.2 hL
            refine sx_aload_n (pc := 113) dX5_endMessage_113 rfl rfl ?_
            refine sx_getr (pc := 114) (ci := 2) (j := 6) (r := 2 + 9 * d + 2) dX5_endMessage_114 rfl (s_Line _ hd) rfl (by decide) lf_X5_57 ?_
            refine sx_aload_n (pc := 117) dX5_endMessage_117 rfl rfl ?_
            refine sx_getr (pc := 118) (ci := 2) (j := 7) (r := 2 + 9 * d + 4) dX5_endMessage_118 rfl (s_Line _ hd) rfl (by decide) lf_X5_143 ?_
            refine sx_callV (pc := 121) (As := [.ref (X.2 + (2 + 9 * d + 4))]) dX5_endMessage_121 (c_copy X Ex hE μ2 _ _ (s_Lsh _ hd) ⟨d, hd, Or.inl rfl⟩ (s_Lke _ hd) ⟨d, hd, Or.inr rfl⟩ hL9) mX4_copy lm_X5_156 rfl (s_Lsh _ hd).1 rfl ⟨Nat.le_of_ble_eq_true rfl, Nat.le_of_ble_eq_true rfl⟩ ⟨Nat.le_of_ble_eq_true rfl, Nat.le_of_ble_eq_true rfl⟩ (Nat.le_of_ble_eq_true rfl) hE (fun r_121 sh1 μ8 h_121 => ?_)
            obtain ⟨rfl, rfl, k_121⟩ := h_121
            have E8 := E9.rep hd k_121 (fun a (h : a = 2 + 9 * d + 2 ∨ a = 2 + 9 * d + 2 + 1) => by omega)
            exact sx_vret (pc := 124) dX5_endMessage_124 rfl (Nat.zero_le _) (Nat.zero_le _) (⟨rfl, rfl, E8⟩)
          · have h_104f := c_104
            refine sx_aload_n (pc := 107) dX5_endMessage_107 rfl rfl ?_
            refine sx_iload_n (pc := 108) dX5_endMessage_108 rfl rfl ?_
            refine sx_aload_n (pc := 109) dX5_endMessage_109 rfl rfl ?_
            refine sx_callV (pc := 110) (As := [.int dv, .ref (X.2 + (2 + 9 * d))]) dX5_endMessage_110 (c_doMessage X Ex hE μ2 hS _ d hd (q0.1.2 hL) hp hM2 q0.2.2.2.1 hn hW (by rw [q0.2.1 3 (by decide)]; exact hg)) mX5_doMessage lm_X5_153 rfl s_EW rfl ⟨Nat.le_of_ble_eq_true rfl, Nat.le_of_ble_eq_true rfl⟩ ⟨Nat.le_of_ble_eq_true rfl, Nat.le_of_ble_eq_true rfl⟩ (Nat.le_of_ble_eq_true rfl) hE (fun r_110 sh1 μ9 h_110 => ?_)
            obtain ⟨rfl, rfl, k_110, l_110, e_110, c_110⟩ := h_110
            have E9 := ed_d q0 hp (fun z => z.elim (fun w => h_90f (by rw [hM2.1]; exact w)) (fun w => h_104f (by rw [hM2.2.1, w, q0.2.1 4 (by decide)]))) k_110 l_110 e_110 c_110
            have hL9 := E9.1.2 hL
            refine sx_aload_n (pc := 113) dX5_endMessage_113 rfl rfl ?_
            refine sx_getr (pc := 114) (ci := 2) (j := 6) (r := 2 + 9 * d + 2) dX5_endMessage_114 rfl (s_Line _ hd) rfl (by decide) lf_X5_57 ?_
            refine sx_aload_n (pc := 117) dX5_endMessage_117 rfl rfl ?_
            refine sx_getr (pc := 118) (ci := 2) (j := 7) (r := 2 + 9 * d + 4) dX5_endMessage_118 rfl (s_Line _ hd) rfl (by decide) lf_X5_143 ?_
            refine sx_callV (pc := 121) (As := [.ref (X.2 + (2 + 9 * d + 4))]) dX5_endMessage_121 (c_copy X Ex hE μ9 _ _ (s_Lsh _ hd) ⟨d, hd, Or.inl rfl⟩ (s_Lke _ hd) ⟨d, hd, Or.inr rfl⟩ hL9) mX4_copy lm_X5_156 rfl (s_Lsh _ hd).1 rfl ⟨Nat.le_of_ble_eq_true rfl, Nat.le_of_ble_eq_true rfl⟩ ⟨Nat.le_of_ble_eq_true rfl, Nat.le_of_ble_eq_true rfl⟩ (Nat.le_of_ble_eq_true rfl) hE (fun r_121 sh1 μ10 h_121 => ?_)
            obtain ⟨rfl, rfl, k_121⟩ := h_121
            have E8 := E9.rep hd k_121 (fun a (h : a = 2 + 9 * d + 2 ∨ a = 2 + 9 * d + 2 + 1) => by omega)
            exact sx_vret (pc := 124) dX5_endMessage_124 rfl (Nat.zero_le _) (Nat.zero_le _) (⟨rfl, rfl, E8⟩)
      · have h_64f := c_64
        refine sx_aload_n (pc := 67) dX5_endMessage_67 rfl rfl ?_
        refine sx_getr (pc := 68) (ci := 2) (j := 6) (r := 2 + 9 * d + 2) dX5_endMessage_68 rfl (s_Line _ hd) rfl (by decide) lf_X5_57 ?_
        refine sx_aload_n (pc := 71) dX5_endMessage_71 rfl rfl ?_
        refine sx_getr (pc := 72) (ci := 5) (j := 3) (r := 94) dX5_endMessage_72 rfl s_EW rfl (by decide) lf_X5_33 ?_
        refine sx_callV (pc := 75) (As := [.ref (X.2 + 94)]) dX5_endMessage_75 (c_writeNo X Ex hE μ2 _ (s_Lsh _ hd) ⟨d, hd, Or.inl rfl⟩) mX4_writeNo lm_X5_146 rfl (s_Lsh _ hd).1 rfl ⟨Nat.le_of_ble_eq_true rfl, Nat.le_of_ble_eq_true rfl⟩ ⟨Nat.le_of_ble_eq_true rfl, Nat.le_of_ble_eq_true rfl⟩ (Nat.le_of_ble_eq_true rfl) hE (fun r_75 sh1 μ11 h_75 => ?_)
        obtain ⟨rfl, rfl, k_75⟩ := h_75
        have E8 := (ed_q (dv := dv) q0 hp (Or.inl (by rw [← hM2.1]; exact h_54f))).rep hd k_75 (fun a (h : a = 2 + 9 * d + 2 ∨ a = 2 + 9 * d + 2 + 1) => by omega)
        refine sx_goto (pc := 78) (tgt := 124) dX5_endMessage_78 (by decide) ?_
        exact sx_vret (pc := 124) dX5_endMessage_124 rfl (Nat.zero_le _) (Nat.zero_le _) (⟨rfl, rfl, E8⟩)
  · have h_22f := c_22
    refine sx_aload_n (pc := 25) dX5_endMessage_25 rfl rfl ?_
    refine sx_dup (pc := 26) dX5_endMessage_26 rfl ?_
    refine sx_geti (pc := 27) (ci := 2) (j := 5) dX5_endMessage_27 rfl (s_Line _ hd) rfl (by decide) lf_X5_122 ?_
    refine sx_iconst (pc := 30) (v := 1) dX5_endMessage_30 (by decide) ?_
    refine sx_iadd (pc := 31) dX5_endMessage_31 ?_
    refine sx_puti (pc := 32) (ci := 2) (j := 5) (ty := .int) dX5_endMessage_32 rfl (s_Line _ hd) rfl (by decide) lf_X5_122 rfl (by decide +kernel) rfl rfl (fun μ12 hμ12 => ?_)
    have E9 := ed_n (dv := dv) hd q0 (hx_12.elim (fun z => absurd (z.1.symm.trans h_22f) (by decide)) (fun z => z.2)) hμ12
    refine sx_aload_n (pc := 35) dX5_endMessage_35 rfl rfl ?_
    refine sx_getr (pc := 36) (ci := 2) (j := 6) (r := 2 + 9 * d + 2) dX5_endMessage_36 rfl (s_Line _ hd) rfl (by decide) lf_X5_57 ?_
    refine sx_callV (pc := 39) (As := []) dX5_endMessage_39 (c_writeWrong X Ex hE μ12 _ (s_Lsh _ hd) ⟨d, hd, Or.inl rfl⟩) mX4_writeWrong lm_X5_137 rfl (s_Lsh _ hd).1 rfl ⟨Nat.le_of_ble_eq_true rfl, Nat.le_of_ble_eq_true rfl⟩ ⟨Nat.le_of_ble_eq_true rfl, Nat.le_of_ble_eq_true rfl⟩ (Nat.le_of_ble_eq_true rfl) hE (fun r_39 sh1 μ13 h_39 => ?_)
    obtain ⟨rfl, rfl, k_39⟩ := h_39
    have E8 := E9.rep hd k_39 (fun a (h : a = 2 + 9 * d + 2 ∨ a = 2 + 9 * d + 2 + 1) => by omega)
    refine sx_goto (pc := 42) (tgt := 124) dX5_endMessage_42 (by decide) ?_
    exact sx_vret (pc := 124) dX5_endMessage_124 rfl (Nat.zero_le _) (Nat.zero_le _) (⟨rfl, rfl, E8⟩)
