theorem eq60 {x : Int32} {n : Nat} (hn : n < 2 ^ 31) (h0 : 0 ≤ x) (h1 : x ≤ nI n) (h2 : ¬ (0 ≤ x ∧ x < nI n)) : x = nI n := by
  obtain ⟨j, hj, rfl⟩ := nI_of (Int32.not_lt.mpr h0)
  rw [nI_leI hj hn] at h1
  have h3 : ¬ j < n := fun q => h2 ⟨h0, nI_lt q hn⟩
  have : j = n := by omega
  rw [this]
theorem b255 : ∀ i, i < 32 → (255#32).getLsbD i = decide (i < 8) := by decide
theorem b_bb (x : BitVec 32) : ((x.setWidth 8).signExtend 32) &&& 255#32 = x &&& 255#32 := by
  apply BitVec.eq_of_getLsbD_eq
  intro i hi
  rw [BitVec.getLsbD_and, BitVec.getLsbD_and, b255 i hi]
  by_cases h : i < 8
  · rw [BitVec.getLsbD_signExtend, BitVec.getLsbD_setWidth]
    simp [h, hi]
  · simp [h]
theorem b_and (b : Int32) : vp_nar .byte b.toInt8.toInt32 &&& 255 = b &&& 255 := by
  show b.toInt8.toInt32.toInt8.toInt32 &&& 255 = b &&& 255
  rw [Int8.toInt8_toInt32]
  apply Int32.toBitVec_inj.mp
  rw [Int32.toBitVec_and, Int32.toBitVec_and, Int8.toBitVec_toInt32, Int32.toBitVec_toInt8, BitVec.signExtend_eq_setWidth_of_le b.toBitVec (by decide)]
  exact b_bb b.toBitVec
theorem Ln.fld {μ μ' : xM} {v v' : VT} {d : Nat} (h : Ln μ v d) (k1 : μ' (2 + 9 * d + 1) = μ (2 + 9 * d + 1)) (k6 : μ' (2 + 9 * d + 6) = μ (2 + 9 * d + 6)) (k7 : μ' (2 + 9 * d + 7) = μ (2 + 9 * d + 7)) (k8 : μ' (2 + 9 * d + 8) = μ (2 + 9 * d + 8)) (f2 : μ' (2 + 9 * d) 2 = lB v' d) (f1 : lB v' d = 0 → μ' (2 + 9 * d) 1 = lS v' d) (f11 : μ' (2 + 9 * d) 11 = lR v' d) (f3 : μ' (2 + 9 * d) 3 = lG v' d) (f4 : μ' (2 + 9 * d) 4 = lD v' d) (f5 : μ' (2 + 9 * d) 5 = lW v' d) (vN : lY v' = lY v) (vK : lK v' = lK v) (vI : lI v' = lI v) (vP : lP v' = lP v) (hR : ∀ j, j < 20 → nI j < lR v' d → nI j < lR v d) : Ln μ' v' d := by
  refine ⟨⟨f2, f1, f11, f3, f4, f5⟩, fun j hj => ?_, fun j hj => ?_⟩
  · show μ' (2 + 9 * d + 1) j = lY v' (60 * d + j) &&& 255
    rw [k1, vN]; exact h.2.1 j hj
  · unfold Rw
    rw [k6, k7, k8, vK, vI, vP]
    exact ⟨fun z => (h.2.2 j hj).1 (hR j hj z), (h.2.2 j hj).2⟩
section OPS
variable {μ μ' : xM} {v : VT} {n : Nat} {dev : Int32} {r : Option Value}
theorem oct_take {b : Int32} (hV : Vc μ v) (hD : VD n v) (hb : isD dev) (hn : μ (2 + 9 * dev.toNatClampNeg) 2 = 0 → ¬ b &&& 255 = 13) (k : Ch (fun a => a = 2 + 9 * dev.toNatClampNeg ∨ a = 2 + 9 * dev.toNatClampNeg + 1) μ μ') (hc : (¬ μ (2 + 9 * dev.toNatClampNeg) 2 = 0 ∧ μ' = μ ∧ r = some (.int (-2))) ∨ (μ (2 + 9 * dev.toNatClampNeg) 2 = 0 ∧ (0 ≤ μ (2 + 9 * dev.toNatClampNeg) 1 ∧ μ (2 + 9 * dev.toNatClampNeg) 1 < 60) ∧ μ' = xup (xup μ (2 + 9 * dev.toNatClampNeg + 1) (μ (2 + 9 * dev.toNatClampNeg) 1).toNatClampNeg (b &&& 255)) (2 + 9 * dev.toNatClampNeg) 1 (μ (2 + 9 * dev.toNatClampNeg) 1 + 1) ∧ r = some (.int (μ (2 + 9 * dev.toNatClampNeg) 1 + 1))) ∨ (μ (2 + 9 * dev.toNatClampNeg) 2 = 0 ∧ ¬ (0 ≤ μ (2 + 9 * dev.toNatClampNeg) 1 ∧ μ (2 + 9 * dev.toNatClampNeg) 1 < 60) ∧ μ' = xup (xup μ (2 + 9 * dev.toNatClampNeg) 1 (μ (2 + 9 * dev.toNatClampNeg) 1 + 1)) (2 + 9 * dev.toNatClampNeg) 2 1 ∧ r = some (.int (-2)))) : Ks μ μ' ∧ Vc μ' (oOct dev b v).1 ∧ r = some (.int (oOct dev b v).2) := by
  have hd := clamp_lt (n := 6) hb.1 hb.2 (by decide)
  have hl := hV.1 _ hd
  have hv := hD.1 _ hd
  have hK : Ks μ μ' := fun a ha => k.1 a (fun z => by rcases z with z | z <;> omega)
  have ho : ∀ e, e < 6 → e ≠ dev.toNatClampNeg → ∀ a, 2 + 9 * e ≤ a → a ≤ 2 + 9 * e + 8 → μ' a = μ a := fun e he hne a a1 a2 => k.1 _ (fun z => by rcases z with z | z <;> omega)
  have h0 : μ' 0 = μ 0 := k.1 0 (fun z => by rcases z with z | z <;> omega)
  have hLB := k.2 hV.2.2.1
  have hH : Hc μ' v.2 := hV.2.2.2.same (fun a a1 a2 => k.1 a (fun z => by rcases z with z | z <;> omega))
  have e6 : μ' (2 + 9 * dev.toNatClampNeg + 6) = μ (2 + 9 * dev.toNatClampNeg + 6) := k.1 _ (fun z => by rcases z with z | z <;> omega)
  have e7 : μ' (2 + 9 * dev.toNatClampNeg + 7) = μ (2 + 9 * dev.toNatClampNeg + 7) := k.1 _ (fun z => by rcases z with z | z <;> omega)
  have e8 : μ' (2 + 9 * dev.toNatClampNeg + 8) = μ (2 + 9 * dev.toNatClampNeg + 8) := k.1 _ (fun z => by rcases z with z | z <;> omega)
  rw [oOct, if_pos hb]
  rcases hc with ⟨a1, a2, rfl⟩ | ⟨a1, a2, a3, rfl⟩ | ⟨a1, a2, a3, rfl⟩
  · rw [if_neg (by rw [← hl.1.1]; exact a1)]
    subst a2
    exact ⟨hK, hV, rfl⟩
  · have hz := hl.1.1.symm.trans a1
    have hcnt := hl.1.2.1 hz
    rw [if_pos hz, if_neg (hn a1), if_neg (by rw [← hcnt]; intro q; rw [q] at a2; exact absurd a2.2 (by decide))]
    have c60 : (lS v dev.toNatClampNeg).toNatClampNeg < 60 := by rw [← hcnt]; exact clamp_lt (n := 60) a2.1 a2.2 (by decide)
    have fo : ∀ j, j ≠ 1 → μ' (2 + 9 * dev.toNatClampNeg) j = μ (2 + 9 * dev.toNatClampNeg) j := fun j hj => by rw [a3, xup_at, if_neg (fun z => hj z.2), xup_at, if_neg (by omega)]
    refine ⟨hK, hV.upd hLB (by rw [h0]; exact hV.2.1) ho (fun e he hne => ⟨⟨rfl, pk_un hne, rfl, rfl, rfl, rfl⟩, fun j hj => pk_un (by omega), fun _ _ => ⟨rfl, rfl, rfl⟩⟩) ⟨⟨by rw [fo 2 (by decide)]; exact hl.1.1, fun _ => by rw [a3, xup_at, if_pos ⟨rfl, rfl⟩, hcnt]; exact pk_us.symm, by rw [fo 11 (by decide)]; exact hl.1.2.2.1, by rw [fo 3 (by decide)]; exact hl.1.2.2.2.1, by rw [fo 4 (by decide)]; exact hl.1.2.2.2.2.1, by rw [fo 5 (by decide)]; exact hl.1.2.2.2.2.2⟩, fun j hj => ?_, fun j hj => ?_⟩ hH, by rw [hcnt]⟩
    · show μ' (2 + 9 * dev.toNatClampNeg + 1) j = upd (lY v) (60 * dev.toNatClampNeg + (lS v dev.toNatClampNeg).toNatClampNeg) (vp_nar .byte b.toInt8.toInt32) (60 * dev.toNatClampNeg + j) &&& 255
      rw [a3, xup_at, if_neg (by omega), xup_at, upd_at, hcnt]
      by_cases y : j = (lS v dev.toNatClampNeg).toNatClampNeg
      · rw [if_pos ⟨rfl, y⟩, if_pos (by omega), b_and]
      · rw [if_neg (fun z => y z.2), if_neg (by omega)]; exact hl.2.1 j hj
    · unfold Rw; rw [e6, e7, e8]; exact hl.2.2 j hj
  · have hz := hl.1.1.symm.trans a1
    have hcnt := hl.1.2.1 hz
    rw [hcnt] at a2
    rw [if_pos hz, if_neg (hn a1), if_pos (show lS v dev.toNatClampNeg = 60 from eq60 (n := 60) (by decide) hv.2.2.1.1 hv.2.2.1.2 a2)]
    have fo : ∀ j, j ≠ 1 → j ≠ 2 → μ' (2 + 9 * dev.toNatClampNeg) j = μ (2 + 9 * dev.toNatClampNeg) j := fun j hj h2 => by rw [a3, xup_at, if_neg (fun z => h2 z.2), xup_at, if_neg (fun z => hj z.2)]
    exact ⟨hK, hV.upd hLB (by rw [h0]; exact hV.2.1) ho (fun e he hne => ⟨⟨pk_un hne, rfl, rfl, rfl, rfl, rfl⟩, fun _ _ => rfl, fun _ _ => ⟨rfl, rfl, rfl⟩⟩) (hl.fld (by rw [a3]; funext z; rw [xup_at, if_neg (by omega), xup_at, if_neg (by omega)]) e6 e7 e8 (by rw [a3, xup_at, if_pos ⟨rfl, rfl⟩]; exact pk_us.symm) (fun q => absurd (pk_us.symm.trans q) (by decide)) (by rw [fo 11 (by decide) (by decide)]; exact hl.1.2.2.1) (by rw [fo 3 (by decide) (by decide)]; exact hl.1.2.2.2.1) (by rw [fo 4 (by decide) (by decide)]; exact hl.1.2.2.2.2.1) (by rw [fo 5 (by decide) (by decide)]; exact hl.1.2.2.2.2.2) rfl rfl rfl rfl (fun _ _ z => z)) hH, rfl⟩
theorem oct_end {b : Int32} (hV : Vc μ v) (hb : isD dev) (hz0 : μ (2 + 9 * dev.toNatClampNeg) 2 = 0) (h13 : b &&& 255 = 13) (k : Ed dev.toNatClampNeg dev (sgf v dev.toNatClampNeg) ((lS v dev.toNatClampNeg).toNatClampNeg) v.2 μ μ') : Ks μ μ' ∧ Vc μ' (oOct dev b v).1 ∧ (oOct dev b v).2 = 0 := by
  have hd := clamp_lt (n := 6) hb.1 hb.2 (by decide)
  have hl := hV.1 _ hd
  have hz := hl.1.1.symm.trans hz0
  rw [oOct, if_pos hb, if_pos hz, if_pos h13]
  obtain ⟨k1, k2, k3, k4⟩ := k
  have Z : ∀ a, ¬ ((57 ≤ a ∧ a ≤ 94) ∨ a = 2 + 9 * dev.toNatClampNeg ∨ (2 + 9 * dev.toNatClampNeg + 2 ≤ a ∧ a ≤ 2 + 9 * dev.toNatClampNeg + 5)) → μ' a = μ a := k1.1
  have hK : Ks μ μ' := fun a ha => Z a (by omega)
  have go : ∀ v' : VT, Hc μ' v'.2 → lM v' = lM v → lY v' = lY v → lB v' = lB v → lK v' = lK v → lI v' = lI v → lP v' = lP v → lR v' = lR v → lS v' = upd (lS v) dev.toNatClampNeg 0 → (∀ e, e ≠ dev.toNatClampNeg → lG v' e = lG v e ∧ lD v' e = lD v e ∧ lW v' e = lW v e) → μ' (2 + 9 * dev.toNatClampNeg) 3 = lG v' dev.toNatClampNeg → μ' (2 + 9 * dev.toNatClampNeg) 4 = lD v' dev.toNatClampNeg → μ' (2 + 9 * dev.toNatClampNeg) 5 = lW v' dev.toNatClampNeg → Vc μ' v' := fun v' w1 w2 w3 w4 w5 w6 w7 w8 w9 w10 w11 w12 w13 => by
    refine hV.upd (k1.2 hV.2.2.1) (by rw [Z 0 (by omega), w2]; exact hV.2.1) (fun e he hne a a1 a2 => Z a (by omega)) (fun e he hne => ⟨⟨by rw [w4], by rw [w9]; exact pk_un hne, by rw [w8], (w10 e hne).1, (w10 e hne).2.1, (w10 e hne).2.2⟩, fun _ _ => by rw [w3], fun _ _ => ⟨by rw [w5], by rw [w6], by rw [w7]⟩⟩) (hl.fld (Z _ (by omega)) (Z _ (by omega)) (Z _ (by omega)) (Z _ (by omega)) (by rw [k2 2 (by decide) (by decide) (by decide) (by decide), w4]; exact hl.1.1) (fun _ => by rw [k3, w9]; exact pk_us.symm) (by rw [k2 11 (by decide) (by decide) (by decide) (by decide), w8]; exact hl.1.2.2.1) w11 w12 w13 w3 w5 w6 w7 (fun _ _ z => by rw [w8] at z; exact z)) w1
  have g3 := hl.1.2.2.2.1
  have g4 := hl.1.2.2.2.2.1
  have g5 := hl.1.2.2.2.2.2
  refine ⟨hK, ?_, rfl⟩
  show Vc μ' (sEnd v dev.toNatClampNeg dev)
  rcases k4 with ⟨p0, q5, q3, q4, hH⟩ | ⟨t, p0, q5, q⟩
  · rw [sEnd_n p0]
    exact go (sBad v dev.toNatClampNeg) hH rfl rfl rfl rfl rfl rfl rfl rfl (fun e hne => ⟨rfl, rfl, pk_un hne⟩) (q3.trans g3) (q4.trans g4) (by rw [q5, g5]; exact pk_us.symm)
  · rw [sEnd_s p0, sMsg]
    rcases q with ⟨c1, q3, q4, hH⟩ | ⟨c1, q4, q⟩
    · rw [g4] at c1
      rw [if_pos c1]
      exact go _ hH rfl rfl rfl rfl rfl rfl rfl rfl (fun e hne => ⟨rfl, rfl, rfl⟩) (q3.trans g3) (q4.trans g4) (q5.trans g5)
    · rw [g4] at c1
      rw [if_neg c1]
      rcases q with ⟨c2, q3, hH⟩ | ⟨c2, q3, hH⟩
      · rw [g3] at c2
        rw [if_pos c2]
        exact go _ hH rfl rfl rfl rfl rfl rfl rfl rfl (fun e hne => ⟨rfl, pk_un hne, rfl⟩) (q3.trans g3) (q4.trans pk_us.symm) (q5.trans g5)
      · rw [g3] at c2
        rw [if_neg c2]
        exact go _ hH rfl rfl rfl rfl rfl rfl rfl rfl (fun e hne => ⟨pk_un hne, pk_un hne, rfl⟩) (q3.trans pk_us.symm) (q4.trans pk_us.symm) (q5.trans g5)
theorem rst_ok (hV : Vc μ v) (hb : isD dev) (k : Ch (fun a => a = 2 + 9 * dev.toNatClampNeg ∨ a = 2 + 9 * dev.toNatClampNeg + 2 ∨ a = 2 + 9 * dev.toNatClampNeg + 4) μ μ') (e1 : μ' (2 + 9 * dev.toNatClampNeg) 1 = 0) (e2 : μ' (2 + 9 * dev.toNatClampNeg) 2 = 0) (e11 : μ' (2 + 9 * dev.toNatClampNeg) 11 = μ (2 + 9 * dev.toNatClampNeg) 11) (e3 : μ' (2 + 9 * dev.toNatClampNeg) 3 = 0) (e4 : μ' (2 + 9 * dev.toNatClampNeg) 4 = (-1)) (e5 : μ' (2 + 9 * dev.toNatClampNeg) 5 = 0) : Ks μ μ' ∧ Vc μ' (oReset dev v) := by
  have hd := clamp_lt (n := 6) hb.1 hb.2 (by decide)
  have hl := hV.1 _ hd
  rw [oReset, if_pos hb]
  exact ⟨fun a ha => k.1 a (fun z => by rcases z with z | z | z <;> omega), hV.upd (k.2 hV.2.2.1) (by rw [k.1 0 (fun z => by rcases z with z | z | z <;> omega)]; exact hV.2.1) (fun e he hne a a1 a2 => k.1 _ (fun z => by rcases z with z | z | z <;> omega)) (fun e he hne => ⟨⟨pk_un hne, pk_un hne, rfl, pk_un hne, pk_un hne, pk_un hne⟩, fun _ _ => rfl, fun _ _ => ⟨rfl, rfl, rfl⟩⟩) (hl.fld (k.1 _ (fun z => by rcases z with z | z | z <;> omega)) (k.1 _ (fun z => by rcases z with z | z | z <;> omega)) (k.1 _ (fun z => by rcases z with z | z | z <;> omega)) (k.1 _ (fun z => by rcases z with z | z | z <;> omega)) (e2.trans pk_us.symm) (fun _ => e1.trans pk_us.symm) (e11.trans hl.1.2.2.1) (e3.trans pk_us.symm) (e4.trans pk_us.symm) (e5.trans pk_us.symm) rfl rfl rfl rfl (fun _ _ z => z)) (hV.2.2.2.same (fun a a1 a2 => k.1 a (fun z => by rcases z with z | z | z <;> omega)))⟩
theorem off_ok {kd it ps kc : Int32} (hV : Vc μ v) (hD : VD n v) (hall : isD dev ∧ (0 ≤ kd ∧ kd < 2) ∧ (0 ≤ it ∧ it < 30) ∧ (0 ≤ ps ∧ ps < 30)) (hkc : kc = if kd = 0 then 67 else 66) (k : Ch (fun a => a = 2 + 9 * dev.toNatClampNeg ∨ a = 2 + 9 * dev.toNatClampNeg + 6 ∨ a = 2 + 9 * dev.toNatClampNeg + 7 ∨ a = 2 + 9 * dev.toNatClampNeg + 8) μ μ') (hc : (¬ (0 ≤ μ (2 + 9 * dev.toNatClampNeg) 11 ∧ μ (2 + 9 * dev.toNatClampNeg) 11 < 20) ∧ μ' = μ ∧ r = some (.int (-2))) ∨ ((0 ≤ μ (2 + 9 * dev.toNatClampNeg) 11 ∧ μ (2 + 9 * dev.toNatClampNeg) 11 < 20) ∧ (∀ j, j ≠ 11 → μ' (2 + 9 * dev.toNatClampNeg) j = μ (2 + 9 * dev.toNatClampNeg) j) ∧ μ' (2 + 9 * dev.toNatClampNeg) 11 = μ (2 + 9 * dev.toNatClampNeg) 11 + 1 ∧ (∀ j, μ' (2 + 9 * dev.toNatClampNeg + 6) j = if j = (μ (2 + 9 * dev.toNatClampNeg) 11).toNatClampNeg then kc else μ (2 + 9 * dev.toNatClampNeg + 6) j) ∧ (∀ j, μ' (2 + 9 * dev.toNatClampNeg + 7) j = if j = (μ (2 + 9 * dev.toNatClampNeg) 11).toNatClampNeg then it else μ (2 + 9 * dev.toNatClampNeg + 7) j) ∧ (∀ j, μ' (2 + 9 * dev.toNatClampNeg + 8) j = if j = (μ (2 + 9 * dev.toNatClampNeg) 11).toNatClampNeg then ps else μ (2 + 9 * dev.toNatClampNeg + 8) j) ∧ r = some (.int (μ (2 + 9 * dev.toNatClampNeg) 11 + 1)))) : Ks μ μ' ∧ Vc μ' (oOff dev kd it ps v).1 ∧ r = some (.int (oOff dev kd it ps v).2) := by
  have hb := hall.1
  have hd := clamp_lt (n := 6) hb.1 hb.2 (by decide)
  have hl := hV.1 _ hd
  have hv := hD.1 _ hd
  rw [oOff, if_pos hall]
  have eR := hl.1.2.2.1
  rcases hc with ⟨a1, a2, rfl⟩ | ⟨a1, fo, a2, f6, f7, f8, rfl⟩
  · rw [eR] at a1
    rw [if_pos (show lR v dev.toNatClampNeg = 20 from eq60 (n := 20) (by decide) hv.2.2.2.1 hv.2.2.2.2 a1)]
    subst a2
    exact ⟨fun _ _ => rfl, hV, rfl⟩
  · rw [eR] at a1 a2 f6 f7 f8
    rw [if_neg (fun q => by rw [q] at a1; exact absurd a1.2 (by decide))]
    obtain ⟨q, hq, eq⟩ := nI_of2 (x := lR v dev.toNatClampNeg) (M := 20) (n := 20) rfl (Int32.not_lt.mpr a1.1) (Int32.le_of_lt a1.2)
    have hq20 : q < 20 := by have := a1.2; rw [eq, show (20 : Int32) = nI 20 from rfl, nI_ltI (by omega) (by decide)] at this; exact this
    have ecl : (lR v dev.toNatClampNeg).toNatClampNeg = q := by rw [eq, nI_clamp (by omega)]
    rw [ecl] at f6 f7 f8
    refine ⟨fun a ha => k.1 a (fun z => by rcases z with z | z | z | z <;> omega), hV.upd (k.2 hV.2.2.1) (by rw [k.1 0 (fun z => by rcases z with z | z | z | z <;> omega)]; exact hV.2.1) (fun e he hne a b1 b2 => k.1 _ (fun z => by rcases z with z | z | z | z <;> omega)) (fun e he hne => ⟨⟨rfl, rfl, pk_un hne, rfl, rfl, rfl⟩, fun _ _ => rfl, fun j hj => ⟨pk_un (show 20 * e + j ≠ 20 * dev.toNatClampNeg + (lR v dev.toNatClampNeg).toNatClampNeg by omega), pk_un (show 20 * e + j ≠ 20 * dev.toNatClampNeg + (lR v dev.toNatClampNeg).toNatClampNeg by omega), pk_un (show 20 * e + j ≠ 20 * dev.toNatClampNeg + (lR v dev.toNatClampNeg).toNatClampNeg by omega)⟩⟩) ⟨⟨by rw [fo 2 (by decide)]; exact hl.1.1, fun z => by rw [fo 1 (by decide)]; exact hl.1.2.1 z, by rw [a2]; exact pk_us.symm, by rw [fo 3 (by decide)]; exact hl.1.2.2.2.1, by rw [fo 4 (by decide)]; exact hl.1.2.2.2.2.1, by rw [fo 5 (by decide)]; exact hl.1.2.2.2.2.2⟩, fun j hj => ?_, fun j hj => ?_⟩ (hV.2.2.2.same (fun a b1 b2 => k.1 a (fun z => by rcases z with z | z | z | z <;> omega))), by rw [eR]⟩
    · rw [k.1 (2 + 9 * dev.toNatClampNeg + 1) (fun z => by rcases z with z | z | z | z <;> omega)]; exact hl.2.1 j hj
    · obtain ⟨r1, r2, r3⟩ := hl.2.2 j hj
      show (nI j < upd (lR v) dev.toNatClampNeg (lR v dev.toNatClampNeg + 1) dev.toNatClampNeg → μ' (2 + 9 * dev.toNatClampNeg + 6) j = if upd (lK v) (20 * dev.toNatClampNeg + (lR v dev.toNatClampNeg).toNatClampNeg) kd (20 * dev.toNatClampNeg + j) = 0 then 67 else 66) ∧ μ' (2 + 9 * dev.toNatClampNeg + 7) j = upd (lI v) (20 * dev.toNatClampNeg + (lR v dev.toNatClampNeg).toNatClampNeg) it (20 * dev.toNatClampNeg + j) ∧ μ' (2 + 9 * dev.toNatClampNeg + 8) j = upd (lP v) (20 * dev.toNatClampNeg + (lR v dev.toNatClampNeg).toNatClampNeg) ps (20 * dev.toNatClampNeg + j)
      rw [ecl, f6, f7, f8, upd_at (lK v), upd_at (lI v), upd_at (lP v), pk_us, eq, nI_1]
      by_cases y : j = q
      · rw [if_pos y, if_pos y, if_pos y, if_pos (show 20 * dev.toNatClampNeg + j = 20 * dev.toNatClampNeg + q by omega), if_pos (show 20 * dev.toNatClampNeg + j = 20 * dev.toNatClampNeg + q by omega), if_pos (show 20 * dev.toNatClampNeg + j = 20 * dev.toNatClampNeg + q by omega)]
        exact ⟨fun _ => hkc, rfl, rfl⟩
      · rw [if_neg y, if_neg y, if_neg y, if_neg (show ¬ 20 * dev.toNatClampNeg + j = 20 * dev.toNatClampNeg + q by omega), if_neg (show ¬ 20 * dev.toNatClampNeg + j = 20 * dev.toNatClampNeg + q by omega), if_neg (show ¬ 20 * dev.toNatClampNeg + j = 20 * dev.toNatClampNeg + q by omega)]
        refine ⟨fun z => r1 ?_, r2, r3⟩
        rw [eq]
        rw [nI_ltI (by omega) (by omega)] at z ⊢
        omega
theorem join_ok (hV : Vc μ v) (hb : isD dev) {μ1 : xM} (k : Ch SC μ μ1) {h : HT} (hH : Hc μ1 h) (hh : (oJoin dev v).1.2 = h) (e : μ' = xup μ1 (2 + 9 * dev.toNatClampNeg) 11 0) : Ks μ μ' ∧ Vc μ' (oJoin dev v).1 := by
  have hd := clamp_lt (n := 6) hb.1 hb.2 (by decide)
  have hl := hV.1 _ hd
  have Z : ∀ a, ¬ (57 ≤ a ∧ a ≤ 94) → μ1 a = μ a := k.1
  have ex : ∀ a, a ≠ 2 + 9 * dev.toNatClampNeg → μ' a = μ1 a := fun a ha => by rw [e]; funext b; rw [xup_at, if_neg (fun q => ha q.1)]
  have ey : ∀ j, j ≠ 11 → μ' (2 + 9 * dev.toNatClampNeg) j = μ (2 + 9 * dev.toNatClampNeg) j := fun j hj => by rw [e, xup_at, if_neg (fun q => hj q.2), Z _ (by omega)]
  have ez : μ' (2 + 9 * dev.toNatClampNeg) 11 = 0 := by rw [e, xup_at, if_pos ⟨rfl, rfl⟩]
  have hH2 : Hc μ' (oJoin dev v).1.2 := by rw [hh]; exact hH.same (fun a a1 a2 => ex a (by omega))
  rw [oJoin, if_pos hb] at hH2 ⊢
  exact ⟨fun a ha => by rw [ex a (by omega), Z a (by omega)], hV.upd (LB.off e ⟨by omega, fun _ _ => by omega⟩ (k.2 hV.2.2.1)) (by rw [ex 0 (by omega), Z 0 (by omega)]; exact hV.2.1) (fun e2 he hne a a1 a2 => by rw [ex a (by omega), Z a (by omega)]) (fun e2 he hne => ⟨⟨rfl, rfl, pk_un hne, rfl, rfl, rfl⟩, fun _ _ => rfl, fun _ _ => ⟨rfl, rfl, rfl⟩⟩) (hl.fld (by rw [ex _ (by omega), Z _ (by omega)]) (by rw [ex _ (by omega), Z _ (by omega)]) (by rw [ex _ (by omega), Z _ (by omega)]) (by rw [ex _ (by omega), Z _ (by omega)]) (by rw [ey 2 (by decide)]; exact hl.1.1) (fun q => by rw [ey 1 (by decide)]; exact hl.1.2.1 q) (ez.trans pk_us.symm) (by rw [ey 3 (by decide)]; exact hl.1.2.2.2.1) (by rw [ey 4 (by decide)]; exact hl.1.2.2.2.2.1) (by rw [ey 5 (by decide)]; exact hl.1.2.2.2.2.2) rfl rfl rfl rfl (fun j hj z => absurd (show nI j < 0 from (pk_us (f := lR v) (x := 0) ▸ z)) (nI_pos (by omega)))) hH2⟩
end OPS
theorem sC_j {h : HT} {dv : Int32} {i p : Nat} {c : Int32} : jud h dv (-1) 67 i p c = sC h dv (-1) i p := jud_C
theorem hw_jl {v : VT} {n : Nat} (hD : VD n v) {dev : Int32} (hb : isD dev) : ∀ j, j ≤ 20 → HW (n + j) (jl v dev j).1 := by
  have hd := clamp_lt (n := 6) hb.1 hb.2 (by decide)
  intro j
  induction j with
  | zero => intro _; exact hD.2.2.2
  | succ j ih =>
    intro hj
    have h1 := ih (by omega)
    have r := hD.2.1 (20 * dev.toNatClampNeg + j) (by omega)
    have hi := clamp_lt (n := 30) r.1.1 r.1.2 (by decide)
    have hp := clamp_lt (n := 30) r.2.1 r.2.2 (by decide)
    show HW (n + (j + 1)) (jst v dev (jl v dev j) j).1
    unfold jst
    split
    · rw [← sC_j (c := 0)]
      exact (hw_jud h1 _ _ _ (fun _ => hi) (fun _ => hp) _)
    · show HW (n + (j + 1)) (sB (jl v dev j).1 dev (-1) _)
      rw [← jud_B (p := 0) (c := 0)]
      exact (hw_jud h1 _ _ _ (fun _ => hi) (fun z => absurd z (by decide)) _)
/-- a row is carried out -/
theorem jst_ok {v : VT} {dev : Int32} {j : Nat} {z : HT × Int32} {m μ' : xM} {x : Int32} (h0 : m 94 0 = if lK v (20 * dev.toNatClampNeg + j) = 0 then 67 else 66) (h3 : m 94 3 = lI v (20 * dev.toNatClampNeg + j)) (h2 : m 94 2 = lP v (20 * dev.toNatClampNeg + j)) (h1 : m 94 1 = (-1)) (hc : Hc μ' (jM z.1 dev m)) (hx : (x = 1 ∧ vM z.1 m) ∨ (x = 0 ∧ ¬ vM z.1 m)) : Hc μ' (jst v dev z j).1 ∧ (x = 0 → (jst v dev z j).2 = z.2) ∧ (¬ x = 0 → (jst v dev z j).2 = z.2 + 1) := by
  unfold jst
  by_cases q : lK v (20 * dev.toNatClampNeg + j) = 0
  · rw [if_pos q] at h0
    have e1 : jM z.1 dev m = sC z.1 dev (-1) ((lI v (20 * dev.toNatClampNeg + j)).toNatClampNeg) ((lP v (20 * dev.toNatClampNeg + j)).toNatClampNeg) := by rw [jM, h0, h1, h2, h3, jud_C]
    have e2 : vM z.1 m = oC z.1 ((lI v (20 * dev.toNatClampNeg + j)).toNatClampNeg) ((lP v (20 * dev.toNatClampNeg + j)).toNatClampNeg) := by rw [vM, h0, h2, h3, vdc_C]
    rw [e1] at hc
    rw [e2] at hx
    rw [if_pos q]
    exact ⟨hc, fun w => if_neg (hx.elim (fun y => absurd (y.1.symm.trans w) (by decide)) (fun y => y.2)), fun w => if_pos (hx.elim (fun y => y.2) (fun y => absurd y.1 w))⟩
  · rw [if_neg q] at h0
    have e1 : jM z.1 dev m = sB z.1 dev (-1) ((lI v (20 * dev.toNatClampNeg + j)).toNatClampNeg) := by rw [jM, h0, h1, h3, jud_B]
    have e2 : vM z.1 m = oB z.1 ((lI v (20 * dev.toNatClampNeg + j)).toNatClampNeg) := by rw [vM, h0, h3, vdc_B]
    rw [e1] at hc
    rw [e2] at hx
    rw [if_neg q]
    exact ⟨hc, fun w => if_neg (hx.elim (fun y => absurd (y.1.symm.trans w) (by decide)) (fun y => y.2)), fun w => if_pos (hx.elim (fun y => y.2) (fun y => absurd y.1 w))⟩
set_option maxHeartbeats 1000000 in
set_option maxRecDepth 20000 in
theorem p_octet (X : xD) (Ex : State → Prop) (hE : xEs X false shA.length Ex) (μ : xM) {sk sv : Nat → Nat} {fm : Option Nat} (hS : ∀ s, Ex s → ExS X sk sv fm s) (dev b : Int32) {v : VT} {n : Nat} (hn : n + 30 < 2 ^ 20) (hV : Vc μ v) (hD : VD n v) : Ct X Ex false yX5_octet kX5_octet (rmN 7) [.ref (X.2 + 0), .int dev, .int b] shA μ (fun r sh' μ' => shA = sh' ∧ Ks μ μ' ∧ Vc μ' ((oOct dev b v).1) ∧ r = some (.int ((oOct dev b v).2))) := by
  refine Ct.of (L0 := [some (.ref (X.2 + 0)), some (.int dev), some (.int b), none, none]) (by decide) rfl (fun h => by cases h) (by simp [Value.category]) (Nat.le_of_ble_eq_true rfl) rfl (fun l => ?_)
  refine sx_iload_n (pc := 0) dX5_octet_0 rfl rfl ?_
  refine sx_bipush (pc := 1) (v := 6) dX5_octet_1 (by decide) ?_
  refine sx_callS (pc := 3) (As := [.int dev, .int 6]) dX5_octet_3 (c_isBelow X Ex false shA μ _ _) mX5_isBelow lm_X5_41 rfl ⟨Nat.le_of_ble_eq_true rfl, Nat.le_of_ble_eq_true rfl⟩ ⟨Nat.le_of_ble_eq_true rfl, Nat.le_of_ble_eq_true rfl⟩ (Nat.le_of_ble_eq_true rfl) hE (fun r_3 sh1 μ1 h_3 => ?_)
  obtain ⟨rfl, rfl, x_3, rfl, hx_3⟩ := h_3
  refine sx_if_ne (pc := 6) (tgt := 11) dX5_octet_6 (by decide) (fun c_6 => ?_) (fun c_6 => ?_)
  · have h_6t := c_6
    have hb := isB_t hx_3 h_6t
    have hd := clamp_lt (n := 6) hb.1 hb.2 (by decide)
    refine sx_aload_n (pc := 11) dX5_octet_11 rfl rfl ?_
    refine sx_getr (pc := 12) (ci := 5) (j := 0) (r := 1) dX5_octet_12 rfl s_EW rfl (by decide) lf_X5_11 ?_
    refine sx_iload_n (pc := 15) dX5_octet_15 rfl rfl ?_
    refine sx_aald (pc := 16) (r := 2 + 9 * dev.toNatClampNeg) dX5_octet_16 s_lines rfl rfl (vp_in_lt (n := 6) hb.1 hb.2 (by decide)) (el_lines _ hd) ?_
    refine sx_astore_n (pc := 17) (L' := [some (.ref (X.2 + 0)), some (.int dev), some (.int b), some (.ref (X.2 + (2 + 9 * dev.toNatClampNeg))), none]) dX5_octet_17 rfl (by decide) rfl ?_
    refine sx_iload_n (pc := 18) dX5_octet_18 rfl rfl ?_
    refine sx_sipush (pc := 19) (v := 255) dX5_octet_19 (by decide) ?_
    refine sx_iand (pc := 22) dX5_octet_22 ?_
    refine sx_istore (pc := 23) (L' := [some (.ref (X.2 + 0)), some (.int dev), some (.int b), some (.ref (X.2 + (2 + 9 * dev.toNatClampNeg))), some (.int (b &&& 255))]) dX5_octet_23 (by decide) rfl ?_
    refine sx_aload_n (pc := 25) dX5_octet_25 rfl rfl ?_
    refine sx_geti (pc := 26) (ci := 2) (j := 2) dX5_octet_26 rfl (s_Line _ hd) rfl (by decide) lf_X5_45 ?_
    refine sx_if_ne (pc := 29) (tgt := 39) dX5_octet_29 (by decide) (fun c_29 => ?_) (fun c_29 => ?_)
    · have h_29t := c_29
      refine sx_aload_n (pc := 39) dX5_octet_39 rfl rfl ?_
      refine sx_iload (pc := 40) dX5_octet_40 rfl ?_
      refine sx_callV (pc := 42) (As := [.int (b &&& 255)]) dX5_octet_42 (c_take X Ex hE μ _ hd _) mX2_take lm_X5_49 rfl (s_Line _ hd) rfl ⟨Nat.le_of_ble_eq_true rfl, Nat.le_of_ble_eq_true rfl⟩ ⟨Nat.le_of_ble_eq_true rfl, Nat.le_of_ble_eq_true rfl⟩ (Nat.le_of_ble_eq_true rfl) hE (fun r_42 sh1 μ2 h_42 => ?_)
      obtain ⟨rfl, k_42, c_42⟩ := h_42
      obtain ⟨q1, q2, rfl⟩ := oct_take (b := b) hV hD hb (by first | exact fun w => absurd w h_29t | exact fun _ => h_36f) k_42 c_42
      exact sx_iret (pc := 45) dX5_octet_45 rfl rfl (Nat.zero_le _) (Nat.zero_le _) (⟨rfl, q1, q2, rfl⟩)
    · have h_29f := c_29
      refine sx_iload (pc := 32) dX5_octet_32 rfl ?_
      refine sx_bipush (pc := 34) (v := 13) dX5_octet_34 (by decide) ?_
      refine sx_icmp_eq (pc := 36) (tgt := 46) dX5_octet_36 (by decide) (fun c_36 => ?_) (fun c_36 => ?_)
      · have h_36t := c_36
        refine sx_aload_n (pc := 46) dX5_octet_46 rfl rfl ?_
        refine sx_iload_n (pc := 47) dX5_octet_47 rfl rfl ?_
        refine sx_aload_n (pc := 48) dX5_octet_48 rfl rfl ?_
        refine sx_callV (pc := 49) (As := [.int dev, .ref (X.2 + (2 + 9 * dev.toNatClampNeg))]) dX5_octet_49 (c_endMessage X Ex hE μ hS _ _ hd hV.2.2.1 (f := sgf v dev.toNatClampNeg) (hV.1 _ hd).2.1 ((lS v dev.toNatClampNeg).toNatClampNeg) (by obtain ⟨z, hz, ez⟩ := nI_of2 (x := lS v dev.toNatClampNeg) (M := 60) (n := 60) rfl (Int32.not_lt.mpr (hD.1 _ hd).2.2.1.1) (hD.1 _ hd).2.2.1.2; rw [ez, nI_clamp (by omega)]; exact hz) (by obtain ⟨z, hz, ez⟩ := nI_of2 (x := lS v dev.toNatClampNeg) (M := 60) (n := 60) rfl (Int32.not_lt.mpr (hD.1 _ hd).2.2.1.1) (hD.1 _ hd).2.2.1.2; rw [(hV.1 _ hd).1.2.1 ((hV.1 _ hd).1.1.symm.trans h_29f), ez, nI_clamp (by omega)]) hV.2.2.2 (by omega) hD.2.2.2 (by rw [(hV.1 _ hd).1.2.2.2.1]; exact (hD.1 _ hd).2.1)) mX5_endMessage lm_X5_53 rfl s_EW rfl ⟨Nat.le_of_ble_eq_true rfl, Nat.le_of_ble_eq_true rfl⟩ ⟨Nat.le_of_ble_eq_true rfl, Nat.le_of_ble_eq_true rfl⟩ (Nat.le_of_ble_eq_true rfl) hE (fun r_49 sh1 μ3 h_49 => ?_)
        obtain ⟨rfl, rfl, k_49⟩ := h_49
        obtain ⟨q1, q2, q3⟩ := oct_end (b := b) hV hb h_29f h_36t k_49
        refine sx_iconst (pc := 52) (v := 0) dX5_octet_52 (by decide) ?_
        exact sx_iret (pc := 53) dX5_octet_53 rfl rfl (Nat.zero_le _) (Nat.zero_le _) (⟨rfl, q1, q2, by rw [q3]⟩)
      · have h_36f := c_36
        refine sx_aload_n (pc := 39) dX5_octet_39 rfl rfl ?_
        refine sx_iload (pc := 40) dX5_octet_40 rfl ?_
        refine sx_callV (pc := 42) (As := [.int (b &&& 255)]) dX5_octet_42 (c_take X Ex hE μ _ hd _) mX2_take lm_X5_49 rfl (s_Line _ hd) rfl ⟨Nat.le_of_ble_eq_true rfl, Nat.le_of_ble_eq_true rfl⟩ ⟨Nat.le_of_ble_eq_true rfl, Nat.le_of_ble_eq_true rfl⟩ (Nat.le_of_ble_eq_true rfl) hE (fun r_42 sh1 μ4 h_42 => ?_)
        obtain ⟨rfl, k_42, c_42⟩ := h_42
        obtain ⟨q1, q2, rfl⟩ := oct_take (b := b) hV hD hb (by first | exact fun w => absurd w h_29t | exact fun _ => h_36f) k_42 c_42
        exact sx_iret (pc := 45) dX5_octet_45 rfl rfl (Nat.zero_le _) (Nat.zero_le _) (⟨rfl, q1, q2, rfl⟩)
  · have h_6f := c_6
    refine sx_iconst (pc := 9) (v := (-1)) dX5_octet_9 (by decide) ?_
    exact sx_iret (pc := 10) dX5_octet_10 rfl rfl (Nat.zero_le _) (Nat.zero_le _) (⟨rfl, fun _ _ => rfl, by rw [oOct, if_neg (isB_f hx_3 h_6f)]; exact hV, by rw [oOct, if_neg (isB_f hx_3 h_6f)]⟩)
set_option maxHeartbeats 1000000 in
set_option maxRecDepth 20000 in
theorem p_reset (X : xD) (Ex : State → Prop) (hE : xEs X false shA.length Ex) (μ : xM) (dev : Int32) {v : VT} {n : Nat} (hn : n + 30 < 2 ^ 20) (hV : Vc μ v) (hD : VD n v) : Ct X Ex false yX5_reset kX5_reset (rmN 2) [.ref (X.2 + 0), .int dev] shA μ (fun r sh' μ' => shA = sh' ∧ Ks μ μ' ∧ Vc μ' (oReset dev v) ∧ ∃ x : Int32, r = some (.int x)) := by
  refine Ct.of (L0 := [some (.ref (X.2 + 0)), some (.int dev), none]) (by decide) rfl (fun h => by cases h) (by simp [Value.category]) (Nat.le_of_ble_eq_true rfl) rfl (fun l => ?_)
  refine sx_iload_n (pc := 0) dX5_reset_0 rfl rfl ?_
  refine sx_bipush (pc := 1) (v := 6) dX5_reset_1 (by decide) ?_
  refine sx_callS (pc := 3) (As := [.int dev, .int 6]) dX5_reset_3 (c_isBelow X Ex false shA μ _ _) mX5_isBelow lm_X5_41 rfl ⟨Nat.le_of_ble_eq_true rfl, Nat.le_of_ble_eq_true rfl⟩ ⟨Nat.le_of_ble_eq_true rfl, Nat.le_of_ble_eq_true rfl⟩ (Nat.le_of_ble_eq_true rfl) hE (fun r_3 sh1 μ1 h_3 => ?_)
  obtain ⟨rfl, rfl, x_3, rfl, hx_3⟩ := h_3
  refine sx_if_ne (pc := 6) (tgt := 11) dX5_reset_6 (by decide) (fun c_6 => ?_) (fun c_6 => ?_)
  · have h_6t := c_6
    have hb := isB_t hx_3 h_6t
    have hd := clamp_lt (n := 6) hb.1 hb.2 (by decide)
    refine sx_aload_n (pc := 11) dX5_reset_11 rfl rfl ?_
    refine sx_getr (pc := 12) (ci := 5) (j := 0) (r := 1) dX5_reset_12 rfl s_EW rfl (by decide) lf_X5_11 ?_
    refine sx_iload_n (pc := 15) dX5_reset_15 rfl rfl ?_
    refine sx_aald (pc := 16) (r := 2 + 9 * dev.toNatClampNeg) dX5_reset_16 s_lines rfl rfl (vp_in_lt (n := 6) hb.1 hb.2 (by decide)) (el_lines _ hd) ?_
    refine sx_geti (pc := 17) (ci := 2) (j := 1) dX5_reset_17 rfl (s_Line _ hd) rfl (by decide) lf_X5_77 ?_
    refine sx_istore_n (pc := 20) (L' := [some (.ref (X.2 + 0)), some (.int dev), some (.int (μ (2 + 9 * dev.toNatClampNeg) 1))]) dX5_reset_20 rfl (by decide) rfl ?_
    refine sx_aload_n (pc := 21) dX5_reset_21 rfl rfl ?_
    refine sx_getr (pc := 22) (ci := 5) (j := 0) (r := 1) dX5_reset_22 rfl s_EW rfl (by decide) lf_X5_11 ?_
    refine sx_iload_n (pc := 25) dX5_reset_25 rfl rfl ?_
    refine sx_aald (pc := 26) (r := 2 + 9 * dev.toNatClampNeg) dX5_reset_26 s_lines rfl rfl (vp_in_lt (n := 6) hb.1 hb.2 (by decide)) (el_lines _ hd) ?_
    refine sx_callV (pc := 27) (As := []) dX5_reset_27 (c_clear X Ex hE μ _ hd) mX2_clear lm_X5_80 rfl (s_Line _ hd) rfl ⟨Nat.le_of_ble_eq_true rfl, Nat.le_of_ble_eq_true rfl⟩ ⟨Nat.le_of_ble_eq_true rfl, Nat.le_of_ble_eq_true rfl⟩ (Nat.le_of_ble_eq_true rfl) hE (fun r_27 sh1 μ2 h_27 => ?_)
    obtain ⟨rfl, rfl, k_27, a1, a2, a3, a4, a5, a6⟩ := h_27
    obtain ⟨q1, q2⟩ := rst_ok hV hb k_27 a1 a2 a3 a4 a5 a6
    refine sx_iload_n (pc := 30) dX5_reset_30 rfl rfl ?_
    exact sx_iret (pc := 31) dX5_reset_31 rfl rfl (Nat.zero_le _) (Nat.zero_le _) (⟨rfl, q1, q2, _, rfl⟩)
  · have h_6f := c_6
    refine sx_iconst (pc := 9) (v := (-1)) dX5_reset_9 (by decide) ?_
    exact sx_iret (pc := 10) dX5_reset_10 rfl rfl (Nat.zero_le _) (Nat.zero_le _) (⟨rfl, fun _ _ => rfl, by rw [oReset, if_neg (isB_f hx_3 h_6f)]; exact hV, _, rfl⟩)
set_option maxHeartbeats 1000000 in
set_option maxRecDepth 20000 in
theorem p_offline (X : xD) (Ex : State → Prop) (hE : xEs X false shA.length Ex) (μ : xM) (dev kd it ps : Int32) {v : VT} {n : Nat} (hn : n + 30 < 2 ^ 20) (hV : Vc μ v) (hD : VD n v) : Ct X Ex false yX5_offline kX5_offline (rmN 2) [.ref (X.2 + 0), .int dev, .int kd, .int it, .int ps] shA μ (fun r sh' μ' => shA = sh' ∧ Ks μ μ' ∧ Vc μ' ((oOff dev kd it ps v).1) ∧ r = some (.int ((oOff dev kd it ps v).2))) := by
  refine Ct.of (L0 := [some (.ref (X.2 + 0)), some (.int dev), some (.int kd), some (.int it), some (.int ps), none]) (by decide) rfl (fun h => by cases h) (by simp [Value.category]) (Nat.le_of_ble_eq_true rfl) rfl (fun l => ?_)
  refine sx_iload_n (pc := 0) dX5_offline_0 rfl rfl ?_
  refine sx_bipush (pc := 1) (v := 6) dX5_offline_1 (by decide) ?_
  refine sx_callS (pc := 3) (As := [.int dev, .int 6]) dX5_offline_3 (c_isBelow X Ex false shA μ _ _) mX5_isBelow lm_X5_41 rfl ⟨Nat.le_of_ble_eq_true rfl, Nat.le_of_ble_eq_true rfl⟩ ⟨Nat.le_of_ble_eq_true rfl, Nat.le_of_ble_eq_true rfl⟩ (Nat.le_of_ble_eq_true rfl) hE (fun r_3 sh1 μ1 h_3 => ?_)
  obtain ⟨rfl, rfl, x_3, rfl, hx_3⟩ := h_3
  refine sx_if_eq (pc := 6) (tgt := 40) dX5_offline_6 (by decide) (fun c_6 => ?_) (fun c_6 => ?_)
  · have h_6t := c_6
    refine sx_iconst (pc := 40) (v := 0) dX5_offline_40 (by decide) ?_
    refine sx_istore (pc := 41) (L' := [some (.ref (X.2 + 0)), some (.int dev), some (.int kd), some (.int it), some (.int ps), some (.int 0)]) dX5_offline_41 (by decide) rfl ?_
    refine sx_iload (pc := 43) dX5_offline_43 rfl ?_
    refine sx_if_ne (pc := 45) (tgt := 50) dX5_offline_45 (by decide) (fun c_45 => absurd c_45 (by decide)) (fun c_45 => ?_)
    refine sx_iconst (pc := 48) (v := (-1)) dX5_offline_48 (by decide) ?_
    exact sx_iret (pc := 49) dX5_offline_49 rfl rfl (Nat.zero_le _) (Nat.zero_le _) (⟨rfl, fun _ _ => rfl, by rw [oOff, if_neg (by rintro ⟨z1, z2, z3, z4⟩; first | exact isB_f hx_3 h_6t z1 | exact isB_f hx_11 h_14t z2 | exact isB_f hx_20 h_23t z3 | exact isB_f hx_30 h_33t z4)]; exact hV, by rw [oOff, if_neg (by rintro ⟨z1, z2, z3, z4⟩; first | exact isB_f hx_3 h_6t z1 | exact isB_f hx_11 h_14t z2 | exact isB_f hx_20 h_23t z3 | exact isB_f hx_30 h_33t z4)]⟩)
  · have h_6f := c_6
    refine sx_iload_n (pc := 9) dX5_offline_9 rfl rfl ?_
    refine sx_iconst (pc := 10) (v := 2) dX5_offline_10 (by decide) ?_
    refine sx_callS (pc := 11) (As := [.int kd, .int 2]) dX5_offline_11 (c_isBelow X Ex false shA μ _ _) mX5_isBelow lm_X5_41 rfl ⟨Nat.le_of_ble_eq_true rfl, Nat.le_of_ble_eq_true rfl⟩ ⟨Nat.le_of_ble_eq_true rfl, Nat.le_of_ble_eq_true rfl⟩ (Nat.le_of_ble_eq_true rfl) hE (fun r_11 sh1 μ2 h_11 => ?_)
    obtain ⟨rfl, rfl, x_11, rfl, hx_11⟩ := h_11
    refine sx_if_eq (pc := 14) (tgt := 40) dX5_offline_14 (by decide) (fun c_14 => ?_) (fun c_14 => ?_)
    · have h_14t := c_14
      refine sx_iconst (pc := 40) (v := 0) dX5_offline_40 (by decide) ?_
      refine sx_istore (pc := 41) (L' := [some (.ref (X.2 + 0)), some (.int dev), some (.int kd), some (.int it), some (.int ps), some (.int 0)]) dX5_offline_41 (by decide) rfl ?_
      refine sx_iload (pc := 43) dX5_offline_43 rfl ?_
      refine sx_if_ne (pc := 45) (tgt := 50) dX5_offline_45 (by decide) (fun c_45 => absurd c_45 (by decide)) (fun c_45 => ?_)
      refine sx_iconst (pc := 48) (v := (-1)) dX5_offline_48 (by decide) ?_
      exact sx_iret (pc := 49) dX5_offline_49 rfl rfl (Nat.zero_le _) (Nat.zero_le _) (⟨rfl, fun _ _ => rfl, by rw [oOff, if_neg (by rintro ⟨z1, z2, z3, z4⟩; first | exact isB_f hx_3 h_6t z1 | exact isB_f hx_11 h_14t z2 | exact isB_f hx_20 h_23t z3 | exact isB_f hx_30 h_33t z4)]; exact hV, by rw [oOff, if_neg (by rintro ⟨z1, z2, z3, z4⟩; first | exact isB_f hx_3 h_6t z1 | exact isB_f hx_11 h_14t z2 | exact isB_f hx_20 h_23t z3 | exact isB_f hx_30 h_33t z4)]⟩)
    · have h_14f := c_14
      refine sx_iload_n (pc := 17) dX5_offline_17 rfl rfl ?_
      refine sx_bipush (pc := 18) (v := 30) dX5_offline_18 (by decide) ?_
      refine sx_callS (pc := 20) (As := [.int it, .int 30]) dX5_offline_20 (c_isBelow X Ex false shA μ _ _) mX5_isBelow lm_X5_41 rfl ⟨Nat.le_of_ble_eq_true rfl, Nat.le_of_ble_eq_true rfl⟩ ⟨Nat.le_of_ble_eq_true rfl, Nat.le_of_ble_eq_true rfl⟩ (Nat.le_of_ble_eq_true rfl) hE (fun r_20 sh1 μ3 h_20 => ?_)
      obtain ⟨rfl, rfl, x_20, rfl, hx_20⟩ := h_20
      refine sx_if_eq (pc := 23) (tgt := 40) dX5_offline_23 (by decide) (fun c_23 => ?_) (fun c_23 => ?_)
      · have h_23t := c_23
        refine sx_iconst (pc := 40) (v := 0) dX5_offline_40 (by decide) ?_
        refine sx_istore (pc := 41) (L' := [some (.ref (X.2 + 0)), some (.int dev), some (.int kd), some (.int it), some (.int ps), some (.int 0)]) dX5_offline_41 (by decide) rfl ?_
        refine sx_iload (pc := 43) dX5_offline_43 rfl ?_
        refine sx_if_ne (pc := 45) (tgt := 50) dX5_offline_45 (by decide) (fun c_45 => absurd c_45 (by decide)) (fun c_45 => ?_)
        refine sx_iconst (pc := 48) (v := (-1)) dX5_offline_48 (by decide) ?_
        exact sx_iret (pc := 49) dX5_offline_49 rfl rfl (Nat.zero_le _) (Nat.zero_le _) (⟨rfl, fun _ _ => rfl, by rw [oOff, if_neg (by rintro ⟨z1, z2, z3, z4⟩; first | exact isB_f hx_3 h_6t z1 | exact isB_f hx_11 h_14t z2 | exact isB_f hx_20 h_23t z3 | exact isB_f hx_30 h_33t z4)]; exact hV, by rw [oOff, if_neg (by rintro ⟨z1, z2, z3, z4⟩; first | exact isB_f hx_3 h_6t z1 | exact isB_f hx_11 h_14t z2 | exact isB_f hx_20 h_23t z3 | exact isB_f hx_30 h_33t z4)]⟩)
      · have h_23f := c_23
        refine sx_iload (pc := 26) dX5_offline_26 rfl ?_
        refine sx_bipush (pc := 28) (v := 30) dX5_offline_28 (by decide) ?_
        refine sx_callS (pc := 30) (As := [.int ps, .int 30]) dX5_offline_30 (c_isBelow X Ex false shA μ _ _) mX5_isBelow lm_X5_41 rfl ⟨Nat.le_of_ble_eq_true rfl, Nat.le_of_ble_eq_true rfl⟩ ⟨Nat.le_of_ble_eq_true rfl, Nat.le_of_ble_eq_true rfl⟩ (Nat.le_of_ble_eq_true rfl) hE (fun r_30 sh1 μ4 h_30 => ?_)
        obtain ⟨rfl, rfl, x_30, rfl, hx_30⟩ := h_30
        refine sx_if_eq (pc := 33) (tgt := 40) dX5_offline_33 (by decide) (fun c_33 => ?_) (fun c_33 => ?_)
        · have h_33t := c_33
          refine sx_iconst (pc := 40) (v := 0) dX5_offline_40 (by decide) ?_
          refine sx_istore (pc := 41) (L' := [some (.ref (X.2 + 0)), some (.int dev), some (.int kd), some (.int it), some (.int ps), some (.int 0)]) dX5_offline_41 (by decide) rfl ?_
          refine sx_iload (pc := 43) dX5_offline_43 rfl ?_
          refine sx_if_ne (pc := 45) (tgt := 50) dX5_offline_45 (by decide) (fun c_45 => absurd c_45 (by decide)) (fun c_45 => ?_)
          refine sx_iconst (pc := 48) (v := (-1)) dX5_offline_48 (by decide) ?_
          exact sx_iret (pc := 49) dX5_offline_49 rfl rfl (Nat.zero_le _) (Nat.zero_le _) (⟨rfl, fun _ _ => rfl, by rw [oOff, if_neg (by rintro ⟨z1, z2, z3, z4⟩; first | exact isB_f hx_3 h_6t z1 | exact isB_f hx_11 h_14t z2 | exact isB_f hx_20 h_23t z3 | exact isB_f hx_30 h_33t z4)]; exact hV, by rw [oOff, if_neg (by rintro ⟨z1, z2, z3, z4⟩; first | exact isB_f hx_3 h_6t z1 | exact isB_f hx_11 h_14t z2 | exact isB_f hx_20 h_23t z3 | exact isB_f hx_30 h_33t z4)]⟩)
        · have h_33f := c_33
          have hb := isB_t hx_3 h_6f
          have hd := clamp_lt (n := 6) hb.1 hb.2 (by decide)
          refine sx_iconst (pc := 36) (v := 1) dX5_offline_36 (by decide) ?_
          refine sx_goto (pc := 37) (tgt := 41) dX5_offline_37 (by decide) ?_
          refine sx_istore (pc := 41) (L' := [some (.ref (X.2 + 0)), some (.int dev), some (.int kd), some (.int it), some (.int ps), some (.int 1)]) dX5_offline_41 (by decide) rfl ?_
          refine sx_iload (pc := 43) dX5_offline_43 rfl ?_
          refine sx_if_ne (pc := 45) (tgt := 50) dX5_offline_45 (by decide) (fun c_45 => ?_) (fun c_45 => absurd c_45 (by decide))
          refine sx_aload_n (pc := 50) dX5_offline_50 rfl rfl ?_
          refine sx_getr (pc := 51) (ci := 5) (j := 0) (r := 1) dX5_offline_51 rfl s_EW rfl (by decide) lf_X5_11 ?_
          refine sx_iload_n (pc := 54) dX5_offline_54 rfl rfl ?_
          refine sx_aald (pc := 55) (r := 2 + 9 * dev.toNatClampNeg) dX5_offline_55 s_lines rfl rfl (vp_in_lt (n := 6) hb.1 hb.2 (by decide)) (el_lines _ hd) ?_
          refine sx_iload_n (pc := 56) dX5_offline_56 rfl rfl ?_
          refine sx_if_ne (pc := 57) (tgt := 65) dX5_offline_57 (by decide) (fun c_57 => ?_) (fun c_57 => ?_)
          · have h_57t := c_57
            refine sx_bipush (pc := 65) (v := 66) dX5_offline_65 (by decide) ?_
            refine sx_iload_n (pc := 67) dX5_offline_67 rfl rfl ?_
            refine sx_iload (pc := 68) dX5_offline_68 rfl ?_
            refine sx_callV (pc := 70) (As := [.int 66, .int it, .int ps]) dX5_offline_70 (c_addRow X Ex hE μ _ hd _ _ _) mX2_addRow lm_X5_83 rfl (s_Line _ hd) rfl ⟨Nat.le_of_ble_eq_true rfl, Nat.le_of_ble_eq_true rfl⟩ ⟨Nat.le_of_ble_eq_true rfl, Nat.le_of_ble_eq_true rfl⟩ (Nat.le_of_ble_eq_true rfl) hE (fun r_70 sh1 μ5 h_70 => ?_)
            obtain ⟨rfl, k_70, c_70⟩ := h_70
            obtain ⟨q1, q2, rfl⟩ := off_ok (kd := kd) hV hD ⟨isB_t hx_3 h_6f, isB_t hx_11 h_14f, isB_t hx_20 h_23f, isB_t hx_30 h_33f⟩ (by first | exact (if_pos h_57f).symm | exact (if_neg h_57t).symm) k_70 c_70
            exact sx_iret (pc := 73) dX5_offline_73 rfl rfl (Nat.zero_le _) (Nat.zero_le _) (⟨rfl, q1, q2, rfl⟩)
          · have h_57f := c_57
            refine sx_bipush (pc := 60) (v := 67) dX5_offline_60 (by decide) ?_
            refine sx_goto (pc := 62) (tgt := 67) dX5_offline_62 (by decide) ?_
            refine sx_iload_n (pc := 67) dX5_offline_67 rfl rfl ?_
            refine sx_iload (pc := 68) dX5_offline_68 rfl ?_
            refine sx_callV (pc := 70) (As := [.int 67, .int it, .int ps]) dX5_offline_70 (c_addRow X Ex hE μ _ hd _ _ _) mX2_addRow lm_X5_83 rfl (s_Line _ hd) rfl ⟨Nat.le_of_ble_eq_true rfl, Nat.le_of_ble_eq_true rfl⟩ ⟨Nat.le_of_ble_eq_true rfl, Nat.le_of_ble_eq_true rfl⟩ (Nat.le_of_ble_eq_true rfl) hE (fun r_70 sh1 μ6 h_70 => ?_)
            obtain ⟨rfl, k_70, c_70⟩ := h_70
            obtain ⟨q1, q2, rfl⟩ := off_ok (kd := kd) hV hD ⟨isB_t hx_3 h_6f, isB_t hx_11 h_14f, isB_t hx_20 h_23f, isB_t hx_30 h_33f⟩ (by first | exact (if_pos h_57f).symm | exact (if_neg h_57t).symm) k_70 c_70
            exact sx_iret (pc := 73) dX5_offline_73 rfl rfl (Nat.zero_le _) (Nat.zero_le _) (⟨rfl, q1, q2, rfl⟩)
theorem hx_O {μ μ1 : xM} {h : HT} (hX : Hx μ h) {p : Nat} {c : Int32} (e1 : μ1 = xup μ 57 p c) : Hx μ1 (upd (vO h) p c, h.2) := by
  have k : ∀ a, a ≠ 57 → μ1 a = μ a := fun a a1 => by rw [e1]; funext b; rw [xup_at, if_neg (fun z => a1 z.1)]
  intro e he
  obtain ⟨x1, x2, x3, x4, x5⟩ := hX e he
  refine ⟨?_, by rw [k 58 (by omega)]; exact x2, by rw [k 59 (by omega)]; exact x3, by rw [k 91 (by omega)]; exact x4, by rw [k (61 + e) (by omega)]; exact x5⟩
  show μ1 57 e = upd (vO h) p c e
  rw [e1, xup_at, upd_at]
  by_cases y : e = p
  · rw [if_pos ⟨rfl, y⟩, if_pos y]
  · rw [if_neg (fun z => y z.2), if_neg y]; exact x1
set_option maxHeartbeats 1000000 in
set_option maxRecDepth 20000 in
theorem p_owes (X : xD) (Ex : State → Prop) (hE : xEs X false shA.length Ex) (μ : xM) (pr c : Int32) {v : VT} {n : Nat} (hn : n + 30 < 2 ^ 20) (hV : Vc μ v) (hD : VD n v) : Ct X Ex false yX5_owes kX5_owes (rmN 1) [.ref (X.2 + 0), .int pr, .int c] shA μ (fun r sh' μ' => shA = sh' ∧ Ks μ μ' ∧ Vc μ' ((oOwes pr c v).1) ∧ r = some (.int ((oOwes pr c v).2))) := by
  refine Ct.of (L0 := [some (.ref (X.2 + 0)), some (.int pr), some (.int c), none]) (by decide) rfl (fun h => by cases h) (by simp [Value.category]) (Nat.le_of_ble_eq_true rfl) rfl (fun l => ?_)
  refine sx_iload_n (pc := 0) dX5_owes_0 rfl rfl ?_
  refine sx_bipush (pc := 1) (v := 30) dX5_owes_1 (by decide) ?_
  refine sx_callS (pc := 3) (As := [.int pr, .int 30]) dX5_owes_3 (c_isBelow X Ex false shA μ _ _) mX5_isBelow lm_X5_41 rfl ⟨Nat.le_of_ble_eq_true rfl, Nat.le_of_ble_eq_true rfl⟩ ⟨Nat.le_of_ble_eq_true rfl, Nat.le_of_ble_eq_true rfl⟩ (Nat.le_of_ble_eq_true rfl) hE (fun r_3 sh1 μ1 h_3 => ?_)
  obtain ⟨rfl, rfl, x_3, rfl, hx_3⟩ := h_3
  refine sx_if_eq (pc := 6) (tgt := 19) dX5_owes_6 (by decide) (fun c_6 => ?_) (fun c_6 => ?_)
  · have h_6t := c_6
    refine sx_iconst (pc := 19) (v := (-1)) dX5_owes_19 (by decide) ?_
    exact sx_iret (pc := 20) dX5_owes_20 rfl rfl (Nat.zero_le _) (Nat.zero_le _) (⟨rfl, fun _ _ => rfl, by rw [oOwes, if_neg (by rintro ⟨z1, z2, z3⟩; first | exact isB_f hx_3 h_6t z1 | exact absurd h_10t (Int32.not_lt.mpr z2) | exact h_16f z3)]; exact hV, by rw [oOwes, if_neg (by rintro ⟨z1, z2, z3⟩; first | exact isB_f hx_3 h_6t z1 | exact absurd h_10t (Int32.not_lt.mpr z2) | exact h_16f z3)]⟩)
  · have h_6f := c_6
    refine sx_iload_n (pc := 9) dX5_owes_9 rfl rfl ?_
    refine sx_if_lt (pc := 10) (tgt := 19) dX5_owes_10 (by decide) (fun c_10 => ?_) (fun c_10 => ?_)
    · have h_10t := c_10
      refine sx_iconst (pc := 19) (v := (-1)) dX5_owes_19 (by decide) ?_
      exact sx_iret (pc := 20) dX5_owes_20 rfl rfl (Nat.zero_le _) (Nat.zero_le _) (⟨rfl, fun _ _ => rfl, by rw [oOwes, if_neg (by rintro ⟨z1, z2, z3⟩; first | exact isB_f hx_3 h_6t z1 | exact absurd h_10t (Int32.not_lt.mpr z2) | exact h_16f z3)]; exact hV, by rw [oOwes, if_neg (by rintro ⟨z1, z2, z3⟩; first | exact isB_f hx_3 h_6t z1 | exact absurd h_10t (Int32.not_lt.mpr z2) | exact h_16f z3)]⟩)
    · have h_10f := c_10
      refine sx_iload_n (pc := 13) dX5_owes_13 rfl rfl ?_
      refine sx_ldc (pc := 14) dX5_owes_14 ld_X5_107 ?_
      refine sx_icmp_le (pc := 16) (tgt := 21) dX5_owes_16 (by decide) (fun c_16 => ?_) (fun c_16 => ?_)
      · have h_16t := c_16
        refine sx_aload_n (pc := 21) dX5_owes_21 rfl rfl ?_
        refine sx_getr (pc := 22) (ci := 5) (j := 1) (r := 56) dX5_owes_22 rfl s_EW rfl (by decide) lf_X5_19 ?_
        refine sx_getr (pc := 25) (ci := 0) (j := 0) (r := 57) dX5_owes_25 rfl s_Ho rfl (by decide) lf_X5_108 ?_
        refine sx_iload_n (pc := 28) dX5_owes_28 rfl rfl ?_
        refine sx_iald (pc := 29) dX5_owes_29 s_debts (by decide) rfl (vp_in_lt (n := 30) (isB_t hx_3 h_6f).1 (isB_t hx_3 h_6f).2 (by decide)) ?_
        refine sx_istore_n (pc := 30) (L' := [some (.ref (X.2 + 0)), some (.int pr), some (.int c), some (.int (μ 57 pr.toNatClampNeg))]) dX5_owes_30 rfl (by decide) rfl ?_
        refine sx_aload_n (pc := 31) dX5_owes_31 rfl rfl ?_
        refine sx_getr (pc := 32) (ci := 5) (j := 1) (r := 56) dX5_owes_32 rfl s_EW rfl (by decide) lf_X5_19 ?_
        refine sx_getr (pc := 35) (ci := 0) (j := 0) (r := 57) dX5_owes_35 rfl s_Ho rfl (by decide) lf_X5_108 ?_
        refine sx_iload_n (pc := 38) dX5_owes_38 rfl rfl ?_
        refine sx_iload_n (pc := 39) dX5_owes_39 rfl rfl ?_
        refine sx_iast (pc := 40) dX5_owes_40 s_debts (by decide) rfl (vp_in_lt (n := 30) (isB_t hx_3 h_6f).1 (isB_t hx_3 h_6f).2 (by decide)) (fun μ2 hμ2 => ?_)
        refine sx_iload_n (pc := 41) dX5_owes_41 rfl rfl ?_
        exact sx_iret (pc := 42) dX5_owes_42 rfl rfl (Nat.zero_le _) (Nat.zero_le _) (by have k : Ch SC μ _ := (Ch.put (Ch.rf) hμ2 (show SC 57 by show 57 ≤ 57 ∧ 57 ≤ 94; omega) (LB.off hμ2 ⟨by omega, fun _ _ => by omega⟩)); have ok : (0 ≤ pr ∧ pr < 30) ∧ 0 ≤ c ∧ c ≤ 100000 := ⟨isB_t hx_3 h_6f, Int32.not_lt.mp h_10f, h_16t⟩; have hx57 := (hV.2.2.2.1 _ (clamp_lt (n := 30) ok.1.1 ok.1.2 (by decide))).1; exact ⟨rfl, fun a ha => k.1 a (by show ¬ (57 ≤ a ∧ a ≤ 94); omega), by rw [oOwes, if_pos ok]; exact hV.lines (k.2 hV.2.2.1) (by rw [k.1 0 (by show ¬ (57 ≤ 0 ∧ 0 ≤ 94); omega)]; exact hV.2.1) (fun a a1 a2 => k.1 a (by show ¬ (57 ≤ a ∧ a ≤ 94); omega)) (fun _ _ => Lv.rf) ⟨hx_O hV.2.2.2.1 hμ2, hV.2.2.2.2.same (by rw [hμ2]; rfl) (by rw [hμ2]; rfl)⟩, by rw [oOwes, if_pos ok, hx57]⟩)
      · have h_16f := c_16
        refine sx_iconst (pc := 19) (v := (-1)) dX5_owes_19 (by decide) ?_
        exact sx_iret (pc := 20) dX5_owes_20 rfl rfl (Nat.zero_le _) (Nat.zero_le _) (⟨rfl, fun _ _ => rfl, by rw [oOwes, if_neg (by rintro ⟨z1, z2, z3⟩; first | exact isB_f hx_3 h_6t z1 | exact absurd h_10t (Int32.not_lt.mpr z2) | exact h_16f z3)]; exact hV, by rw [oOwes, if_neg (by rintro ⟨z1, z2, z3⟩; first | exact isB_f hx_3 h_6t z1 | exact absurd h_10t (Int32.not_lt.mpr z2) | exact h_16f z3)]⟩)
set_option maxHeartbeats 1000000 in
set_option maxRecDepth 20000 in
theorem p_acts (X : xD) (Ex : State → Prop) (hE : xEs X false shA.length Ex) (μ : xM) {v : VT} {n : Nat} (hn : n + 30 < 2 ^ 20) (hV : Vc μ v) (hD : VD n v) : Ct X Ex false yX5_acts kX5_acts (rmN 0) [.ref (X.2 + 0)] shA μ (fun r sh' μ' => shA = sh' ∧ Ks μ μ' ∧ Vc μ' (v) ∧ r = some (.int (oActs v))) := by
  refine Ct.of (L0 := [some (.ref (X.2 + 0))]) (by decide) rfl (fun h => by cases h) (by simp [Value.category]) (Nat.le_of_ble_eq_true rfl) rfl (fun l => ?_)
  refine sx_aload_n (pc := 0) dX5_acts_0 rfl rfl ?_
  refine sx_getr (pc := 1) (ci := 5) (j := 2) (r := 92) dX5_acts_1 rfl s_EW rfl (by decide) lf_X5_26 ?_
  refine sx_geti (pc := 4) (ci := 1) (j := 1) dX5_acts_4 rfl s_Jo rfl (by decide) lf_X5_111 ?_
  exact sx_iret (pc := 7) dX5_acts_7 rfl rfl (Nat.zero_le _) (Nat.zero_le _) (⟨rfl, fun _ _ => rfl, hV, by rw [oActs, ← hV.2.2.2.2.1]⟩)
theorem tix {i w c : Int32} (h : 0 ≤ i ∧ i < (if 1000 < c then 1000 else c)) (hw : 0 ≤ w ∧ w < 5) : vp_in (i * 5 + w) 5000 := by
  obtain ⟨a, ha, rfl⟩ := nI_of (Int32.not_lt.mpr h.1)
  obtain ⟨b, hb, rfl⟩ := nI_of (Int32.not_lt.mpr hw.1)
  have h1 : nI a < nI 1000 := by
    have h2 := h.2
    split at h2
    · exact h2
    · exact Int32.lt_of_lt_of_le h2 (Int32.not_lt.mp (by assumption))
  have h2 : nI b < nI 5 := hw.2
  rw [nI_ltI (by omega) (by omega)] at h1 h2
  rw [show (5 : Int32) = nI 5 from rfl, pk_mul, nI_add]
  exact vp_in_nI (by omega) (by decide)
theorem min_lt {i c : Int32} : (0 ≤ i ∧ i < (if 1000 < c then 1000 else c)) ↔ (0 ≤ i ∧ i < c) ∧ i < 1000 := by
  by_cases h : 1000 < c
  · rw [if_pos h]
    exact ⟨fun z => ⟨⟨z.1, Int32.lt_trans z.2 h⟩, z.2⟩, fun z => ⟨z.1.1, z.2⟩⟩
  · rw [if_neg h]
    exact ⟨fun z => ⟨z, Int32.lt_of_lt_of_le z.2 (Int32.not_lt.mp h)⟩, fun z => z.1⟩
set_option maxHeartbeats 1000000 in
set_option maxRecDepth 20000 in
theorem c_tell (X : xD) (Ex : State → Prop) (hE : xEs X false shA.length Ex) (μ : xM) (i w : Int32) : Ct X Ex false yX1_tell kX1_tell (rmN 1) [.ref (X.2 + 92), .int i, .int w] shA μ (fun r sh' μ' => shA = sh' ∧ μ = μ' ∧ r = some (.int (if ((0 ≤ i ∧ i < μ 92 1) ∧ i < 1000) ∧ 0 ≤ w ∧ w < 5 then μ 93 ((5 * i + w).toNatClampNeg) else (-1)))) := by
  refine Ct.of (L0 := [some (.ref (X.2 + 92)), some (.int i), some (.int w)]) (by decide) rfl (fun h => by cases h) (by simp [Value.category]) (Nat.le_of_ble_eq_true rfl) rfl (fun l => ?_)
  refine sx_iload_n (pc := 0) dX1_tell_0 rfl rfl ?_
  refine sx_aload_n (pc := 1) dX1_tell_1 rfl rfl ?_
  refine sx_geti (pc := 2) (ci := 1) (j := 1) dX1_tell_2 rfl s_Jo rfl (by decide) lf_X1_15 ?_
  refine sx_sipush (pc := 5) (v := 1000) dX1_tell_5 (by decide) ?_
  refine sx_mmin (pc := 8) dX1_tell_8 lm_X1_37 (Nat.le_of_ble_eq_true rfl) (Nat.le_of_ble_eq_true rfl) ?_
  refine sx_callSN (host := "ExchangeWire") (pc := 11) (As := [.int i, .int (if 1000 < μ 92 1 then 1000 else μ 92 1)]) dX1_tell_11 (c_isBelow X Ex false shA μ _ _) mX5_isBelow (by decide +kernel) rfl ⟨Nat.le_of_ble_eq_true rfl, Nat.le_of_ble_eq_true rfl⟩ ⟨Nat.le_of_ble_eq_true rfl, Nat.le_of_ble_eq_true rfl⟩ (Nat.le_of_ble_eq_true rfl) hE (fun r_11 sh1 μ1 h_11 => ?_)
  obtain ⟨rfl, rfl, x_11, rfl, hx_11⟩ := h_11
  refine sx_if_eq (pc := 14) (tgt := 25) dX1_tell_14 (by decide) (fun c_14 => ?_) (fun c_14 => ?_)
  · have h_14t := c_14
    refine sx_iconst (pc := 25) (v := (-1)) dX1_tell_25 (by decide) ?_
    exact sx_iret (pc := 26) dX1_tell_26 rfl rfl (Nat.zero_le _) (Nat.zero_le _) (⟨rfl, rfl, by rw [if_neg (fun z => by first | exact isB_f hx_11 h_14t (min_lt.mpr z.1) | exact isB_f hx_19 h_22f z.2)]⟩)
  · have h_14f := c_14
    refine sx_iload_n (pc := 17) dX1_tell_17 rfl rfl ?_
    refine sx_iconst (pc := 18) (v := 5) dX1_tell_18 (by decide) ?_
    refine sx_callSN (host := "ExchangeWire") (pc := 19) (As := [.int w, .int 5]) dX1_tell_19 (c_isBelow X Ex false shA μ _ _) mX5_isBelow (by decide +kernel) rfl ⟨Nat.le_of_ble_eq_true rfl, Nat.le_of_ble_eq_true rfl⟩ ⟨Nat.le_of_ble_eq_true rfl, Nat.le_of_ble_eq_true rfl⟩ (Nat.le_of_ble_eq_true rfl) hE (fun r_19 sh1 μ2 h_19 => ?_)
    obtain ⟨rfl, rfl, x_19, rfl, hx_19⟩ := h_19
    refine sx_if_ne (pc := 22) (tgt := 27) dX1_tell_22 (by decide) (fun c_22 => ?_) (fun c_22 => ?_)
    · have h_22t := c_22
      refine sx_aload_n (pc := 27) dX1_tell_27 rfl rfl ?_
      refine sx_getr (pc := 28) (ci := 1) (j := 0) (r := 93) dX1_tell_28 rfl s_Jo rfl (by decide) lf_X1_11 ?_
      refine sx_iload_n (pc := 31) dX1_tell_31 rfl rfl ?_
      refine sx_iconst (pc := 32) (v := 5) dX1_tell_32 (by decide) ?_
      refine sx_imul (pc := 33) dX1_tell_33 ?_
      refine sx_iload_n (pc := 34) dX1_tell_34 rfl rfl ?_
      refine sx_iadd (pc := 35) dX1_tell_35 ?_
      refine sx_iald (pc := 36) dX1_tell_36 s_parts (by decide) rfl (tix (isB_t hx_11 h_14f) (isB_t hx_19 h_22t)) ?_
      exact sx_iret (pc := 37) dX1_tell_37 rfl rfl (Nat.zero_le _) (Nat.zero_le _) (⟨rfl, rfl, by rw [if_pos ⟨min_lt.mp (isB_t hx_11 h_14f), isB_t hx_19 h_22t⟩, Int32.mul_comm 5 i]⟩)
    · have h_22f := c_22
      refine sx_iconst (pc := 25) (v := (-1)) dX1_tell_25 (by decide) ?_
      exact sx_iret (pc := 26) dX1_tell_26 rfl rfl (Nat.zero_le _) (Nat.zero_le _) (⟨rfl, rfl, by rw [if_neg (fun z => by first | exact isB_f hx_11 h_14t (min_lt.mpr z.1) | exact isB_f hx_19 h_22f z.2)]⟩)
theorem act_eq {μ : xM} {h : HT} (hJ : Jx μ h) {i w : Int32} : (if ((0 ≤ i ∧ i < μ 92 1) ∧ i < 1000) ∧ 0 ≤ w ∧ w < 5 then μ 93 ((5 * i + w).toNatClampNeg) else (-1 : Int32)) = if ((0 ≤ i ∧ i < vA h) ∧ i < 1000) ∧ 0 ≤ w ∧ w < 5 then vJ h ((5 * i + w).toNatClampNeg) else (-1) := by
  rw [hJ.1]
  split
  · rename_i z
    refine hJ.2 _ (Nat.not_le.mp fun q => ?_)
    have t := tix (i := i) (w := w) (c := vA h) (min_lt.mpr z.1) z.2
    rw [Int32.mul_comm] at t
    exact t (Or.inr q)
  · rfl
set_option maxHeartbeats 1000000 in
set_option maxRecDepth 20000 in
theorem p_act (X : xD) (Ex : State → Prop) (hE : xEs X false shA.length Ex) (μ : xM) (i w : Int32) {v : VT} {n : Nat} (hn : n + 30 < 2 ^ 20) (hV : Vc μ v) (hD : VD n v) : Ct X Ex false yX5_act kX5_act (rmN 2) [.ref (X.2 + 0), .int i, .int w] shA μ (fun r sh' μ' => shA = sh' ∧ Ks μ μ' ∧ Vc μ' (v) ∧ r = some (.int (oAct i w v))) := by
  refine Ct.of (L0 := [some (.ref (X.2 + 0)), some (.int i), some (.int w)]) (by decide) rfl (fun h => by cases h) (by simp [Value.category]) (Nat.le_of_ble_eq_true rfl) rfl (fun l => ?_)
  refine sx_aload_n (pc := 0) dX5_act_0 rfl rfl ?_
  refine sx_getr (pc := 1) (ci := 5) (j := 2) (r := 92) dX5_act_1 rfl s_EW rfl (by decide) lf_X5_26 ?_
  refine sx_iload_n (pc := 4) dX5_act_4 rfl rfl ?_
  refine sx_iload_n (pc := 5) dX5_act_5 rfl rfl ?_
  refine sx_callV (pc := 6) (As := [.int i, .int w]) dX5_act_6 (c_tell X Ex hE μ _ _) mX1_tell lm_X5_112 rfl s_Jo rfl ⟨Nat.le_of_ble_eq_true rfl, Nat.le_of_ble_eq_true rfl⟩ ⟨Nat.le_of_ble_eq_true rfl, Nat.le_of_ble_eq_true rfl⟩ (Nat.le_of_ble_eq_true rfl) hE (fun r_6 sh1 μ1 h_6 => ?_)
  obtain ⟨rfl, rfl, rfl⟩ := h_6
  exact sx_iret (pc := 9) dX5_act_9 rfl rfl (Nat.zero_le _) (Nat.zero_le _) (⟨rfl, fun _ _ => rfl, hV, by rw [act_eq hV.2.2.2.2]; rfl⟩)
set_option maxHeartbeats 1000000 in
set_option maxRecDepth 20000 in
theorem p_sum (X : xD) (Ex : State → Prop) (hE : xEs X false shA.length Ex) (μ : xM) (c : Int32) {v : VT} {n : Nat} (hn : n + 30 < 2 ^ 20) (hV : Vc μ v) (hD : VD n v) : Ct X Ex false yX5_sum kX5_sum (rmN 0) [.ref (X.2 + 0), .int c] shA μ (fun r sh' μ' => shA = sh' ∧ Ks μ μ' ∧ Vc μ' ((oSum c v).1) ∧ r = some (.int ((oSum c v).2))) := by
  refine Ct.of (L0 := [some (.ref (X.2 + 0)), some (.int c), none]) (by decide) rfl (fun h => by cases h) (by simp [Value.category]) (Nat.le_of_ble_eq_true rfl) rfl (fun l => ?_)
  refine sx_iload_n (pc := 0) dX5_sum_0 rfl rfl ?_
  refine sx_if_ge (pc := 1) (tgt := 16) dX5_sum_1 (by decide) (fun c_1 => ?_) (fun c_1 => ?_)
  · have h_1t := c_1
    refine sx_aload_n (pc := 16) dX5_sum_16 rfl rfl ?_
    refine sx_aload_n (pc := 17) dX5_sum_17 rfl rfl ?_
    refine sx_geti (pc := 18) (ci := 5) (j := 4) dX5_sum_18 rfl s_EW rfl (by decide) lf_X5_37 ?_
    refine sx_iload_n (pc := 21) dX5_sum_21 rfl rfl ?_
    refine sx_iadd (pc := 22) dX5_sum_22 ?_
    refine sx_sipush (pc := 23) (v := 255) dX5_sum_23 (by decide) ?_
    refine sx_iand (pc := 26) dX5_sum_26 ?_
    refine sx_puti (pc := 27) (ci := 5) (j := 4) (ty := .int) dX5_sum_27 rfl s_EW rfl (by decide) lf_X5_37 rfl (by decide +kernel) rfl rfl (fun μ1 hμ1 => ?_)
    refine sx_aload_n (pc := 30) dX5_sum_30 rfl rfl ?_
    refine sx_geti (pc := 31) (ci := 5) (j := 4) dX5_sum_31 rfl s_EW rfl (by decide) lf_X5_37 ?_
    exact sx_iret (pc := 34) dX5_sum_34 rfl rfl (Nat.zero_le _) (Nat.zero_le _) (⟨rfl, fun a ha => by subst hμ1; funext b; rw [xup_at, if_neg (fun z => by omega)], by rw [oSum, if_neg (Int32.not_lt.mpr h_1t)]; exact hV.lines (by subst hμ1; exact LB.off rfl ⟨by omega, fun _ _ => by omega⟩ hV.2.2.1) (by subst hμ1; simp [xup_at, hV.2.1]) (fun a a1 a2 => by subst hμ1; funext b; rw [xup_at, if_neg (fun z => by omega)]) (fun _ _ => Lv.rf) (hV.2.2.2.same (fun a a1 a2 => by subst hμ1; funext b; rw [xup_at, if_neg (fun z => by omega)])), by rw [oSum, if_neg (Int32.not_lt.mpr h_1t)]; subst hμ1; simp [xup_at, hV.2.1]⟩)
  · have h_1f := c_1
    refine sx_aload_n (pc := 4) dX5_sum_4 rfl rfl ?_
    refine sx_geti (pc := 5) (ci := 5) (j := 4) dX5_sum_5 rfl s_EW rfl (by decide) lf_X5_37 ?_
    refine sx_istore_n (pc := 8) (L' := [some (.ref (X.2 + 0)), some (.int c), some (.int (μ 0 4))]) dX5_sum_8 rfl (by decide) rfl ?_
    refine sx_aload_n (pc := 9) dX5_sum_9 rfl rfl ?_
    refine sx_iconst (pc := 10) (v := 0) dX5_sum_10 (by decide) ?_
    refine sx_puti (pc := 11) (ci := 5) (j := 4) (ty := .int) dX5_sum_11 rfl s_EW rfl (by decide) lf_X5_37 rfl (by decide +kernel) rfl rfl (fun μ2 hμ2 => ?_)
    refine sx_iload_n (pc := 14) dX5_sum_14 rfl rfl ?_
    exact sx_iret (pc := 15) dX5_sum_15 rfl rfl (Nat.zero_le _) (Nat.zero_le _) (⟨rfl, fun a ha => by subst hμ2; funext b; rw [xup_at, if_neg (fun z => by omega)], by rw [oSum, if_pos (Int32.not_le.mp h_1f)]; exact hV.lines (by subst hμ2; exact LB.off rfl ⟨by omega, fun _ _ => by omega⟩ hV.2.2.1) (by subst hμ2; simp [xup_at, hV.2.1]) (fun a a1 a2 => by subst hμ2; funext b; rw [xup_at, if_neg (fun z => by omega)]) (fun _ _ => Lv.rf) (hV.2.2.2.same (fun a a1 a2 => by subst hμ2; funext b; rw [xup_at, if_neg (fun z => by omega)])), by rw [oSum, if_pos (Int32.not_le.mp h_1f), hV.2.1]⟩)
theorem sw5 (w : Int32) : w = 0 ∨ w = 1 ∨ w = 2 ∨ w = 3 ∨ w = 4 ∨ (w.toInt < 0 ∨ 4 < w.toInt) := by
  by_cases h : w.toInt < 0 ∨ 4 < w.toInt
  · exact Or.inr (Or.inr (Or.inr (Or.inr (Or.inr h))))
  · have h0 : w.toInt = 0 ∨ w.toInt = 1 ∨ w.toInt = 2 ∨ w.toInt = 3 ∨ w.toInt = 4 := by omega
    rcases h0 with h0 | h0 | h0 | h0 | h0
    · exact Or.inl (Int32.toInt_inj.mp h0)
    · exact Or.inr (Or.inl (Int32.toInt_inj.mp h0))
    · exact Or.inr (Or.inr (Or.inl (Int32.toInt_inj.mp h0)))
    · exact Or.inr (Or.inr (Or.inr (Or.inl (Int32.toInt_inj.mp h0))))
    · exact Or.inr (Or.inr (Or.inr (Or.inr (Or.inl (Int32.toInt_inj.mp h0)))))
theorem sw5n {w : Int32} (h : w.toInt < 0 ∨ 4 < w.toInt) : ¬ w = 0 ∧ ¬ w = 1 ∧ ¬ w = 2 ∧ ¬ w = 3 ∧ ¬ w = 4 := by
  have f : ∀ c : Int32, (0 ≤ c.toInt ∧ c.toInt ≤ 4) → ¬ w = c := fun c hc e => by rw [e] at h; omega
  exact ⟨f 0 (by decide), f 1 (by decide), f 2 (by decide), f 3 (by decide), f 4 (by decide)⟩
set_option maxHeartbeats 1000000 in
set_option maxRecDepth 20000 in
theorem p_state (X : xD) (Ex : State → Prop) (hE : xEs X false shA.length Ex) (μ : xM) (dev w : Int32) {v : VT} {n : Nat} (hn : n + 30 < 2 ^ 20) (hV : Vc μ v) (hD : VD n v) : Ct X Ex false yX5_state kX5_state (rmN 1) [.ref (X.2 + 0), .int dev, .int w] shA μ (fun r sh' μ' => shA = sh' ∧ Ks μ μ' ∧ Vc μ' (v) ∧ r = some (.int (oState dev w v))) := by
  refine Ct.of (L0 := [some (.ref (X.2 + 0)), some (.int dev), some (.int w), none]) (by decide) rfl (fun h => by cases h) (by simp [Value.category]) (Nat.le_of_ble_eq_true rfl) rfl (fun l => ?_)
  refine sx_iload_n (pc := 0) dX5_state_0 rfl rfl ?_
  refine sx_bipush (pc := 1) (v := 6) dX5_state_1 (by decide) ?_
  refine sx_callS (pc := 3) (As := [.int dev, .int 6]) dX5_state_3 (c_isBelow X Ex false shA μ _ _) mX5_isBelow lm_X5_41 rfl ⟨Nat.le_of_ble_eq_true rfl, Nat.le_of_ble_eq_true rfl⟩ ⟨Nat.le_of_ble_eq_true rfl, Nat.le_of_ble_eq_true rfl⟩ (Nat.le_of_ble_eq_true rfl) hE (fun r_3 sh1 μ1 h_3 => ?_)
  obtain ⟨rfl, rfl, x_3, rfl, hx_3⟩ := h_3
  refine sx_if_ne (pc := 6) (tgt := 11) dX5_state_6 (by decide) (fun c_6 => ?_) (fun c_6 => ?_)
  · have h_6t := c_6
    have hb := isB_t hx_3 h_6t
    have hd := clamp_lt (n := 6) hb.1 hb.2 (by decide)
    refine sx_aload_n (pc := 11) dX5_state_11 rfl rfl ?_
    refine sx_getr (pc := 12) (ci := 5) (j := 0) (r := 1) dX5_state_12 rfl s_EW rfl (by decide) lf_X5_11 ?_
    refine sx_iload_n (pc := 15) dX5_state_15 rfl rfl ?_
    refine sx_aald (pc := 16) (r := 2 + 9 * dev.toNatClampNeg) dX5_state_16 s_lines rfl rfl (vp_in_lt (n := 6) hb.1 hb.2 (by decide)) (el_lines _ hd) ?_
    refine sx_astore_n (pc := 17) (L' := [some (.ref (X.2 + 0)), some (.int dev), some (.int w), some (.ref (X.2 + (2 + 9 * dev.toNatClampNeg)))]) dX5_state_17 rfl (by decide) rfl ?_
    refine sx_iload_n (pc := 18) dX5_state_18 rfl rfl ?_
    rcases sw5 w with rfl | rfl | rfl | rfl | rfl | w_19
    · refine sx_tableIn (pc := 19) (off := 33) (tgt := 52) dX5_state_19 (by decide) (by decide) (by decide) (by decide) ?_
      refine sx_aload_n (pc := 52) dX5_state_52 rfl rfl ?_
      refine sx_geti (pc := 53) (ci := 2) (j := 4) dX5_state_53 rfl (s_Line _ hd) rfl (by decide) lf_X5_116 ?_
      exact sx_iret (pc := 56) dX5_state_56 rfl rfl (Nat.zero_le _) (Nat.zero_le _) (⟨rfl, fun _ _ => rfl, hV, by rw [oState, if_pos hb]; have hl := (hV.1 _ hd).1; first | (rw [if_neg (sw5n w_19).1, if_neg (sw5n w_19).2.1, if_neg (sw5n w_19).2.2.1, if_neg (sw5n w_19).2.2.2.1, if_neg (sw5n w_19).2.2.2.2]) | (rw [if_pos rfl, hl.2.2.2.2.1]; done) | (rw [if_neg (by decide), if_neg (by decide), if_neg (by decide), if_pos rfl, hl.2.2.1]; done) | (rw [if_neg (by decide), if_neg (by decide), if_neg (by decide), if_neg (by decide), if_pos rfl, hl.2.2.2.2.2]; done) | (rw [if_neg (by decide), if_pos rfl, ← hl.2.2.2.1]; simp_all; done) | (rw [if_neg (by decide), if_neg (by decide), if_pos rfl, ← hl.1]; simp_all; done)⟩)
    · refine sx_tableIn (pc := 19) (off := 38) (tgt := 57) dX5_state_19 (by decide) (by decide) (by decide) (by decide) ?_
      refine sx_aload_n (pc := 57) dX5_state_57 rfl rfl ?_
      refine sx_geti (pc := 58) (ci := 2) (j := 3) dX5_state_58 rfl (s_Line _ hd) rfl (by decide) lf_X5_119 ?_
      refine sx_if_eq (pc := 61) (tgt := 68) dX5_state_61 (by decide) (fun c_61 => ?_) (fun c_61 => ?_)
      · have h_61t := c_61
        refine sx_iconst (pc := 68) (v := 0) dX5_state_68 (by decide) ?_
        exact sx_iret (pc := 69) dX5_state_69 rfl rfl (Nat.zero_le _) (Nat.zero_le _) (⟨rfl, fun _ _ => rfl, hV, by rw [oState, if_pos hb]; have hl := (hV.1 _ hd).1; first | (rw [if_neg (sw5n w_19).1, if_neg (sw5n w_19).2.1, if_neg (sw5n w_19).2.2.1, if_neg (sw5n w_19).2.2.2.1, if_neg (sw5n w_19).2.2.2.2]) | (rw [if_pos rfl, hl.2.2.2.2.1]; done) | (rw [if_neg (by decide), if_neg (by decide), if_neg (by decide), if_pos rfl, hl.2.2.1]; done) | (rw [if_neg (by decide), if_neg (by decide), if_neg (by decide), if_neg (by decide), if_pos rfl, hl.2.2.2.2.2]; done) | (rw [if_neg (by decide), if_pos rfl, ← hl.2.2.2.1]; simp_all; done) | (rw [if_neg (by decide), if_neg (by decide), if_pos rfl, ← hl.1]; simp_all; done)⟩)
      · have h_61f := c_61
        refine sx_iconst (pc := 64) (v := 1) dX5_state_64 (by decide) ?_
        refine sx_goto (pc := 65) (tgt := 69) dX5_state_65 (by decide) ?_
        exact sx_iret (pc := 69) dX5_state_69 rfl rfl (Nat.zero_le _) (Nat.zero_le _) (⟨rfl, fun _ _ => rfl, hV, by rw [oState, if_pos hb]; have hl := (hV.1 _ hd).1; first | (rw [if_neg (sw5n w_19).1, if_neg (sw5n w_19).2.1, if_neg (sw5n w_19).2.2.1, if_neg (sw5n w_19).2.2.2.1, if_neg (sw5n w_19).2.2.2.2]) | (rw [if_pos rfl, hl.2.2.2.2.1]; done) | (rw [if_neg (by decide), if_neg (by decide), if_neg (by decide), if_pos rfl, hl.2.2.1]; done) | (rw [if_neg (by decide), if_neg (by decide), if_neg (by decide), if_neg (by decide), if_pos rfl, hl.2.2.2.2.2]; done) | (rw [if_neg (by decide), if_pos rfl, ← hl.2.2.2.1]; simp_all; done) | (rw [if_neg (by decide), if_neg (by decide), if_pos rfl, ← hl.1]; simp_all; done)⟩)
    · refine sx_tableIn (pc := 19) (off := 51) (tgt := 70) dX5_state_19 (by decide) (by decide) (by decide) (by decide) ?_
      refine sx_aload_n (pc := 70) dX5_state_70 rfl rfl ?_
      refine sx_geti (pc := 71) (ci := 2) (j := 2) dX5_state_71 rfl (s_Line _ hd) rfl (by decide) lf_X5_45 ?_
      refine sx_if_eq (pc := 74) (tgt := 81) dX5_state_74 (by decide) (fun c_74 => ?_) (fun c_74 => ?_)
      · have h_74t := c_74
        refine sx_iconst (pc := 81) (v := 0) dX5_state_81 (by decide) ?_
        exact sx_iret (pc := 82) dX5_state_82 rfl rfl (Nat.zero_le _) (Nat.zero_le _) (⟨rfl, fun _ _ => rfl, hV, by rw [oState, if_pos hb]; have hl := (hV.1 _ hd).1; first | (rw [if_neg (sw5n w_19).1, if_neg (sw5n w_19).2.1, if_neg (sw5n w_19).2.2.1, if_neg (sw5n w_19).2.2.2.1, if_neg (sw5n w_19).2.2.2.2]) | (rw [if_pos rfl, hl.2.2.2.2.1]; done) | (rw [if_neg (by decide), if_neg (by decide), if_neg (by decide), if_pos rfl, hl.2.2.1]; done) | (rw [if_neg (by decide), if_neg (by decide), if_neg (by decide), if_neg (by decide), if_pos rfl, hl.2.2.2.2.2]; done) | (rw [if_neg (by decide), if_pos rfl, ← hl.2.2.2.1]; simp_all; done) | (rw [if_neg (by decide), if_neg (by decide), if_pos rfl, ← hl.1]; simp_all; done)⟩)
      · have h_74f := c_74
        refine sx_iconst (pc := 77) (v := 1) dX5_state_77 (by decide) ?_
        refine sx_goto (pc := 78) (tgt := 82) dX5_state_78 (by decide) ?_
        exact sx_iret (pc := 82) dX5_state_82 rfl rfl (Nat.zero_le _) (Nat.zero_le _) (⟨rfl, fun _ _ => rfl, hV, by rw [oState, if_pos hb]; have hl := (hV.1 _ hd).1; first | (rw [if_neg (sw5n w_19).1, if_neg (sw5n w_19).2.1, if_neg (sw5n w_19).2.2.1, if_neg (sw5n w_19).2.2.2.1, if_neg (sw5n w_19).2.2.2.2]) | (rw [if_pos rfl, hl.2.2.2.2.1]; done) | (rw [if_neg (by decide), if_neg (by decide), if_neg (by decide), if_pos rfl, hl.2.2.1]; done) | (rw [if_neg (by decide), if_neg (by decide), if_neg (by decide), if_neg (by decide), if_pos rfl, hl.2.2.2.2.2]; done) | (rw [if_neg (by decide), if_pos rfl, ← hl.2.2.2.1]; simp_all; done) | (rw [if_neg (by decide), if_neg (by decide), if_pos rfl, ← hl.1]; simp_all; done)⟩)
    · refine sx_tableIn (pc := 19) (off := 64) (tgt := 83) dX5_state_19 (by decide) (by decide) (by decide) (by decide) ?_
      refine sx_aload_n (pc := 83) dX5_state_83 rfl rfl ?_
      refine sx_geti (pc := 84) (ci := 2) (j := 11) dX5_state_84 rfl (s_Line _ hd) rfl (by decide) lf_X5_87 ?_
      exact sx_iret (pc := 87) dX5_state_87 rfl rfl (Nat.zero_le _) (Nat.zero_le _) (⟨rfl, fun _ _ => rfl, hV, by rw [oState, if_pos hb]; have hl := (hV.1 _ hd).1; first | (rw [if_neg (sw5n w_19).1, if_neg (sw5n w_19).2.1, if_neg (sw5n w_19).2.2.1, if_neg (sw5n w_19).2.2.2.1, if_neg (sw5n w_19).2.2.2.2]) | (rw [if_pos rfl, hl.2.2.2.2.1]; done) | (rw [if_neg (by decide), if_neg (by decide), if_neg (by decide), if_pos rfl, hl.2.2.1]; done) | (rw [if_neg (by decide), if_neg (by decide), if_neg (by decide), if_neg (by decide), if_pos rfl, hl.2.2.2.2.2]; done) | (rw [if_neg (by decide), if_pos rfl, ← hl.2.2.2.1]; simp_all; done) | (rw [if_neg (by decide), if_neg (by decide), if_pos rfl, ← hl.1]; simp_all; done)⟩)
    · refine sx_tableIn (pc := 19) (off := 69) (tgt := 88) dX5_state_19 (by decide) (by decide) (by decide) (by decide) ?_
      refine sx_aload_n (pc := 88) dX5_state_88 rfl rfl ?_
      refine sx_geti (pc := 89) (ci := 2) (j := 5) dX5_state_89 rfl (s_Line _ hd) rfl (by decide) lf_X5_122 ?_
      exact sx_iret (pc := 92) dX5_state_92 rfl rfl (Nat.zero_le _) (Nat.zero_le _) (⟨rfl, fun _ _ => rfl, hV, by rw [oState, if_pos hb]; have hl := (hV.1 _ hd).1; first | (rw [if_neg (sw5n w_19).1, if_neg (sw5n w_19).2.1, if_neg (sw5n w_19).2.2.1, if_neg (sw5n w_19).2.2.2.1, if_neg (sw5n w_19).2.2.2.2]) | (rw [if_pos rfl, hl.2.2.2.2.1]; done) | (rw [if_neg (by decide), if_neg (by decide), if_neg (by decide), if_pos rfl, hl.2.2.1]; done) | (rw [if_neg (by decide), if_neg (by decide), if_neg (by decide), if_neg (by decide), if_pos rfl, hl.2.2.2.2.2]; done) | (rw [if_neg (by decide), if_pos rfl, ← hl.2.2.2.1]; simp_all; done) | (rw [if_neg (by decide), if_neg (by decide), if_pos rfl, ← hl.1]; simp_all; done)⟩)
    · refine sx_tableOut (pc := 19) (tgt := 93) dX5_state_19 w_19 (by decide) ?_
      refine sx_iconst (pc := 93) (v := (-1)) dX5_state_93 (by decide) ?_
      exact sx_iret (pc := 94) dX5_state_94 rfl rfl (Nat.zero_le _) (Nat.zero_le _) (⟨rfl, fun _ _ => rfl, hV, by rw [oState, if_pos hb]; have hl := (hV.1 _ hd).1; first | (rw [if_neg (sw5n w_19).1, if_neg (sw5n w_19).2.1, if_neg (sw5n w_19).2.2.1, if_neg (sw5n w_19).2.2.2.1, if_neg (sw5n w_19).2.2.2.2]) | (rw [if_pos rfl, hl.2.2.2.2.1]; done) | (rw [if_neg (by decide), if_neg (by decide), if_neg (by decide), if_pos rfl, hl.2.2.1]; done) | (rw [if_neg (by decide), if_neg (by decide), if_neg (by decide), if_neg (by decide), if_pos rfl, hl.2.2.2.2.2]; done) | (rw [if_neg (by decide), if_pos rfl, ← hl.2.2.2.1]; simp_all; done) | (rw [if_neg (by decide), if_neg (by decide), if_pos rfl, ← hl.1]; simp_all; done)⟩)
  · have h_6f := c_6
    refine sx_iconst (pc := 9) (v := (-1)) dX5_state_9 (by decide) ?_
    exact sx_iret (pc := 10) dX5_state_10 rfl rfl (Nat.zero_le _) (Nat.zero_le _) (⟨rfl, fun _ _ => rfl, hV, by rw [oState, if_neg (isB_f hx_3 h_6f)]⟩)
set_option maxHeartbeats 1000000 in
set_option maxRecDepth 20000 in
theorem p_waits (X : xD) (Ex : State → Prop) (hE : xEs X false shA.length Ex) (μ : xM) (it i : Int32) {v : VT} {n : Nat} (hn : n + 30 < 2 ^ 20) (hV : Vc μ v) (hD : VD n v) : Ct X Ex false yX5_waits kX5_waits (rmN 1) [.ref (X.2 + 0), .int it, .int i] shA μ (fun r sh' μ' => shA = sh' ∧ Ks μ μ' ∧ Vc μ' (v) ∧ r = some (.int (oWaits it i v))) := by
  refine Ct.of (L0 := [some (.ref (X.2 + 0)), some (.int it), some (.int i)]) (by decide) rfl (fun h => by cases h) (by simp [Value.category]) (Nat.le_of_ble_eq_true rfl) rfl (fun l => ?_)
  refine sx_iload_n (pc := 0) dX5_waits_0 rfl rfl ?_
  refine sx_bipush (pc := 1) (v := 30) dX5_waits_1 (by decide) ?_
  refine sx_callS (pc := 3) (As := [.int it, .int 30]) dX5_waits_3 (c_isBelow X Ex false shA μ _ _) mX5_isBelow lm_X5_41 rfl ⟨Nat.le_of_ble_eq_true rfl, Nat.le_of_ble_eq_true rfl⟩ ⟨Nat.le_of_ble_eq_true rfl, Nat.le_of_ble_eq_true rfl⟩ (Nat.le_of_ble_eq_true rfl) hE (fun r_3 sh1 μ1 h_3 => ?_)
  obtain ⟨rfl, rfl, x_3, rfl, hx_3⟩ := h_3
  refine sx_if_eq (pc := 6) (tgt := 25) dX5_waits_6 (by decide) (fun c_6 => ?_) (fun c_6 => ?_)
  · have h_6t := c_6
    refine sx_iconst (pc := 25) (v := (-1)) dX5_waits_25 (by decide) ?_
    exact sx_iret (pc := 26) dX5_waits_26 rfl rfl (Nat.zero_le _) (Nat.zero_le _) (⟨rfl, fun _ _ => rfl, hV, by first | (rw [oWaits, if_pos ⟨ht, by have := isB_t hx_19 h_22t; rw [hq9] at this; exact this⟩]; exact congrArg (fun z => some (Value.int z)) (hxi.2.2.2.2 _ (clamp_lt (n := 30) (isB_t hx_19 h_22t).1 (Int32.lt_of_lt_of_le (isB_t hx_19 h_22t).2 hq.2) (by decide)))) | (rw [oWaits, if_neg (fun z => by first | exact isB_f hx_3 h_6t z.1 | exact isB_f hx_19 h_22f (by rw [hq9]; exact z.2))])⟩)
  · have h_6f := c_6
    have ht := isB_t hx_3 h_6f
    have hi := clamp_lt (n := 30) ht.1 ht.2 (by decide)
    have hq := hV.2.2.1.2 _ hi
    have hxi := hV.2.2.2.1 _ hi
    have hq9 : μ 91 it.toNatClampNeg = vW v.2 (it.toNatClampNeg) := hxi.2.2.2.1
    refine sx_iload_n (pc := 9) dX5_waits_9 rfl rfl ?_
    refine sx_aload_n (pc := 10) dX5_waits_10 rfl rfl ?_
    refine sx_getr (pc := 11) (ci := 5) (j := 1) (r := 56) dX5_waits_11 rfl s_EW rfl (by decide) lf_X5_19 ?_
    refine sx_getr (pc := 14) (ci := 0) (j := 4) (r := 91) dX5_waits_14 rfl s_Ho rfl (by decide) lf_X5_125 ?_
    refine sx_iload_n (pc := 17) dX5_waits_17 rfl rfl ?_
    refine sx_iald (pc := 18) dX5_waits_18 s_qlen (by decide) rfl (vp_in_lt (n := 30) ht.1 ht.2 (by decide)) ?_
    refine sx_callS (pc := 19) (As := [.int i, .int (μ 91 it.toNatClampNeg)]) dX5_waits_19 (c_isBelow X Ex false shA μ _ _) mX5_isBelow lm_X5_41 rfl ⟨Nat.le_of_ble_eq_true rfl, Nat.le_of_ble_eq_true rfl⟩ ⟨Nat.le_of_ble_eq_true rfl, Nat.le_of_ble_eq_true rfl⟩ (Nat.le_of_ble_eq_true rfl) hE (fun r_19 sh1 μ2 h_19 => ?_)
    obtain ⟨rfl, rfl, x_19, rfl, hx_19⟩ := h_19
    refine sx_if_ne (pc := 22) (tgt := 27) dX5_waits_22 (by decide) (fun c_22 => ?_) (fun c_22 => ?_)
    · have h_22t := c_22
      refine sx_aload_n (pc := 27) dX5_waits_27 rfl rfl ?_
      refine sx_getr (pc := 28) (ci := 5) (j := 1) (r := 56) dX5_waits_28 rfl s_EW rfl (by decide) lf_X5_19 ?_
      refine sx_getr (pc := 31) (ci := 0) (j := 3) (r := 60) dX5_waits_31 rfl s_Ho rfl (by decide) lf_X5_128 ?_
      refine sx_iload_n (pc := 34) dX5_waits_34 rfl rfl ?_
      refine sx_aald (pc := 35) (r := 61 + it.toNatClampNeg) dX5_waits_35 s_queues rfl rfl (vp_in_lt (n := 30) ht.1 ht.2 (by decide)) (el_queues _ hi) ?_
      refine sx_iload_n (pc := 36) dX5_waits_36 rfl rfl ?_
      refine sx_iald (pc := 37) dX5_waits_37 (s_qrow _ hi) (by decide) rfl (vp_in_lt (n := 30) (isB_t hx_19 h_22t).1 (Int32.lt_of_lt_of_le (isB_t hx_19 h_22t).2 hq.2) (by decide)) ?_
      exact sx_iret (pc := 38) dX5_waits_38 rfl rfl (Nat.zero_le _) (Nat.zero_le _) (⟨rfl, fun _ _ => rfl, hV, by first | (rw [oWaits, if_pos ⟨ht, by have := isB_t hx_19 h_22t; rw [hq9] at this; exact this⟩]; exact congrArg (fun z => some (Value.int z)) (hxi.2.2.2.2 _ (clamp_lt (n := 30) (isB_t hx_19 h_22t).1 (Int32.lt_of_lt_of_le (isB_t hx_19 h_22t).2 hq.2) (by decide)))) | (rw [oWaits, if_neg (fun z => by first | exact isB_f hx_3 h_6t z.1 | exact isB_f hx_19 h_22f (by rw [hq9]; exact z.2))])⟩)
    · have h_22f := c_22
      refine sx_iconst (pc := 25) (v := (-1)) dX5_waits_25 (by decide) ?_
      exact sx_iret (pc := 26) dX5_waits_26 rfl rfl (Nat.zero_le _) (Nat.zero_le _) (⟨rfl, fun _ _ => rfl, hV, by first | (rw [oWaits, if_pos ⟨ht, by have := isB_t hx_19 h_22t; rw [hq9] at this; exact this⟩]; exact congrArg (fun z => some (Value.int z)) (hxi.2.2.2.2 _ (clamp_lt (n := 30) (isB_t hx_19 h_22t).1 (Int32.lt_of_lt_of_le (isB_t hx_19 h_22t).2 hq.2) (by decide)))) | (rw [oWaits, if_neg (fun z => by first | exact isB_f hx_3 h_6t z.1 | exact isB_f hx_19 h_22f (by rw [hq9]; exact z.2))])⟩)
set_option maxHeartbeats 1000000 in
set_option maxRecDepth 20000 in
theorem l_join_end {X : xD} {Ex : State → Prop} (hE : xEs X false shA.length Ex) {l : Launch} {dev : Int32} (hb : isD dev) (hd : dev.toNatClampNeg < 6) {μ0 : xM} {v : VT} {n : Nat} (hn : n + 30 < 2 ^ 20) (hV : Vc μ0 v) (hD : VD n v) {q : Nat} (hq : q ≤ 20) (hvq : lR v dev.toNatClampNeg = nI q) {μ : xM} (hC : Ch SC μ0 μ) (hH : Hc μ (jl v dev q).1) (y j : Int32) (hy : y = (jl v dev q).2) : sx l (rmN 4) X Ex false kX5_join shA.length (xZ X false shA.length (fun r sh' μ' => shA = sh' ∧ Ks μ0 μ' ∧ Vc μ' ((oJoin dev v).1) ∧ r = some (.int ((oJoin dev v).2))) 0 0) 77 [some (.ref (X.2 + 0)), some (.int dev), some (.ref (X.2 + (2 + 9 * dev.toNatClampNeg))), some (.int y), some (.int j)] [] shA μ 0 0 := by
  have ec : (lR v dev.toNatClampNeg).toNatClampNeg = q := by rw [hvq, nI_clamp (by omega)]
  have e2 : (oJoin dev v).1.2 = (jl v dev q).1 := by rw [oJoin, if_pos hb, ec]
  have e3 : (oJoin dev v).2 = (jl v dev q).2 := by rw [oJoin, if_pos hb, ec]
  refine sx_aload_n (pc := 77) dX5_join_77 rfl rfl ?_
  refine sx_iconst (pc := 78) (v := 0) dX5_join_78 (by decide) ?_
  refine sx_puti (pc := 79) (ci := 2) (j := 11) (ty := .int) dX5_join_79 rfl (s_Line _ hd) rfl (by decide) lf_X5_87 rfl (by decide +kernel) rfl rfl (fun μ1 hμ1 => ?_)
  refine sx_iload_n (pc := 82) dX5_join_82 rfl rfl ?_
  exact sx_iret (pc := 83) dX5_join_83 rfl rfl (Nat.zero_le _) (Nat.zero_le _) (by obtain ⟨q1, q2⟩ := join_ok hV hb hC hH e2 hμ1; exact ⟨rfl, q1, q2, by rw [e3, hy]⟩)
set_option maxHeartbeats 1000000 in
set_option maxRecDepth 20000 in
theorem l_join {X : xD} {Ex : State → Prop} (hE : xEs X false shA.length Ex) {l : Launch} {dev : Int32} (hb : isD dev) (hd : dev.toNatClampNeg < 6) {μ0 : xM} {v : VT} {n : Nat} (hn : n + 30 < 2 ^ 20) (hV : Vc μ0 v) (hD : VD n v) {q : Nat} (hq : q ≤ 20) (hvq : lR v dev.toNatClampNeg = nI q) : ∀ (t j : Nat) (y : Int32) (μ : xM), q - j ≤ t → j ≤ q → Ch SC μ0 μ → Hc μ (jl v dev j).1 → y = (jl v dev j).2 → sx l (rmN 4) X Ex false kX5_join shA.length (xZ X false shA.length (fun r sh' μ' => shA = sh' ∧ Ks μ0 μ' ∧ Vc μ' ((oJoin dev v).1) ∧ r = some (.int ((oJoin dev v).2))) 0 0) 23 [some (.ref (X.2 + 0)), some (.int dev), some (.ref (X.2 + (2 + 9 * dev.toNatClampNeg))), some (.int y), some (.int (nI j))] [] shA μ 0 0 := by
  intro t
  induction t with
  | zero =>
    intro j y μ ht hj hC hH hy
    have hr : μ (2 + 9 * dev.toNatClampNeg) 11 = nI q := by rw [hC.1 _ (by show ¬ (57 ≤ _ ∧ _ ≤ 94); omega), (hV.1 _ hd).1.2.2.1]; exact hvq
    have hjq : j = q := by omega
    subst hjq
    refine sx_iload (pc := 23) dX5_join_23 rfl ?_
    refine sx_aload_n (pc := 25) dX5_join_25 rfl rfl ?_
    refine sx_geti (pc := 26) (ci := 2) (j := 11) dX5_join_26 rfl (s_Line _ hd) rfl (by decide) lf_X5_87 ?_
    refine sx_icmp_ge (pc := 29) (tgt := 77) dX5_join_29 (by decide) (fun c_29 => ?_) (fun c_29 => absurd (by rw [hr]; exact nI_le (by omega) (by omega)) c_29)
    exact l_join_end hE hb hd hn hV hD hq hvq hC hH _ _ hy
  | succ t ih =>
    intro j y μ ht hj hC hH hy
    have hr : μ (2 + 9 * dev.toNatClampNeg) 11 = nI q := by rw [hC.1 _ (by show ¬ (57 ≤ _ ∧ _ ≤ 94); omega), (hV.1 _ hd).1.2.2.1]; exact hvq
    refine sx_iload (pc := 23) dX5_join_23 rfl ?_
    refine sx_aload_n (pc := 25) dX5_join_25 rfl rfl ?_
    refine sx_geti (pc := 26) (ci := 2) (j := 11) dX5_join_26 rfl (s_Line _ hd) rfl (by decide) lf_X5_87 ?_
    refine sx_icmp_ge (pc := 29) (tgt := 77) dX5_join_29 (by decide) (fun c_29 => ?_) (fun c_29 => ?_)
    · have h_29t := c_29
      have hjq : j = q := by have : q ≤ j := Nat.le_of_not_lt (fun z => absurd (nI_lt z (by omega)) (Int32.not_lt.mpr (by rw [← hr]; exact h_29t))); omega
      subst hjq
      exact l_join_end hE hb hd hn hV hD hq hvq hC hH _ _ hy
    · have h_29f := c_29
      have hlt : j < q := Nat.lt_of_not_le fun z => h_29f (by rw [hr]; exact nI_le z (by omega))
      have hrow := (hV.1 _ hd).2.2 j (by omega)
      have hrng := hD.2.1 (20 * dev.toNatClampNeg + j) (by omega)
      have e6 : μ (2 + 9 * dev.toNatClampNeg + 6) (nI j).toNatClampNeg = (if lK v (20 * dev.toNatClampNeg + j) = 0 then 67 else 66) := by rw [nI_clamp (by omega), hC.1 _ (by show ¬ (57 ≤ _ ∧ _ ≤ 94); omega)]; exact hrow.1 (by rw [hvq]; exact nI_lt hlt (by omega))
      have e7 : μ (2 + 9 * dev.toNatClampNeg + 7) (nI j).toNatClampNeg = lI v (20 * dev.toNatClampNeg + j) := by rw [nI_clamp (by omega), hC.1 _ (by show ¬ (57 ≤ _ ∧ _ ≤ 94); omega)]; exact hrow.2.1
      have e8 : μ (2 + 9 * dev.toNatClampNeg + 8) (nI j).toNatClampNeg = lP v (20 * dev.toNatClampNeg + j) := by rw [nI_clamp (by omega), hC.1 _ (by show ¬ (57 ≤ _ ∧ _ ≤ 94); omega)]; exact hrow.2.2
      refine sx_aload_n (pc := 32) dX5_join_32 rfl rfl ?_
      refine sx_getr (pc := 33) (ci := 5) (j := 3) (r := 94) dX5_join_33 rfl s_EW rfl (by decide) lf_X5_33 ?_
      refine sx_aload_n (pc := 36) dX5_join_36 rfl rfl ?_
      refine sx_getr (pc := 37) (ci := 2) (j := 8) (r := 2 + 9 * dev.toNatClampNeg + 6) dX5_join_37 rfl (s_Line _ hd) rfl (by decide) lf_X5_90 ?_
      refine sx_iload (pc := 40) dX5_join_40 rfl ?_
      refine sx_iald (pc := 42) dX5_join_42 (s_Lrk _ hd) (by decide) rfl (vp_in_nI (by omega) (by decide)) ?_
      refine sx_aload_n (pc := 43) dX5_join_43 rfl rfl ?_
      refine sx_getr (pc := 44) (ci := 2) (j := 9) (r := 2 + 9 * dev.toNatClampNeg + 7) dX5_join_44 rfl (s_Line _ hd) rfl (by decide) lf_X5_93 ?_
      refine sx_iload (pc := 47) dX5_join_47 rfl ?_
      refine sx_iald (pc := 49) dX5_join_49 (s_Lri _ hd) (by decide) rfl (vp_in_nI (by omega) (by decide)) ?_
      refine sx_aload_n (pc := 50) dX5_join_50 rfl rfl ?_
      refine sx_getr (pc := 51) (ci := 2) (j := 10) (r := 2 + 9 * dev.toNatClampNeg + 8) dX5_join_51 rfl (s_Line _ hd) rfl (by decide) lf_X5_96 ?_
      refine sx_iload (pc := 54) dX5_join_54 rfl ?_
      refine sx_iald (pc := 56) dX5_join_56 (s_Lrp _ hd) (by decide) rfl (vp_in_nI (by omega) (by decide)) ?_
      refine sx_callV (pc := 57) (As := [.int (μ (2 + 9 * dev.toNatClampNeg + 6) (nI j).toNatClampNeg), .int (μ (2 + 9 * dev.toNatClampNeg + 7) (nI j).toNatClampNeg), .int (μ (2 + 9 * dev.toNatClampNeg + 8) (nI j).toNatClampNeg)]) dX5_join_57 (c_fillE X Ex hE μ _ _ _) mX3_fillFromRow lm_X5_99 rfl s_Me rfl ⟨Nat.le_of_ble_eq_true rfl, Nat.le_of_ble_eq_true rfl⟩ ⟨Nat.le_of_ble_eq_true rfl, Nat.le_of_ble_eq_true rfl⟩ (Nat.le_of_ble_eq_true rfl) hE (fun r_57 sh1 μ1 h_57 => ?_)
      obtain ⟨rfl, rfl, k_57, g0, g3, g2, g1⟩ := h_57
      rw [e6] at g0
      rw [e7] at g3
      rw [e8] at g2
      have hG : GD μ1 := fun i hi => ⟨fun _ => by rw [g3]; exact hrng.1, fun _ => by rw [g2]; exact hrng.2⟩
      have hHm : Hc μ1 (jl v dev j).1 := hH.same (fun a a1 a2 => k_57.1 a (by show ¬ (a = 94); omega))
      refine sx_aload_n (pc := 60) dX5_join_60 rfl rfl ?_
      refine sx_iload_n (pc := 61) dX5_join_61 rfl rfl ?_
      refine sx_callV (pc := 62) (As := [.int dev]) dX5_join_62 (c_carry X Ex hE μ1 _ hG (((Ch.trans hC k_57 (fun a (h : a = 94) => by show SC a; show 57 ≤ a ∧ a ≤ 94; omega))).2 hV.2.2.1) hHm (n := n + j) (by omega) (hw_jl hD hb j (by omega)) (fun z => by rw [g0] at z; exact absurd z (by split <;> decide))) mX5_carryOut lm_X5_103 rfl s_EW rfl ⟨Nat.le_of_ble_eq_true rfl, Nat.le_of_ble_eq_true rfl⟩ ⟨Nat.le_of_ble_eq_true rfl, Nat.le_of_ble_eq_true rfl⟩ (Nat.le_of_ble_eq_true rfl) hE (fun r_62 sh1 μ2 h_62 => ?_)
      obtain ⟨rfl, k_62, hG62, hc_62, x_62, rfl, hx_62⟩ := h_62
      obtain ⟨J1, J2, J3⟩ := jst_ok (v := v) (j := j) g0 g3 g2 g1 hc_62 hx_62
      refine sx_if_eq (pc := 65) (tgt := 71) dX5_join_65 (by decide) (fun c_65 => ?_) (fun c_65 => ?_)
      · have h_65t := c_65
        refine sx_iinc (pc := 71) (v := nI (j + 1)) (L' := [some (.ref (X.2 + 0)), some (.int dev), some (.ref (X.2 + (2 + 9 * dev.toNatClampNeg))), some (.int y), some (.int (nI (j + 1)))]) dX5_join_71 rfl (nI_1 j) (by decide) rfl ?_
        refine sx_goto (pc := 74) (tgt := 23) dX5_join_74 (by decide) ?_
        exact ih (j + 1) _ _ (by omega) (by omega) (Ch.trans (Ch.trans hC k_57 (fun a (h : a = 94) => by show SC a; show 57 ≤ a ∧ a ≤ 94; omega)) k_62 (fun _ h => h)) J1 (by first | (rw [hy]; exact (J3 h_65f).symm) | (rw [hy]; exact (J2 h_65t).symm))
      · have h_65f := c_65
        refine sx_iinc (pc := 68) (v := y + 1) (L' := [some (.ref (X.2 + 0)), some (.int dev), some (.ref (X.2 + (2 + 9 * dev.toNatClampNeg))), some (.int (y + 1)), some (.int (nI j))]) dX5_join_68 rfl rfl (by decide) rfl ?_
        refine sx_iinc (pc := 71) (v := nI (j + 1)) (L' := [some (.ref (X.2 + 0)), some (.int dev), some (.ref (X.2 + (2 + 9 * dev.toNatClampNeg))), some (.int (y + 1)), some (.int (nI (j + 1)))]) dX5_join_71 rfl (nI_1 j) (by decide) rfl ?_
        refine sx_goto (pc := 74) (tgt := 23) dX5_join_74 (by decide) ?_
        exact ih (j + 1) _ _ (by omega) (by omega) (Ch.trans (Ch.trans hC k_57 (fun a (h : a = 94) => by show SC a; show 57 ≤ a ∧ a ≤ 94; omega)) k_62 (fun _ h => h)) J1 (by first | (rw [hy]; exact (J3 h_65f).symm) | (rw [hy]; exact (J2 h_65t).symm))
set_option maxHeartbeats 1000000 in
set_option maxRecDepth 20000 in
theorem p_join (X : xD) (Ex : State → Prop) (hE : xEs X false shA.length Ex) (μ : xM) (dev : Int32) {v : VT} {n : Nat} (hn : n + 30 < 2 ^ 20) (hV : Vc μ v) (hD : VD n v) : Ct X Ex false yX5_join kX5_join (rmN 4) [.ref (X.2 + 0), .int dev] shA μ (fun r sh' μ' => shA = sh' ∧ Ks μ μ' ∧ Vc μ' ((oJoin dev v).1) ∧ r = some (.int ((oJoin dev v).2))) := by
  refine Ct.of (L0 := [some (.ref (X.2 + 0)), some (.int dev), none, none, none]) (by decide) rfl (fun h => by cases h) (by simp [Value.category]) (Nat.le_of_ble_eq_true rfl) rfl (fun l => ?_)
  refine sx_iload_n (pc := 0) dX5_join_0 rfl rfl ?_
  refine sx_bipush (pc := 1) (v := 6) dX5_join_1 (by decide) ?_
  refine sx_callS (pc := 3) (As := [.int dev, .int 6]) dX5_join_3 (c_isBelow X Ex false shA μ _ _) mX5_isBelow lm_X5_41 rfl ⟨Nat.le_of_ble_eq_true rfl, Nat.le_of_ble_eq_true rfl⟩ ⟨Nat.le_of_ble_eq_true rfl, Nat.le_of_ble_eq_true rfl⟩ (Nat.le_of_ble_eq_true rfl) hE (fun r_3 sh1 μ1 h_3 => ?_)
  obtain ⟨rfl, rfl, x_3, rfl, hx_3⟩ := h_3
  refine sx_if_ne (pc := 6) (tgt := 11) dX5_join_6 (by decide) (fun c_6 => ?_) (fun c_6 => ?_)
  · have h_6t := c_6
    have hb := isB_t hx_3 h_6t
    have hd := clamp_lt (n := 6) hb.1 hb.2 (by decide)
    obtain ⟨q, hq, e⟩ := nI_of2 (x := lR v dev.toNatClampNeg) (M := 20) (n := 20) rfl (Int32.not_lt.mpr (hD.1 _ hd).2.2.2.1) (hD.1 _ hd).2.2.2.2
    refine sx_aload_n (pc := 11) dX5_join_11 rfl rfl ?_
    refine sx_getr (pc := 12) (ci := 5) (j := 0) (r := 1) dX5_join_12 rfl s_EW rfl (by decide) lf_X5_11 ?_
    refine sx_iload_n (pc := 15) dX5_join_15 rfl rfl ?_
    refine sx_aald (pc := 16) (r := 2 + 9 * dev.toNatClampNeg) dX5_join_16 s_lines rfl rfl (vp_in_lt (n := 6) hb.1 hb.2 (by decide)) (el_lines _ hd) ?_
    refine sx_astore_n (pc := 17) (L' := [some (.ref (X.2 + 0)), some (.int dev), some (.ref (X.2 + (2 + 9 * dev.toNatClampNeg))), none, none]) dX5_join_17 rfl (by decide) rfl ?_
    refine sx_iconst (pc := 18) (v := 0) dX5_join_18 (by decide) ?_
    refine sx_istore_n (pc := 19) (L' := [some (.ref (X.2 + 0)), some (.int dev), some (.ref (X.2 + (2 + 9 * dev.toNatClampNeg))), some (.int 0), none]) dX5_join_19 rfl (by decide) rfl ?_
    refine sx_iconst (pc := 20) (v := 0) dX5_join_20 (by decide) ?_
    refine sx_istore (pc := 21) (L' := [some (.ref (X.2 + 0)), some (.int dev), some (.ref (X.2 + (2 + 9 * dev.toNatClampNeg))), some (.int 0), some (.int 0)]) dX5_join_21 (by decide) rfl ?_
    exact l_join hE hb hd hn hV hD hq e 20 0 _ _ (by omega) (Nat.zero_le _) Ch.rf hV.2.2.2 rfl
  · have h_6f := c_6
    refine sx_iconst (pc := 9) (v := (-1)) dX5_join_9 (by decide) ?_
    exact sx_iret (pc := 10) dX5_join_10 rfl rfl (Nat.zero_le _) (Nat.zero_le _) (⟨rfl, fun _ _ => rfl, by rw [oJoin, if_neg (isB_f hx_3 h_6f)]; exact hV, by rw [oJoin, if_neg (isB_f hx_3 h_6f)]⟩)
