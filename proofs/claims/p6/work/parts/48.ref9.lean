/-! join of the reference -/
def Jm (μ μ' : xM) : Prop := (∀ a, a ≠ 95 → ¬ (110 ≤ a ∧ a ≤ 115) → μ' a = μ a) ∧ μ' 95 22 = μ 95 22
theorem Jm.step {μ μ1 μ2 μ3 μ4 : xM} {a b : Int32} (h : Jm μ μ1) (e1 : μ2 = xup μ1 95 27 a) (e2 : μ3 = xup μ2 95 26 b) (k : Hm μ3 μ4) : Jm μ μ4 :=
  ⟨fun c c1 c2 => by rw [k.1 c c1 c2, xk e2 c1, xk e1 c1]; exact h.1 c c1 c2, by rw [k.2 22 (by decide) (by decide), xo e2 (by decide), xo e1 (by decide)]; exact h.2⟩
theorem jm_ok {μ μ1 μ2 : xM} {v : VT} {dev : Int32} (hV : Vm μ v) (hb : isD dev) (hJ : Jm μ μ1) (hH : hvw μ1 = (jl v dev ((lR v (dev.toNatClampNeg)).toNatClampNeg)).1) (e : μ2 = xup μ1 106 dev.toNatClampNeg 0) : Kl μ μ2 ∧ Vm μ2 (oJoin dev v).1 := by
  obtain ⟨hv, hT⟩ := hV
  subst hv
  have k : ∀ a, a ≠ 106 → a ≠ 95 → ¬ (110 ≤ a ∧ a ≤ 115) → μ2 a = μ a := fun a a1 a2 a3 => (xk e a1).trans (hJ.1 a a2 a3)
  rw [oJoin, if_pos hb]
  refine ⟨fun a ha => k a (by omega) (by omega) (by omega), ⟨?_, hT.same (k 102 (by decide) (by decide) (by omega)) (k 104 (by decide) (by decide) (by omega))⟩⟩
  have h0 : vw μ2 = ((μ1 96, μ1 97, μ1 98, μ1 99, μ1 100, μ1 101, upd (μ1 106) dev.toNatClampNeg 0, μ1 107, μ1 108, μ1 109, μ1 95 22), hvw μ1) := by rw [e]; rfl
  rw [h0, hH, hJ.2, hJ.1 96 (by decide) (by omega), hJ.1 97 (by decide) (by omega), hJ.1 98 (by decide) (by omega), hJ.1 99 (by decide) (by omega), hJ.1 100 (by decide) (by omega), hJ.1 101 (by decide) (by omega), hJ.1 106 (by decide) (by omega), hJ.1 107 (by decide) (by omega), hJ.1 108 (by decide) (by omega), hJ.1 109 (by decide) (by omega)]
  rfl
theorem js_C {v : VT} {dev : Int32} {d i p j : Nat} (ecd : dev.toNatClampNeg = d) (hk : lK v (20 * d + j) = 0) (hie : lI v (20 * d + j) = nI i) (hi : i < 30) (hpe : lP v (20 * d + j) = nI p) (hp : p < 30) : (jl v dev (j + 1)).1 = sC (jl v dev j).1 dev (-1) i p ∧ (oC (jl v dev j).1 i p → (jl v dev (j + 1)).2 = (jl v dev j).2 + 1) ∧ (¬ oC (jl v dev j).1 i p → (jl v dev (j + 1)).2 = (jl v dev j).2) := by
  have e : jl v dev (j + 1) = (sC (jl v dev j).1 dev (-1) i p, if oC (jl v dev j).1 i p then (jl v dev j).2 + 1 else (jl v dev j).2) := by
    show jst v dev (jl v dev j) j = _
    rw [jst, ecd, if_pos hk, hie, hpe, nI_clamp (n := i) (by omega), nI_clamp (n := p) (by omega)]
  rw [e]
  exact ⟨rfl, fun z => if_pos z, fun z => if_neg z⟩
theorem js_B {v : VT} {dev : Int32} {d i j : Nat} (ecd : dev.toNatClampNeg = d) (hk : ¬ lK v (20 * d + j) = 0) (hie : lI v (20 * d + j) = nI i) (hi : i < 30) : (jl v dev (j + 1)).1 = sB (jl v dev j).1 dev (-1) i ∧ (oB (jl v dev j).1 i → (jl v dev (j + 1)).2 = (jl v dev j).2 + 1) ∧ (¬ oB (jl v dev j).1 i → (jl v dev (j + 1)).2 = (jl v dev j).2) := by
  have e : jl v dev (j + 1) = (sB (jl v dev j).1 dev (-1) i, if oB (jl v dev j).1 i then (jl v dev j).2 + 1 else (jl v dev j).2) := by
    show jst v dev (jl v dev j) j = _
    rw [jst, ecd, if_neg hk, hie, nI_clamp (n := i) (by omega)]
  rw [e]
  exact ⟨rfl, fun z => if_pos z, fun z => if_neg z⟩
set_option maxHeartbeats 1000000 in
set_option maxRecDepth 20000 in
theorem l_mj_end {X : xD} {Ex : State → Prop} (hE : xEs X false shA.length Ex) {l : Launch} {d : Nat} (hd : d < 6) (hb : isD (nI d)) {μ0 : xM} {v : VT} {n : Nat} (hn : n + 30 < 2 ^ 20) (hV : Vm μ0 v) (hD : VD n v) {q : Nat} (hq : q ≤ 20) (hvq : lR v (nI d).toNatClampNeg = nI q) {μb : xM} (hKb : Kl μb μ0) {μ : xM} (hJ : Jm μ0 μ) (hH : hvw μ = (jl v (nI d) q).1) (y r : Int32) (hy : y = (jl v (nI d) q).2) (o4 : Option Value) : sx l (rmN 2) X Ex false kX6_join shA.length (xZ X false shA.length (fun r sh' μ' => shA = sh' ∧ Kl μb μ' ∧ Vm μ' (oJoin (nI d) v).1 ∧ r = some (.int (oJoin (nI d) v).2)) 0 0) 108 [some (.ref (X.2 + 95)), some (.int (nI d)), some (.int y), some (.int r), o4] [] shA μ 0 0 := by
  have ec : (lR v (nI d).toNatClampNeg).toNatClampNeg = q := by rw [hvq, nI_clamp (by omega)]
  have e3 : (oJoin (nI d) v).2 = (jl v (nI d) q).2 := by rw [oJoin, if_pos hb, ec]
  refine sx_aload_n (pc := 108) dX6_join_108 rfl rfl ?_
  refine sx_getr (pc := 109) (ci := 6) (j := 11) (r := 106) dX6_join_109 rfl s_Mo rfl (by decide) lf_X6_42 ?_
  refine sx_iload_n (pc := 112) dX6_join_112 rfl rfl ?_
  refine sx_iconst (pc := 113) (v := 0) dX6_join_113 (by decide) ?_
  refine sx_iast (pc := 114) dX6_join_114 s_M11 (by decide) rfl (vp_in_nI (by omega) (by decide)) (fun μ1 hμ1 => ?_)
  obtain ⟨g1, g2⟩ := jm_ok hV hb hJ (by rw [ec]; exact hH) hμ1
  refine sx_iload_n (pc := 115) dX6_join_115 rfl rfl ?_
  exact sx_iret (pc := 116) dX6_join_116 rfl rfl (Nat.zero_le _) (Nat.zero_le _) (⟨rfl, hKb.tr g1, g2, by rw [e3, hy]⟩)
set_option maxHeartbeats 1000000 in
set_option maxRecDepth 20000 in
theorem l_mj {X : xD} {Ex : State → Prop} (hE : xEs X false shA.length Ex) {l : Launch} {d : Nat} (hd : d < 6) (hb : isD (nI d)) {μ0 : xM} {v : VT} {n : Nat} (hn : n + 30 < 2 ^ 20) (hV : Vm μ0 v) (hD : VD n v) {q : Nat} (hq : q ≤ 20) (hvq : lR v (nI d).toNatClampNeg = nI q) {μb : xM} (hKb : Kl μb μ0) : ∀ (t j : Nat) (y : Int32) (o4 : Option Value) (μ : xM), q - j ≤ t → j ≤ q → μ 106 (nI d).toNatClampNeg = nI q → Jm μ0 μ → hvw μ = (jl v (nI d) j).1 → y = (jl v (nI d) j).2 → sx l (rmN 2) X Ex false kX6_join shA.length (xZ X false shA.length (fun r sh' μ' => shA = sh' ∧ Kl μb μ' ∧ Vm μ' (oJoin (nI d) v).1 ∧ r = some (.int (oJoin (nI d) v).2)) 0 0) 21 [some (.ref (X.2 + 95)), some (.int (nI d)), some (.int y), some (.int (nI (20 * d + j))), o4] [] shA μ 0 0 := by
  intro t
  induction t with
  | zero =>
    intro j y o4 μ ht hj hr hJ hH hy
    have hjq : j = q := by omega
    subst hjq
    refine sx_iload_n (pc := 21) dX6_join_21 rfl rfl ?_
    refine sx_bipush (pc := 22) (v := 20) dX6_join_22 (by decide) ?_
    refine sx_iload_n (pc := 24) dX6_join_24 rfl rfl ?_
    refine sx_imul (pc := 25) dX6_join_25 ?_
    rw [show (20 : Int32) = nI 20 from rfl, pk_mul]
    refine sx_aload_n (pc := 26) dX6_join_26 rfl rfl ?_
    refine sx_getr (pc := 27) (ci := 6) (j := 11) (r := 106) dX6_join_27 rfl s_Mo rfl (by decide) lf_X6_42 ?_
    refine sx_iload_n (pc := 30) dX6_join_30 rfl rfl ?_
    refine sx_iald (pc := 31) dX6_join_31 s_M11 (by decide) rfl (vp_in_nI (by omega) (by decide)) ?_
    rw [hr]
    refine sx_iadd (pc := 32) dX6_join_32 ?_
    rw [nI_add]
    refine sx_icmp_ge (pc := 33) (tgt := 108) dX6_join_33 (by decide) (fun c_33 => ?_) (fun c_33 => absurd (nI_le (by omega) (by omega)) c_33)
    exact l_mj_end hE hd hb hn hV hD hq hvq hKb hJ hH _ _ hy _
  | succ t ih =>
    intro j y o4 μ ht hj hr hJ hH hy
    refine sx_iload_n (pc := 21) dX6_join_21 rfl rfl ?_
    refine sx_bipush (pc := 22) (v := 20) dX6_join_22 (by decide) ?_
    refine sx_iload_n (pc := 24) dX6_join_24 rfl rfl ?_
    refine sx_imul (pc := 25) dX6_join_25 ?_
    rw [show (20 : Int32) = nI 20 from rfl, pk_mul]
    refine sx_aload_n (pc := 26) dX6_join_26 rfl rfl ?_
    refine sx_getr (pc := 27) (ci := 6) (j := 11) (r := 106) dX6_join_27 rfl s_Mo rfl (by decide) lf_X6_42 ?_
    refine sx_iload_n (pc := 30) dX6_join_30 rfl rfl ?_
    refine sx_iald (pc := 31) dX6_join_31 s_M11 (by decide) rfl (vp_in_nI (by omega) (by decide)) ?_
    rw [hr]
    refine sx_iadd (pc := 32) dX6_join_32 ?_
    rw [nI_add]
    refine sx_icmp_ge (pc := 33) (tgt := 108) dX6_join_33 (by decide) (fun c_33 => ?_) (fun c_33 => ?_)
    · have h_33t := c_33
      have hjq : j = q := by have : 20 * d + q ≤ 20 * d + j := Nat.le_of_not_lt (fun z => absurd (nI_lt z (by omega)) (Int32.not_lt.mpr h_33t)); omega
      subst hjq
      exact l_mj_end hE hd hb hn hV hD hq hvq hKb hJ hH _ _ hy _
    · have h_33f := c_33
      have hlt : j < q := Nat.lt_of_not_le fun z => h_33f (nI_le (by omega) (by omega))
      have ecd : (nI d).toNatClampNeg = d := nI_clamp (by omega)
      have hrr := hD.2.1 (20 * d + j) (by omega)
      obtain ⟨i, hi, hie⟩ := rng hrr.1.1 ((lt_of_le _ 29 (by decide)).mpr hrr.1.2)
      obtain ⟨p, hp, hpe⟩ := rng hrr.2.1 ((lt_of_le _ 29 (by decide)).mpr hrr.2.2)
      have v107 : μ0 107 = lK v := congrArg (fun y : VT => lK y) hV.1
      have v108 : μ0 108 = lI v := congrArg (fun y : VT => lI y) hV.1
      have v109 : μ0 109 = lP v := congrArg (fun y : VT => lP y) hV.1
      obtain ⟨kk0, hkk⟩ : ∃ z : Int32, lK v (20 * d + j) = z := ⟨_, rfl⟩
      have h107 : μ 107 (nI (20 * d + j)).toNatClampNeg = kk0 := by rw [nI_clamp (by omega), hJ.1 107 (by decide) (by omega), v107]; exact hkk
      have h108 : μ 108 (nI (20 * d + j)).toNatClampNeg = nI i := by rw [nI_clamp (by omega), hJ.1 108 (by decide) (by omega), v108]; exact hie
      have h109 : μ 109 (nI (20 * d + j)).toNatClampNeg = nI p := by rw [nI_clamp (by omega), hJ.1 109 (by decide) (by omega), v109]; exact hpe
      have hWj := hw_jl hD hb j (by omega)
      rw [← hH] at hWj
      obtain ⟨k, hkn, hk⟩ := hWj.2
      have hk : μ 95 20 = nI k := hk
      obtain ⟨⟨q9, hq9, hw9, -⟩, -⟩ := hWj.1 i hi
      have hw9 : μ 113 i = nI q9 := hw9
      refine sx_aload_n (pc := 36) dX6_join_36 rfl rfl ?_
      refine sx_aload_n (pc := 37) dX6_join_37 rfl rfl ?_
      refine sx_getr (pc := 38) (ci := 6) (j := 13) (r := 108) dX6_join_38 rfl s_Mo rfl (by decide) lf_X6_48 ?_
      refine sx_iload_n (pc := 41) dX6_join_41 rfl rfl ?_
      refine sx_iald (pc := 42) dX6_join_42 s_M13 (by decide) rfl (vp_in_nI (by omega) (by decide)) ?_
      rw [h108]
      refine sx_puti (pc := 43) (ci := 6) (j := 27) (ty := .int) dX6_join_43 rfl s_Mo rfl (by decide) lf_X6_110 rfl (by decide +kernel) rfl rfl (fun μ1 hμ1 => ?_)
      have e_43 := hμ1
      have hr_μ1 : μ1 106 ((nI d).toNatClampNeg) = nI q := by rw [hμ1, xup_at, if_neg (by omega)]; exact hr
      have h107_μ1 : μ1 107 ((nI (20 * d + j)).toNatClampNeg) = kk0 := by rw [hμ1, xup_at, if_neg (by omega)]; exact h107
      have h108_μ1 : μ1 108 ((nI (20 * d + j)).toNatClampNeg) = nI i := by rw [hμ1, xup_at, if_neg (by omega)]; exact h108
      have h109_μ1 : μ1 109 ((nI (20 * d + j)).toNatClampNeg) = nI p := by rw [hμ1, xup_at, if_neg (by omega)]; exact h109
      have hk_μ1 : μ1 95 20 = nI k := by rw [hμ1, xup_at, if_neg (by omega)]; exact hk
      have hit_μ1 : μ1 95 27 = nI i := by rw [hμ1, xup_at, if_pos ⟨rfl, rfl⟩]
      refine sx_aload_n (pc := 46) dX6_join_46 rfl rfl ?_
      refine sx_aload_n (pc := 47) dX6_join_47 rfl rfl ?_
      refine sx_getr (pc := 48) (ci := 6) (j := 14) (r := 109) dX6_join_48 rfl s_Mo rfl (by decide) lf_X6_51 ?_
      refine sx_iload_n (pc := 51) dX6_join_51 rfl rfl ?_
      refine sx_iald (pc := 52) dX6_join_52 s_M14 (by decide) rfl (vp_in_nI (by omega) (by decide)) ?_
      rw [h109_μ1]
      refine sx_puti (pc := 53) (ci := 6) (j := 26) (ty := .int) dX6_join_53 rfl s_Mo rfl (by decide) lf_X6_104 rfl (by decide +kernel) rfl rfl (fun μ2 hμ2 => ?_)
      have e_53 := hμ2
      have hr_μ2 : μ2 106 ((nI d).toNatClampNeg) = nI q := by rw [hμ2, xup_at, if_neg (by omega)]; exact hr_μ1
      have h107_μ2 : μ2 107 ((nI (20 * d + j)).toNatClampNeg) = kk0 := by rw [hμ2, xup_at, if_neg (by omega)]; exact h107_μ1
      have h108_μ2 : μ2 108 ((nI (20 * d + j)).toNatClampNeg) = nI i := by rw [hμ2, xup_at, if_neg (by omega)]; exact h108_μ1
      have h109_μ2 : μ2 109 ((nI (20 * d + j)).toNatClampNeg) = nI p := by rw [hμ2, xup_at, if_neg (by omega)]; exact h109_μ1
      have hk_μ2 : μ2 95 20 = nI k := by rw [hμ2, xup_at, if_neg (by omega)]; exact hk_μ1
      have hit_μ2 : μ2 95 27 = nI i := by rw [hμ2, xup_at, if_neg (by omega)]; exact hit_μ1
      have hpn_μ2 : μ2 95 26 = nI p := by rw [hμ2, xup_at, if_pos ⟨rfl, rfl⟩]
      refine sx_aload_n (pc := 56) dX6_join_56 rfl rfl ?_
      refine sx_getr (pc := 57) (ci := 6) (j := 12) (r := 107) dX6_join_57 rfl s_Mo rfl (by decide) lf_X6_45 ?_
      refine sx_iload_n (pc := 60) dX6_join_60 rfl rfl ?_
      refine sx_iald (pc := 61) dX6_join_61 s_M12 (by decide) rfl (vp_in_nI (by omega) (by decide)) ?_
      rw [h107_μ2]
      refine sx_if_ne (pc := 62) (tgt := 74) dX6_join_62 (by decide) (fun c_62 => ?_) (fun c_62 => ?_)
      · have h_62t := c_62
        refine sx_aload_n (pc := 74) dX6_join_74 rfl rfl ?_
        refine sx_iload_n (pc := 75) dX6_join_75 rfl rfl ?_
        refine sx_iconst (pc := 76) (v := (-1)) dX6_join_76 (by decide) ?_
        have hvM : hvw μ2 = hvw μ := hvw_eq (fun a a1 a2 => by rw [xk e_53 (by omega), xk e_43 (by omega)]) (by rw [xo e_53 (by decide), xo e_43 (by decide)])
        refine sx_callV (pc := 77) (As := [.int (nI d), .int (-1)]) dX6_join_77 (c_brings X Ex hE μ2 _ _ i k hi (by omega) hit_μ2 hk_μ2 hq9 (by rw [xk e_53 (by decide), xk e_43 (by decide)]; exact hw9)) mX6_brings lm_X6_165 rfl s_Mo rfl ⟨Nat.le_of_ble_eq_true rfl, Nat.le_of_ble_eq_true rfl⟩ ⟨Nat.le_of_ble_eq_true rfl, Nat.le_of_ble_eq_true rfl⟩ (Nat.le_of_ble_eq_true rfl) hE (fun r_77 sh1 μ3 h_77 => ?_)
        obtain ⟨rfl, kk, tt, vv, xx, rfl, hxx⟩ := h_77
        rw [hvM, hH] at tt vv
        have hr_μ3 : μ3 106 ((nI d).toNatClampNeg) = nI q := by rw [kk.1 106 (by decide) (by omega)]; exact hr_μ2
        by_cases ho : oB (jl v (nI d) j).1 i
        · have hv9 : μ3 95 29 = 1 := vv.trans (if_pos ho)
          refine sx_istore (pc := 80) (L' := [some (.ref (X.2 + 95)), some (.int (nI d)), some (.int y), some (.int (nI (20 * d + j))), some (.int xx)]) dX6_join_80 (by decide) rfl ?_
          refine sx_iload_n (pc := 82) dX6_join_82 rfl rfl ?_
          refine sx_aload_n (pc := 83) dX6_join_83 rfl rfl ?_
          refine sx_geti (pc := 84) (ci := 6) (j := 29) dX6_join_84 rfl s_Mo rfl (by decide) lf_X6_148 ?_
          rw [hv9]
          refine sx_if_eq (pc := 87) (tgt := 99) dX6_join_87 (by decide) (fun c_87 => absurd c_87 (by decide)) (fun c_87 => ?_)
          refine sx_iload (pc := 90) dX6_join_90 rfl ?_
          refine sx_if_lt (pc := 92) (tgt := 99) dX6_join_92 (by decide) (fun c_92 => absurd c_92 (Int32.not_lt.mpr hxx)) (fun c_92 => ?_)
          refine sx_iconst (pc := 95) (v := 1) dX6_join_95 (by decide) ?_
          refine sx_goto (pc := 96) (tgt := 100) dX6_join_96 (by decide) ?_
          refine sx_iadd (pc := 100) dX6_join_100 ?_
          refine sx_istore_n (pc := 101) (L' := [some (.ref (X.2 + 95)), some (.int (nI d)), some (.int (y + 1)), some (.int (nI (20 * d + j))), some (.int xx)]) dX6_join_101 rfl (by decide) rfl ?_
          refine sx_iinc (pc := 102) (v := nI (20 * d + (j + 1))) (L' := [some (.ref (X.2 + 95)), some (.int (nI d)), some (.int (y + 1)), some (.int (nI (20 * d + (j + 1)))), some (.int xx)]) dX6_join_102 rfl (nI_1 _) (by decide) rfl ?_
          refine sx_goto (pc := 105) (tgt := 21) dX6_join_105 (by decide) ?_
          exact ih (j + 1) _ _ _ (by omega) (by omega) hr_μ3 (hJ.step e_43 e_53 kk) (by rw [tt]; exact (js_B (dev := nI d) ecd (by rw [hkk]; exact h_62t) hie hi).1.symm) (by rw [hy]; exact ((js_B (dev := nI d) ecd (by rw [hkk]; exact h_62t) hie hi).2.1 ho).symm)
        · have hv9 : μ3 95 29 = 0 := vv.trans (if_neg ho)
          refine sx_istore (pc := 80) (L' := [some (.ref (X.2 + 95)), some (.int (nI d)), some (.int y), some (.int (nI (20 * d + j))), some (.int xx)]) dX6_join_80 (by decide) rfl ?_
          refine sx_iload_n (pc := 82) dX6_join_82 rfl rfl ?_
          refine sx_aload_n (pc := 83) dX6_join_83 rfl rfl ?_
          refine sx_geti (pc := 84) (ci := 6) (j := 29) dX6_join_84 rfl s_Mo rfl (by decide) lf_X6_148 ?_
          rw [hv9]
          refine sx_if_eq (pc := 87) (tgt := 99) dX6_join_87 (by decide) (fun c_87 => ?_) (fun c_87 => absurd c_87 (by decide))
          refine sx_iconst (pc := 99) (v := 0) dX6_join_99 (by decide) ?_
          refine sx_iadd (pc := 100) dX6_join_100 ?_
          refine sx_istore_n (pc := 101) (L' := [some (.ref (X.2 + 95)), some (.int (nI d)), some (.int (y + 0)), some (.int (nI (20 * d + j))), some (.int xx)]) dX6_join_101 rfl (by decide) rfl ?_
          refine sx_iinc (pc := 102) (v := nI (20 * d + (j + 1))) (L' := [some (.ref (X.2 + 95)), some (.int (nI d)), some (.int (y + 0)), some (.int (nI (20 * d + (j + 1)))), some (.int xx)]) dX6_join_102 rfl (nI_1 _) (by decide) rfl ?_
          refine sx_goto (pc := 105) (tgt := 21) dX6_join_105 (by decide) ?_
          exact ih (j + 1) _ _ _ (by omega) (by omega) hr_μ3 (hJ.step e_43 e_53 kk) (by rw [tt]; exact (js_B (dev := nI d) ecd (by rw [hkk]; exact h_62t) hie hi).1.symm) (by rw [hy]; rw [Int32.add_zero]; exact ((js_B (dev := nI d) ecd (by rw [hkk]; exact h_62t) hie hi).2.2 ho).symm)
      · have h_62f := c_62
        refine sx_aload_n (pc := 65) dX6_join_65 rfl rfl ?_
        refine sx_iload_n (pc := 66) dX6_join_66 rfl rfl ?_
        refine sx_iconst (pc := 67) (v := (-1)) dX6_join_67 (by decide) ?_
        have hvM : hvw μ2 = hvw μ := hvw_eq (fun a a1 a2 => by rw [xk e_53 (by omega), xk e_43 (by omega)]) (by rw [xo e_53 (by decide), xo e_43 (by decide)])
        refine sx_callV (pc := 68) (As := [.int (nI d), .int (-1)]) dX6_join_68 (c_lends X Ex hE μ2 _ _ i p k hi hp (by omega) hit_μ2 hpn_μ2 hk_μ2 hq9 (by rw [xk e_53 (by decide), xk e_43 (by decide)]; exact hw9)) mX6_lends lm_X6_162 rfl s_Mo rfl ⟨Nat.le_of_ble_eq_true rfl, Nat.le_of_ble_eq_true rfl⟩ ⟨Nat.le_of_ble_eq_true rfl, Nat.le_of_ble_eq_true rfl⟩ (Nat.le_of_ble_eq_true rfl) hE (fun r_68 sh1 μ4 h_68 => ?_)
        obtain ⟨rfl, kk, tt, vv, xx, rfl, hxx⟩ := h_68
        rw [hvM, hH] at tt vv
        have hr_μ4 : μ4 106 ((nI d).toNatClampNeg) = nI q := by rw [kk.1 106 (by decide) (by omega)]; exact hr_μ2
        by_cases ho : oC (jl v (nI d) j).1 i p
        · have hv9 : μ4 95 29 = 1 := vv.trans (if_pos ho)
          refine sx_goto (pc := 71) (tgt := 80) dX6_join_71 (by decide) ?_
          refine sx_istore (pc := 80) (L' := [some (.ref (X.2 + 95)), some (.int (nI d)), some (.int y), some (.int (nI (20 * d + j))), some (.int xx)]) dX6_join_80 (by decide) rfl ?_
          refine sx_iload_n (pc := 82) dX6_join_82 rfl rfl ?_
          refine sx_aload_n (pc := 83) dX6_join_83 rfl rfl ?_
          refine sx_geti (pc := 84) (ci := 6) (j := 29) dX6_join_84 rfl s_Mo rfl (by decide) lf_X6_148 ?_
          rw [hv9]
          refine sx_if_eq (pc := 87) (tgt := 99) dX6_join_87 (by decide) (fun c_87 => absurd c_87 (by decide)) (fun c_87 => ?_)
          refine sx_iload (pc := 90) dX6_join_90 rfl ?_
          refine sx_if_lt (pc := 92) (tgt := 99) dX6_join_92 (by decide) (fun c_92 => absurd c_92 (Int32.not_lt.mpr hxx)) (fun c_92 => ?_)
          refine sx_iconst (pc := 95) (v := 1) dX6_join_95 (by decide) ?_
          refine sx_goto (pc := 96) (tgt := 100) dX6_join_96 (by decide) ?_
          refine sx_iadd (pc := 100) dX6_join_100 ?_
          refine sx_istore_n (pc := 101) (L' := [some (.ref (X.2 + 95)), some (.int (nI d)), some (.int (y + 1)), some (.int (nI (20 * d + j))), some (.int xx)]) dX6_join_101 rfl (by decide) rfl ?_
          refine sx_iinc (pc := 102) (v := nI (20 * d + (j + 1))) (L' := [some (.ref (X.2 + 95)), some (.int (nI d)), some (.int (y + 1)), some (.int (nI (20 * d + (j + 1)))), some (.int xx)]) dX6_join_102 rfl (nI_1 _) (by decide) rfl ?_
          refine sx_goto (pc := 105) (tgt := 21) dX6_join_105 (by decide) ?_
          exact ih (j + 1) _ _ _ (by omega) (by omega) hr_μ4 (hJ.step e_43 e_53 kk) (by rw [tt]; exact (js_C (dev := nI d) ecd (by rw [hkk]; exact h_62f) hie hi hpe hp).1.symm) (by rw [hy]; exact ((js_C (dev := nI d) ecd (by rw [hkk]; exact h_62f) hie hi hpe hp).2.1 ho).symm)
        · have hv9 : μ4 95 29 = 0 := vv.trans (if_neg ho)
          refine sx_goto (pc := 71) (tgt := 80) dX6_join_71 (by decide) ?_
          refine sx_istore (pc := 80) (L' := [some (.ref (X.2 + 95)), some (.int (nI d)), some (.int y), some (.int (nI (20 * d + j))), some (.int xx)]) dX6_join_80 (by decide) rfl ?_
          refine sx_iload_n (pc := 82) dX6_join_82 rfl rfl ?_
          refine sx_aload_n (pc := 83) dX6_join_83 rfl rfl ?_
          refine sx_geti (pc := 84) (ci := 6) (j := 29) dX6_join_84 rfl s_Mo rfl (by decide) lf_X6_148 ?_
          rw [hv9]
          refine sx_if_eq (pc := 87) (tgt := 99) dX6_join_87 (by decide) (fun c_87 => ?_) (fun c_87 => absurd c_87 (by decide))
          refine sx_iconst (pc := 99) (v := 0) dX6_join_99 (by decide) ?_
          refine sx_iadd (pc := 100) dX6_join_100 ?_
          refine sx_istore_n (pc := 101) (L' := [some (.ref (X.2 + 95)), some (.int (nI d)), some (.int (y + 0)), some (.int (nI (20 * d + j))), some (.int xx)]) dX6_join_101 rfl (by decide) rfl ?_
          refine sx_iinc (pc := 102) (v := nI (20 * d + (j + 1))) (L' := [some (.ref (X.2 + 95)), some (.int (nI d)), some (.int (y + 0)), some (.int (nI (20 * d + (j + 1)))), some (.int xx)]) dX6_join_102 rfl (nI_1 _) (by decide) rfl ?_
          refine sx_goto (pc := 105) (tgt := 21) dX6_join_105 (by decide) ?_
          exact ih (j + 1) _ _ _ (by omega) (by omega) hr_μ4 (hJ.step e_43 e_53 kk) (by rw [tt]; exact (js_C (dev := nI d) ecd (by rw [hkk]; exact h_62f) hie hi hpe hp).1.symm) (by rw [hy]; rw [Int32.add_zero]; exact ((js_C (dev := nI d) ecd (by rw [hkk]; exact h_62f) hie hi hpe hp).2.2 ho).symm)
set_option maxHeartbeats 1000000 in
set_option maxRecDepth 20000 in
theorem q_join (X : xD) (Ex : State → Prop) (hE : xEs X false shA.length Ex) (μ : xM) (dev : Int32) {v : VT} {n : Nat} (hn : n + 30 < 2 ^ 20) (hV : Vm μ v) (hD : VD n v) : Ct X Ex false yX6_join kX6_join (rmN 2) [.ref (X.2 + 95), .int dev] shA μ (fun r sh' μ' => shA = sh' ∧ Kl μ μ' ∧ Vm μ' ((oJoin dev v).1) ∧ r = some (.int ((oJoin dev v).2))) := by
  refine Ct.of (L0 := [some (.ref (X.2 + 95)), some (.int dev), none, none, none]) (by decide) rfl (fun h => by cases h) (by simp [Value.category]) (Nat.le_of_ble_eq_true rfl) rfl (fun l => ?_)
  refine sx_aload_n (pc := 0) dX6_join_0 rfl rfl ?_
  refine sx_iconst (pc := 1) (v := 0) dX6_join_1 (by decide) ?_
  refine sx_puti (pc := 2) (ci := 6) (j := 0) (ty := .int) dX6_join_2 rfl s_Mo rfl (by decide) lf_X6_72 rfl (by decide +kernel) rfl rfl (fun μ1 hμ1 => ?_)
  obtain ⟨hV1, hK1⟩ := hV.thr hμ1
  refine sx_iload_n (pc := 5) dX6_join_5 rfl rfl ?_
  refine sx_callS (pc := 6) (As := [.int dev]) dX6_join_6 (c_isDevice X Ex hE μ1 _) mX6_isDevice lm_X6_171 rfl ⟨Nat.le_of_ble_eq_true rfl, Nat.le_of_ble_eq_true rfl⟩ ⟨Nat.le_of_ble_eq_true rfl, Nat.le_of_ble_eq_true rfl⟩ (Nat.le_of_ble_eq_true rfl) hE (fun r_6 sh1 μ2 h_6 => ?_)
  obtain ⟨rfl, rfl, x_6, rfl, hx_6⟩ := h_6
  refine sx_if_ne (pc := 9) (tgt := 14) dX6_join_9 (by decide) (fun c_9 => ?_) (fun c_9 => ?_)
  · have h_9t := c_9
    have hb := isB_t hx_6 h_9t
    have hdd := clamp_lt (n := 6) hb.1 hb.2 (by decide)
    obtain ⟨q, hq, hqe⟩ := nI_of2 (x := lR v dev.toNatClampNeg) (M := 20) (n := 20) rfl (Int32.not_lt.mpr (hD.1 _ hdd).2.2.2.1) (hD.1 _ hdd).2.2.2.2
    obtain ⟨d, hd, rfl⟩ := dev_k hb
    have h106 := congrArg (fun y : VT => lR y (nI d).toNatClampNeg) hV1.1
    refine sx_iconst (pc := 14) (v := 0) dX6_join_14 (by decide) ?_
    refine sx_istore_n (pc := 15) (L' := [some (.ref (X.2 + 95)), some (.int (nI d)), some (.int 0), none, none]) dX6_join_15 rfl (by decide) rfl ?_
    refine sx_bipush (pc := 16) (v := 20) dX6_join_16 (by decide) ?_
    refine sx_iload_n (pc := 18) dX6_join_18 rfl rfl ?_
    refine sx_imul (pc := 19) dX6_join_19 ?_
    rw [show (20 : Int32) = nI 20 from rfl, pk_mul]
    refine sx_istore_n (pc := 20) (L' := [some (.ref (X.2 + 95)), some (.int (nI d)), some (.int 0), some (.int (nI (20 * d))), none]) dX6_join_20 rfl (by decide) rfl ?_
    exact l_mj hE hd hb hn hV1 hD hq hqe hK1 20 0 _ _ _ (by omega) (Nat.zero_le _) (h106.trans hqe) ⟨fun _ _ _ => rfl, rfl⟩ (congrArg (fun y : VT => y.2) hV1.1) rfl
  · have h_9f := c_9
    refine sx_iconst (pc := 12) (v := (-1)) dX6_join_12 (by decide) ?_
    exact sx_iret (pc := 13) dX6_join_13 rfl rfl (Nat.zero_le _) (Nat.zero_le _) (⟨rfl, hK1, by rw [oJoin, if_neg (isB_f hx_6 h_9f)]; exact hV1, by rw [oJoin, if_neg (isB_f hx_6 h_9f)]⟩)
/-! the pure state stays good -/
theorem ua {N D : Nat} {P : Int32 → Prop} {f : Nat → Int32} {x : Int32} (h : ∀ d, d < N → P (f d)) (hx : P x) : ∀ d, d < N → P (upd f D x d) := fun d hd => by
  rw [upd_at]
  split
  · exact hx
  · exact h d hd
section VDS
variable {v v' : VT} {n m : Nat}
theorem vd_of (b : ∀ d, d < 6 → lB v d = 0 ∨ lB v d = 1) (g : ∀ d, d < 6 → lG v d = 0 ∨ lG v d = 1) (s : ∀ d, d < 6 → 0 ≤ lS v d ∧ lS v d ≤ 60) (r : ∀ d, d < 6 → 0 ≤ lR v d ∧ lR v d ≤ 20) (i : ∀ j, j < 120 → 0 ≤ lI v j ∧ lI v j < 30) (p : ∀ j, j < 120 → 0 ≤ lP v j ∧ lP v j < 30) (c : 0 ≤ lM v ∧ lM v < 256) (h : HW n v.2) : VD n v :=
  ⟨fun d hd => ⟨b d hd, g d hd, s d hd, r d hd⟩, fun j hj => ⟨i j hj, p j hj⟩, c, h⟩
theorem VD.b (h : VD n v) : ∀ d, d < 6 → lB v d = 0 ∨ lB v d = 1 := fun d hd => (h.1 d hd).1
theorem VD.g (h : VD n v) : ∀ d, d < 6 → lG v d = 0 ∨ lG v d = 1 := fun d hd => (h.1 d hd).2.1
theorem VD.s (h : VD n v) : ∀ d, d < 6 → 0 ≤ lS v d ∧ lS v d ≤ 60 := fun d hd => (h.1 d hd).2.2.1
theorem VD.r (h : VD n v) : ∀ d, d < 6 → 0 ≤ lR v d ∧ lR v d ≤ 20 := fun d hd => (h.1 d hd).2.2.2
theorem VD.i (h : VD n v) : ∀ j, j < 120 → 0 ≤ lI v j ∧ lI v j < 30 := fun j hj => (h.2.1 j hj).1
theorem VD.p (h : VD n v) : ∀ j, j < 120 → 0 ≤ lP v j ∧ lP v j < 30 := fun j hj => (h.2.1 j hj).2
theorem VD.mono (h : VD n v) (hm : n ≤ m) : VD m v := ⟨h.1, h.2.1, h.2.2.1, h.2.2.2.mono hm⟩
abbrev p60 (x : Int32) : Prop := 0 ≤ x ∧ x ≤ 60
abbrev p20 (x : Int32) : Prop := 0 ≤ x ∧ x ≤ 20
abbrev p30 (x : Int32) : Prop := 0 ≤ x ∧ x < 30
abbrev p01 (x : Int32) : Prop := x = 0 ∨ x = 1
theorem incn {x : Int32} {n : Nat} (hn : n < 2 ^ 30) (h0 : 0 ≤ x) (h1 : x ≤ nI n) (h2 : ¬ x = nI n) : 0 ≤ x + 1 ∧ x + 1 ≤ nI n := by
  obtain ⟨j, hj, rfl⟩ := nI_of (Int32.not_lt.mpr h0)
  rw [nI_leI hj (by omega)] at h1
  have : j ≠ n := fun q => h2 (by rw [q])
  rw [nI_1, nI_leI (by omega) (by omega)]
  exact ⟨nI_pos' (by omega), by omega⟩
theorem vd_msg (h : VD n v) {f : Nat → Int32} {z D : Nat} {dev : Int32} {t : PT} (hp : prs f z = some t) : VD (n + 1) (sMsg v D dev t) := by
  have hs : ∀ d, d < 6 → p60 (upd (lS v) D 0 d) := ua (P := p60) h.s (by decide)
  unfold sMsg
  split
  · exact vd_of h.b h.g hs h.r h.i h.p h.2.2.1 (h.2.2.2.mono (by omega))
  · split
    · exact vd_of h.b h.g hs h.r h.i h.p h.2.2.1 (h.2.2.2.mono (by omega))
    · rename_i hA
      have hb : ¬ bd t := fun q => hA (Or.inr q)
      obtain ⟨_, _, ⟨m1, b1, e1⟩, ⟨m2, b2, e2⟩, _⟩ := prs_s hp
      refine vd_of h.b (ua (P := p01) h.g (Or.inr rfl)) hs h.r h.i h.p h.2.2.1 (hw_jud h.2.2.2 _ _ _ (fun q => ?_) (fun q => ?_) _)
      · rw [e2, nI_clamp (by omega)]
        refine Nat.lt_of_not_le fun w => hb (Or.inr (Or.inl ⟨q, ?_⟩))
        rw [e2, show (29 : Int32) = nI 29 from rfl, nI_ltI (by decide) (by omega)]; omega
      · rw [e1, nI_clamp (by omega)]
        refine Nat.lt_of_not_le fun w => hb (Or.inl ⟨q, ?_⟩)
        rw [e1, show (29 : Int32) = nI 29 from rfl, nI_ltI (by decide) (by omega)]; omega
theorem vd_end (h : VD n v) (D : Nat) (dev : Int32) : VD (n + 1) (sEnd v D dev) := by
  cases e : prs (sgf v D) (lS v D).toNatClampNeg with
  | none =>
    rw [sEnd_n e]
    exact vd_of h.b h.g (ua (P := p60) h.s (by decide)) h.r h.i h.p h.2.2.1 (h.2.2.2.mono (by omega))
  | some t => rw [sEnd_s e]; exact vd_msg h e
theorem vd_oct (h : VD n v) (dev b : Int32) : VD (n + 20) (oOct dev b v).1 := by
  unfold oOct
  split
  · rename_i hb
    have hd := clamp_lt (n := 6) hb.1 hb.2 (by decide)
    split
    · split
      · exact (vd_end h _ _).mono (by omega)
      · split
        · exact vd_of (ua (P := p01) h.b (Or.inr rfl)) h.g h.s h.r h.i h.p h.2.2.1 (h.2.2.2.mono (by omega))
        · rename_i h60
          exact vd_of h.b h.g (ua (P := p60) h.s (incn (n := 60) (by decide) (h.s _ hd).1 (h.s _ hd).2 h60)) h.r h.i h.p h.2.2.1 (h.2.2.2.mono (by omega))
    · exact h.mono (by omega)
  · exact h.mono (by omega)
theorem vd_reset (h : VD n v) (dev : Int32) : VD (n + 20) (oReset dev v) := by
  unfold oReset
  split
  · exact vd_of (ua (P := p01) h.b (Or.inl rfl)) (ua (P := p01) h.g (Or.inl rfl)) (ua (P := p60) h.s (by decide)) h.r h.i h.p h.2.2.1 (h.2.2.2.mono (by omega))
  · exact h.mono (by omega)
theorem vd_off (h : VD n v) (dev k i p : Int32) : VD (n + 20) (oOff dev k i p v).1 := by
  unfold oOff
  split
  · rename_i hb
    have hd := clamp_lt (n := 6) hb.1.1 hb.1.2 (by decide)
    split
    · exact h.mono (by omega)
    · rename_i h20
      exact vd_of h.b h.g h.s (ua (P := p20) h.r (incn (n := 20) (by decide) (h.r _ hd).1 (h.r _ hd).2 h20)) (ua (P := p30) h.i hb.2.2.1) (ua (P := p30) h.p hb.2.2.2) h.2.2.1 (h.2.2.2.mono (by omega))
  · exact h.mono (by omega)
theorem vd_join (h : VD n v) (dev : Int32) : VD (n + 20) (oJoin dev v).1 := by
  unfold oJoin
  split
  · rename_i hb
    have hd := clamp_lt (n := 6) hb.1 hb.2 (by decide)
    obtain ⟨q, hq, hqe⟩ := nI_of2 (x := lR v dev.toNatClampNeg) (M := 20) (n := 20) rfl (Int32.not_lt.mpr (h.r _ hd).1) (h.r _ hd).2
    refine vd_of h.b h.g h.s (ua (P := p20) h.r (by decide)) h.i h.p h.2.2.1 ?_
    show HW (n + 20) (jl v dev (lR v dev.toNatClampNeg).toNatClampNeg).1
    rw [hqe, nI_clamp (by omega)]
    exact (hw_jl h hb q hq).mono (by omega)
  · exact h.mono (by omega)
theorem vd_owes (h : VD n v) (p c : Int32) : VD (n + 20) (oOwes p c v).1 := by
  unfold oOwes
  split
  · exact vd_of h.b h.g h.s h.r h.i h.p h.2.2.1 (HW.mono (n := n) h.2.2.2 (by omega))
  · exact h.mono (by omega)
theorem vd_sum (h : VD n v) (c : Int32) : VD (n + 20) (oSum c v).1 := by
  unfold oSum
  split
  · exact vd_of h.b h.g h.s h.r h.i h.p (show (0 : Int32) ≤ 0 ∧ (0 : Int32) < 256 by decide) (h.2.2.2.mono (by omega))
  · obtain ⟨j, hj, e⟩ := pk_andE (lM v + c) (m := 255) 8 (by decide)
    refine vd_of h.b h.g h.s h.r h.i h.p ?_ (h.2.2.2.mono (by omega))
    show 0 ≤ (lM v + c) &&& 255 ∧ (lM v + c) &&& 255 < 256
    rw [e]; exact ⟨nI_pos' (by omega), nI_lt (b := 256) hj (by decide)⟩
end VDS
