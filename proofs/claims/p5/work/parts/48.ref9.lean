/-! join of the reference -/
def Jm (μ μ' : xM) : Prop := (∀ a, a ≠ 95 → ¬ (110 ≤ a ∧ a ≤ 115) → μ' a = μ a) ∧ μ' 95 22 = μ 95 22
theorem jm_ok {μ μ1 μ2 : xM} {v : VT} {n : Nat} {dev : Int32} (hV : Vm μ v n) (hb : 0 ≤ dev ∧ dev < 6) (hJ : Jm μ μ1) (hW : WQ μ1) (hA : AB (n + 20) μ1) (e : μ2 = xup μ1 106 dev.toNatClampNeg 0) : Kl μ μ2 ∧ Vm μ2 (oJoin dev v) (n + 20) := by
  have hd := clamp_lt (n := 6) hb.1 hb.2 (by decide)
  have hl := hV.1 _ hd
  unfold Lm at hl
  have k : ∀ a, a ≠ 106 → a ≠ 95 → ¬ (110 ≤ a ∧ a ≤ 115) → μ2 a = μ a := fun a a1 a2 a3 => (xk e a1).trans (hJ.1 a a2 a3)
  rw [oJoin, if_pos hb]
  exact ⟨fun a ha => k a (by omega) (by omega) (by omega), hV.upd (by rw [xk e (by decide), hJ.2]; exact hV.2.1) (by unfold RR; rw [k 108 (by decide) (by decide) (by omega), k 109 (by decide) (by decide) (by omega)]; exact hV.2.2.1) (by unfold TK; rw [k 102 (by decide) (by decide) (by omega), k 104 (by decide) (by decide) (by omega)]; exact hV.2.2.2.1) (hW.same (xk e (by decide)) (xk e (by decide))) (ab_of hA (by rw [xk e (by decide)])) (fun i hi hne => ⟨by rw [k 96 (by decide) (by decide) (by omega)], by rw [k 98 (by decide) (by decide) (by omega)], by rw [xo e hne, hJ.1 106 (by decide) (by omega)]⟩) (fun i hi => ⟨rfl, rfl, pk_un hi⟩) ⟨by rw [k 98 (by decide) (by decide) (by omega)]; exact hl.1, by rw [k 96 (by decide) (by decide) (by omega)]; exact hl.2.1, by rw [k 96 (by decide) (by decide) (by omega)]; exact hl.2.2.1, by rw [xv e]; exact pk_us.symm⟩⟩
theorem Jm.step {μ μ1 μ2 μ3 μ4 : xM} {a b : Int32} (h : Jm μ μ1) (e1 : μ2 = xup μ1 95 27 a) (e2 : μ3 = xup μ2 95 26 b) (k : Hm μ3 μ4) : Jm μ μ4 :=
  ⟨fun c c1 c2 => by rw [k.1 c c1 c2, xk e2 c1, xk e1 c1]; exact h.1 c c1 c2, by rw [k.2 22 (by decide) (by decide), xo e2 (by decide), xo e1 (by decide)]; exact h.2⟩
set_option maxHeartbeats 1000000 in
set_option maxRecDepth 20000 in
theorem l_mj_end {X : xD} {Ex : State → Prop} (hE : xEs X false shA.length Ex) {l : Launch} {d : Nat} (hd : d < 6) (hb : 0 ≤ nI d ∧ nI d < 6) {μ0 : xM} {v : VT} {n : Nat} (hn : n + 30 < 2 ^ 20) (hV : Vm μ0 v n) {q : Nat} (hq : q ≤ 20) {μb : xM} (hKb : Kl μb μ0) {μ : xM} (hJ : Jm μ0 μ) (hW : WQ μ) (hA : AB (n + 20) μ) (y r : Int32) (o4 : Option Value) : sx l (rmN 2) X Ex false kX6_join shA.length (xZ X false shA.length (fun r sh' μ' => shA = sh' ∧ Kl μb μ' ∧ Vm μ' (oJoin (nI d) v) (n + 20) ∧ ∃ x : Int32, r = some (.int x)) 0 0) 108 [some (.ref (X.2 + 95)), some (.int (nI d)), some (.int y), some (.int r), o4] [] shA μ 0 0 := by
  refine sx_aload_n (pc := 108) dX6_join_108 rfl rfl ?_
  refine sx_getr (pc := 109) (ci := 6) (j := 11) (r := 106) dX6_join_109 rfl s_Mo rfl (by decide) lf_X6_42 ?_
  refine sx_iload_n (pc := 112) dX6_join_112 rfl rfl ?_
  refine sx_iconst (pc := 113) (v := 0) dX6_join_113 (by decide) ?_
  refine sx_iast (pc := 114) dX6_join_114 s_M11 (by decide) rfl (vp_in_nI (by omega) (by decide)) (fun μ1 hμ1 => ?_)
  obtain ⟨g1, g2⟩ := jm_ok hV hb hJ hW hA hμ1
  refine sx_iload_n (pc := 115) dX6_join_115 rfl rfl ?_
  exact sx_iret (pc := 116) dX6_join_116 rfl rfl (Nat.zero_le _) (Nat.zero_le _) (⟨rfl, hKb.tr g1, g2, _, rfl⟩)
set_option maxHeartbeats 1000000 in
set_option maxRecDepth 20000 in
theorem l_mj {X : xD} {Ex : State → Prop} (hE : xEs X false shA.length Ex) {l : Launch} {d : Nat} (hd : d < 6) (hb : 0 ≤ nI d ∧ nI d < 6) {μ0 : xM} {v : VT} {n : Nat} (hn : n + 30 < 2 ^ 20) (hV : Vm μ0 v n) {q : Nat} (hq : q ≤ 20) {μb : xM} (hKb : Kl μb μ0) : ∀ (t j : Nat) (y : Int32) (o4 : Option Value) (μ : xM), q - j ≤ t → j ≤ q → μ 106 (nI d).toNatClampNeg = nI q → Jm μ0 μ → WQ μ → AB (n + j) μ → sx l (rmN 2) X Ex false kX6_join shA.length (xZ X false shA.length (fun r sh' μ' => shA = sh' ∧ Kl μb μ' ∧ Vm μ' (oJoin (nI d) v) (n + 20) ∧ ∃ x : Int32, r = some (.int x)) 0 0) 21 [some (.ref (X.2 + 95)), some (.int (nI d)), some (.int y), some (.int (nI (20 * d + j))), o4] [] shA μ 0 0 := by
  intro t
  induction t with
  | zero =>
    intro j y o4 μ ht hj hr hJ hW hA
    refine sx_iload_n (pc := 21) dX6_join_21 rfl rfl ?_
    refine sx_bipush (pc := 22) (v := 20) dX6_join_22 (by decide) ?_
    refine sx_iload_n (pc := 24) dX6_join_24 rfl rfl ?_
    refine sx_imul (pc := 25) dX6_join_25 ?_
    rw [show (20 : Int32) = nI 20 from rfl, pk_mul]
    refine sx_aload_n (pc := 26) dX6_join_26 rfl rfl ?_
    refine sx_getr (pc := 27) (ci := 6) (j := 11) (r := 106) dX6_join_27 rfl s_Mo rfl (by decide) lf_X6_42 ?_
    refine sx_iload_n (pc := 30) dX6_join_30 rfl rfl ?_
    refine sx_iald (pc := 31) dX6_join_31 s_M11 (by decide) rfl (vp_in_nI (by omega) (by decide)) ?_
    rw [hr]
    refine sx_iadd (pc := 32) dX6_join_32 ?_
    rw [nI_add]
    refine sx_icmp_ge (pc := 33) (tgt := 108) dX6_join_33 (by decide) (fun c_33 => ?_) (fun c_33 => absurd (nI_le (by omega) (by omega)) c_33)
    exact l_mj_end hE hd hb hn hV hq hKb hJ hW (ab_mono hA (by omega)) _ _ _
  | succ t ih =>
    intro j y o4 μ ht hj hr hJ hW hA
    refine sx_iload_n (pc := 21) dX6_join_21 rfl rfl ?_
    refine sx_bipush (pc := 22) (v := 20) dX6_join_22 (by decide) ?_
    refine sx_iload_n (pc := 24) dX6_join_24 rfl rfl ?_
    refine sx_imul (pc := 25) dX6_join_25 ?_
    rw [show (20 : Int32) = nI 20 from rfl, pk_mul]
    refine sx_aload_n (pc := 26) dX6_join_26 rfl rfl ?_
    refine sx_getr (pc := 27) (ci := 6) (j := 11) (r := 106) dX6_join_27 rfl s_Mo rfl (by decide) lf_X6_42 ?_
    refine sx_iload_n (pc := 30) dX6_join_30 rfl rfl ?_
    refine sx_iald (pc := 31) dX6_join_31 s_M11 (by decide) rfl (vp_in_nI (by omega) (by decide)) ?_
    rw [hr]
    refine sx_iadd (pc := 32) dX6_join_32 ?_
    rw [nI_add]
    refine sx_icmp_ge (pc := 33) (tgt := 108) dX6_join_33 (by decide) (fun c_33 => ?_) (fun c_33 => ?_)
    · have h_33t := c_33
      exact l_mj_end hE hd hb hn hV hq hKb hJ hW (ab_mono hA (by omega)) _ _ _
    · have h_33f := c_33
      have hlt : j < q := Nat.lt_of_not_le fun z => h_33f (nI_le (by omega) (by omega))
      have hrr := hV.2.2.1 (20 * d + j) (by omega)
      obtain ⟨i, hi, hie⟩ := rng hrr.1.1 ((lt_of_le _ 29 (by decide)).mpr hrr.1.2)
      obtain ⟨p, hp, hpe⟩ := rng hrr.2.1 ((lt_of_le _ 29 (by decide)).mpr hrr.2.2)
      have h108 : μ 108 (nI (20 * d + j)).toNatClampNeg = nI i := by rw [nI_clamp (by omega), hJ.1 108 (by decide) (by omega)]; exact hie
      have h109 : μ 109 (nI (20 * d + j)).toNatClampNeg = nI p := by rw [nI_clamp (by omega), hJ.1 109 (by decide) (by omega)]; exact hpe
      obtain ⟨k, hkn, hk⟩ := hA
      refine sx_aload_n (pc := 36) dX6_join_36 rfl rfl ?_
      refine sx_aload_n (pc := 37) dX6_join_37 rfl rfl ?_
      refine sx_getr (pc := 38) (ci := 6) (j := 13) (r := 108) dX6_join_38 rfl s_Mo rfl (by decide) lf_X6_48 ?_
      refine sx_iload_n (pc := 41) dX6_join_41 rfl rfl ?_
      refine sx_iald (pc := 42) dX6_join_42 s_M13 (by decide) rfl (vp_in_nI (by omega) (by decide)) ?_
      rw [h108]
      refine sx_puti (pc := 43) (ci := 6) (j := 27) (ty := .int) dX6_join_43 rfl s_Mo rfl (by decide) lf_X6_110 rfl (by decide +kernel) rfl rfl (fun μ1 hμ1 => ?_)
      have e_43 := hμ1
      have hr_μ1 : μ1 106 ((nI d).toNatClampNeg) = nI q := by rw [hμ1, xup_at, if_neg (by omega)]; exact hr
      have h108_μ1 : μ1 108 ((nI (20 * d + j)).toNatClampNeg) = nI i := by rw [hμ1, xup_at, if_neg (by omega)]; exact h108
      have h109_μ1 : μ1 109 ((nI (20 * d + j)).toNatClampNeg) = nI p := by rw [hμ1, xup_at, if_neg (by omega)]; exact h109
      have hk_μ1 : μ1 95 20 = nI k := by rw [hμ1, xup_at, if_neg (by omega)]; exact hk
      have hit_μ1 : μ1 95 27 = nI i := by rw [hμ1, xup_at, if_pos ⟨rfl, rfl⟩]
      refine sx_aload_n (pc := 46) dX6_join_46 rfl rfl ?_
      refine sx_aload_n (pc := 47) dX6_join_47 rfl rfl ?_
      refine sx_getr (pc := 48) (ci := 6) (j := 14) (r := 109) dX6_join_48 rfl s_Mo rfl (by decide) lf_X6_51 ?_
      refine sx_iload_n (pc := 51) dX6_join_51 rfl rfl ?_
      refine sx_iald (pc := 52) dX6_join_52 s_M14 (by decide) rfl (vp_in_nI (by omega) (by decide)) ?_
      rw [h109_μ1]
      refine sx_puti (pc := 53) (ci := 6) (j := 26) (ty := .int) dX6_join_53 rfl s_Mo rfl (by decide) lf_X6_104 rfl (by decide +kernel) rfl rfl (fun μ2 hμ2 => ?_)
      have e_53 := hμ2
      have hr_μ2 : μ2 106 ((nI d).toNatClampNeg) = nI q := by rw [hμ2, xup_at, if_neg (by omega)]; exact hr_μ1
      have h108_μ2 : μ2 108 ((nI (20 * d + j)).toNatClampNeg) = nI i := by rw [hμ2, xup_at, if_neg (by omega)]; exact h108_μ1
      have h109_μ2 : μ2 109 ((nI (20 * d + j)).toNatClampNeg) = nI p := by rw [hμ2, xup_at, if_neg (by omega)]; exact h109_μ1
      have hk_μ2 : μ2 95 20 = nI k := by rw [hμ2, xup_at, if_neg (by omega)]; exact hk_μ1
      have hit_μ2 : μ2 95 27 = nI i := by rw [hμ2, xup_at, if_neg (by omega)]; exact hit_μ1
      have hpn_μ2 : μ2 95 26 = nI p := by rw [hμ2, xup_at, if_pos ⟨rfl, rfl⟩]
      refine sx_aload_n (pc := 56) dX6_join_56 rfl rfl ?_
      refine sx_getr (pc := 57) (ci := 6) (j := 12) (r := 107) dX6_join_57 rfl s_Mo rfl (by decide) lf_X6_45 ?_
      refine sx_iload_n (pc := 60) dX6_join_60 rfl rfl ?_
      refine sx_iald (pc := 61) dX6_join_61 s_M12 (by decide) rfl (vp_in_nI (by omega) (by decide)) ?_
      refine sx_if_ne (pc := 62) (tgt := 74) dX6_join_62 (by decide) (fun c_62 => ?_) (fun c_62 => ?_)
      · have h_62t := c_62
        refine sx_aload_n (pc := 74) dX6_join_74 rfl rfl ?_
        refine sx_iload_n (pc := 75) dX6_join_75 rfl rfl ?_
        refine sx_iconst (pc := 76) (v := (-1)) dX6_join_76 (by decide) ?_
        refine sx_callV (pc := 77) (As := [.int (nI d), .int (-1)]) dX6_join_77 (c_brings X Ex hE μ2 _ _ i k hi (by omega) hit_μ2 hk_μ2 (hW.same (by rw [xk e_53 (by decide), xk e_43 (by decide)]) (by rw [xk e_53 (by decide), xk e_43 (by decide)]))) mX6_brings lm_X6_165 rfl s_Mo rfl ⟨Nat.le_of_ble_eq_true rfl, Nat.le_of_ble_eq_true rfl⟩ ⟨Nat.le_of_ble_eq_true rfl, Nat.le_of_ble_eq_true rfl⟩ (Nat.le_of_ble_eq_true rfl) hE (fun r_77 sh1 μ3 h_77 => ?_)
        obtain ⟨rfl, kk, ww, aa, xx, rfl⟩ := h_77
        have hr_μ3 : μ3 106 ((nI d).toNatClampNeg) = nI q := by rw [kk.1 106 (by decide) (by omega)]; exact hr_μ2
        refine sx_istore (pc := 80) (L' := [some (.ref (X.2 + 95)), some (.int (nI d)), some (.int y), some (.int (nI (20 * d + j))), some (.int xx)]) dX6_join_80 (by decide) rfl ?_
        refine sx_iload_n (pc := 82) dX6_join_82 rfl rfl ?_
        refine sx_aload_n (pc := 83) dX6_join_83 rfl rfl ?_
        refine sx_geti (pc := 84) (ci := 6) (j := 29) dX6_join_84 rfl s_Mo rfl (by decide) lf_X6_148 ?_
        refine sx_if_eq (pc := 87) (tgt := 99) dX6_join_87 (by decide) (fun c_87 => ?_) (fun c_87 => ?_)
        · have h_87t := c_87
          refine sx_iconst (pc := 99) (v := 0) dX6_join_99 (by decide) ?_
          refine sx_iadd (pc := 100) dX6_join_100 ?_
          refine sx_istore_n (pc := 101) (L' := [some (.ref (X.2 + 95)), some (.int (nI d)), some (.int (y + 0)), some (.int (nI (20 * d + j))), some (.int xx)]) dX6_join_101 rfl (by decide) rfl ?_
          refine sx_iinc (pc := 102) (v := nI (20 * d + (j + 1))) (L' := [some (.ref (X.2 + 95)), some (.int (nI d)), some (.int (y + 0)), some (.int (nI (20 * d + (j + 1)))), some (.int xx)]) dX6_join_102 rfl (nI_1 _) (by decide) rfl ?_
          refine sx_goto (pc := 105) (tgt := 21) dX6_join_105 (by decide) ?_
          exact ih (j + 1) _ _ _ (by omega) (by omega) hr_μ3 (hJ.step e_43 e_53 kk) ww (ab_mono aa (by omega))
        · have h_87f := c_87
          refine sx_iload (pc := 90) dX6_join_90 rfl ?_
          refine sx_if_lt (pc := 92) (tgt := 99) dX6_join_92 (by decide) (fun c_92 => ?_) (fun c_92 => ?_)
          · have h_92t := c_92
            refine sx_iconst (pc := 99) (v := 0) dX6_join_99 (by decide) ?_
            refine sx_iadd (pc := 100) dX6_join_100 ?_
            refine sx_istore_n (pc := 101) (L' := [some (.ref (X.2 + 95)), some (.int (nI d)), some (.int (y + 0)), some (.int (nI (20 * d + j))), some (.int xx)]) dX6_join_101 rfl (by decide) rfl ?_
            refine sx_iinc (pc := 102) (v := nI (20 * d + (j + 1))) (L' := [some (.ref (X.2 + 95)), some (.int (nI d)), some (.int (y + 0)), some (.int (nI (20 * d + (j + 1)))), some (.int xx)]) dX6_join_102 rfl (nI_1 _) (by decide) rfl ?_
            refine sx_goto (pc := 105) (tgt := 21) dX6_join_105 (by decide) ?_
            exact ih (j + 1) _ _ _ (by omega) (by omega) hr_μ3 (hJ.step e_43 e_53 kk) ww (ab_mono aa (by omega))
          · have h_92f := c_92
            refine sx_iconst (pc := 95) (v := 1) dX6_join_95 (by decide) ?_
            refine sx_goto (pc := 96) (tgt := 100) dX6_join_96 (by decide) ?_
            refine sx_iadd (pc := 100) dX6_join_100 ?_
            refine sx_istore_n (pc := 101) (L' := [some (.ref (X.2 + 95)), some (.int (nI d)), some (.int (y + 1)), some (.int (nI (20 * d + j))), some (.int xx)]) dX6_join_101 rfl (by decide) rfl ?_
            refine sx_iinc (pc := 102) (v := nI (20 * d + (j + 1))) (L' := [some (.ref (X.2 + 95)), some (.int (nI d)), some (.int (y + 1)), some (.int (nI (20 * d + (j + 1)))), some (.int xx)]) dX6_join_102 rfl (nI_1 _) (by decide) rfl ?_
            refine sx_goto (pc := 105) (tgt := 21) dX6_join_105 (by decide) ?_
            exact ih (j + 1) _ _ _ (by omega) (by omega) hr_μ3 (hJ.step e_43 e_53 kk) ww (ab_mono aa (by omega))
      · have h_62f := c_62
        refine sx_aload_n (pc := 65) dX6_join_65 rfl rfl ?_
        refine sx_iload_n (pc := 66) dX6_join_66 rfl rfl ?_
        refine sx_iconst (pc := 67) (v := (-1)) dX6_join_67 (by decide) ?_
        refine sx_callV (pc := 68) (As := [.int (nI d), .int (-1)]) dX6_join_68 (c_lends X Ex hE μ2 _ _ i p k hi hp (by omega) hit_μ2 hpn_μ2 hk_μ2 (hW.same (by rw [xk e_53 (by decide), xk e_43 (by decide)]) (by rw [xk e_53 (by decide), xk e_43 (by decide)]))) mX6_lends lm_X6_162 rfl s_Mo rfl ⟨Nat.le_of_ble_eq_true rfl, Nat.le_of_ble_eq_true rfl⟩ ⟨Nat.le_of_ble_eq_true rfl, Nat.le_of_ble_eq_true rfl⟩ (Nat.le_of_ble_eq_true rfl) hE (fun r_68 sh1 μ4 h_68 => ?_)
        obtain ⟨rfl, kk, ww, aa, xx, rfl⟩ := h_68
        have hr_μ4 : μ4 106 ((nI d).toNatClampNeg) = nI q := by rw [kk.1 106 (by decide) (by omega)]; exact hr_μ2
        refine sx_goto (pc := 71) (tgt := 80) dX6_join_71 (by decide) ?_
        refine sx_istore (pc := 80) (L' := [some (.ref (X.2 + 95)), some (.int (nI d)), some (.int y), some (.int (nI (20 * d + j))), some (.int xx)]) dX6_join_80 (by decide) rfl ?_
        refine sx_iload_n (pc := 82) dX6_join_82 rfl rfl ?_
        refine sx_aload_n (pc := 83) dX6_join_83 rfl rfl ?_
        refine sx_geti (pc := 84) (ci := 6) (j := 29) dX6_join_84 rfl s_Mo rfl (by decide) lf_X6_148 ?_
        refine sx_if_eq (pc := 87) (tgt := 99) dX6_join_87 (by decide) (fun c_87 => ?_) (fun c_87 => ?_)
        · have h_87t := c_87
          refine sx_iconst (pc := 99) (v := 0) dX6_join_99 (by decide) ?_
          refine sx_iadd (pc := 100) dX6_join_100 ?_
          refine sx_istore_n (pc := 101) (L' := [some (.ref (X.2 + 95)), some (.int (nI d)), some (.int (y + 0)), some (.int (nI (20 * d + j))), some (.int xx)]) dX6_join_101 rfl (by decide) rfl ?_
          refine sx_iinc (pc := 102) (v := nI (20 * d + (j + 1))) (L' := [some (.ref (X.2 + 95)), some (.int (nI d)), some (.int (y + 0)), some (.int (nI (20 * d + (j + 1)))), some (.int xx)]) dX6_join_102 rfl (nI_1 _) (by decide) rfl ?_
          refine sx_goto (pc := 105) (tgt := 21) dX6_join_105 (by decide) ?_
          exact ih (j + 1) _ _ _ (by omega) (by omega) hr_μ4 (hJ.step e_43 e_53 kk) ww (ab_mono aa (by omega))
        · have h_87f := c_87
          refine sx_iload (pc := 90) dX6_join_90 rfl ?_
          refine sx_if_lt (pc := 92) (tgt := 99) dX6_join_92 (by decide) (fun c_92 => ?_) (fun c_92 => ?_)
          · have h_92t := c_92
            refine sx_iconst (pc := 99) (v := 0) dX6_join_99 (by decide) ?_
            refine sx_iadd (pc := 100) dX6_join_100 ?_
            refine sx_istore_n (pc := 101) (L' := [some (.ref (X.2 + 95)), some (.int (nI d)), some (.int (y + 0)), some (.int (nI (20 * d + j))), some (.int xx)]) dX6_join_101 rfl (by decide) rfl ?_
            refine sx_iinc (pc := 102) (v := nI (20 * d + (j + 1))) (L' := [some (.ref (X.2 + 95)), some (.int (nI d)), some (.int (y + 0)), some (.int (nI (20 * d + (j + 1)))), some (.int xx)]) dX6_join_102 rfl (nI_1 _) (by decide) rfl ?_
            refine sx_goto (pc := 105) (tgt := 21) dX6_join_105 (by decide) ?_
            exact ih (j + 1) _ _ _ (by omega) (by omega) hr_μ4 (hJ.step e_43 e_53 kk) ww (ab_mono aa (by omega))
          · have h_92f := c_92
            refine sx_iconst (pc := 95) (v := 1) dX6_join_95 (by decide) ?_
            refine sx_goto (pc := 96) (tgt := 100) dX6_join_96 (by decide) ?_
            refine sx_iadd (pc := 100) dX6_join_100 ?_
            refine sx_istore_n (pc := 101) (L' := [some (.ref (X.2 + 95)), some (.int (nI d)), some (.int (y + 1)), some (.int (nI (20 * d + j))), some (.int xx)]) dX6_join_101 rfl (by decide) rfl ?_
            refine sx_iinc (pc := 102) (v := nI (20 * d + (j + 1))) (L' := [some (.ref (X.2 + 95)), some (.int (nI d)), some (.int (y + 1)), some (.int (nI (20 * d + (j + 1)))), some (.int xx)]) dX6_join_102 rfl (nI_1 _) (by decide) rfl ?_
            refine sx_goto (pc := 105) (tgt := 21) dX6_join_105 (by decide) ?_
            exact ih (j + 1) _ _ _ (by omega) (by omega) hr_μ4 (hJ.step e_43 e_53 kk) ww (ab_mono aa (by omega))
set_option maxHeartbeats 1000000 in
set_option maxRecDepth 20000 in
theorem q_join (X : xD) (Ex : State → Prop) (hE : xEs X false shA.length Ex) (μ : xM) (dev : Int32) {v : VT} (n : Nat) (hn : n + 30 < 2 ^ 20) (hV : Vm μ v n) (hD : VD v) : Ct X Ex false yX6_join kX6_join (rmN 2) [.ref (X.2 + 95), .int dev] shA μ (fun r sh' μ' => shA = sh' ∧ Kl μ μ' ∧ Vm μ' (oJoin dev v) (n + 20) ∧ ∃ x : Int32, r = some (.int x)) := by
  refine Ct.of (L0 := [some (.ref (X.2 + 95)), some (.int dev), none, none, none]) (by decide) rfl (fun h => by cases h) (by simp [Value.category]) (Nat.le_of_ble_eq_true rfl) rfl (fun l => ?_)
  refine sx_aload_n (pc := 0) dX6_join_0 rfl rfl ?_
  refine sx_iconst (pc := 1) (v := 0) dX6_join_1 (by decide) ?_
  refine sx_puti (pc := 2) (ci := 6) (j := 0) (ty := .int) dX6_join_2 rfl s_Mo rfl (by decide) lf_X6_72 rfl (by decide +kernel) rfl rfl (fun μ1 hμ1 => ?_)
  obtain ⟨hV1, hK1⟩ := hV.thr hμ1
  refine sx_iload_n (pc := 5) dX6_join_5 rfl rfl ?_
  refine sx_callS (pc := 6) (As := [.int dev]) dX6_join_6 (c_isDevice X Ex hE μ1 _) mX6_isDevice lm_X6_171 rfl ⟨Nat.le_of_ble_eq_true rfl, Nat.le_of_ble_eq_true rfl⟩ ⟨Nat.le_of_ble_eq_true rfl, Nat.le_of_ble_eq_true rfl⟩ (Nat.le_of_ble_eq_true rfl) hE (fun r_6 sh1 μ2 h_6 => ?_)
  obtain ⟨rfl, rfl, x_6, rfl, hx_6⟩ := h_6
  refine sx_if_ne (pc := 9) (tgt := 14) dX6_join_9 (by decide) (fun c_9 => ?_) (fun c_9 => ?_)
  · have h_9t := c_9
    have hb := isB_t hx_6 h_9t
    have hdd := clamp_lt (n := 6) hb.1 hb.2 (by decide)
    obtain ⟨q, hq, hqe⟩ := nI_of2 (x := μ1 106 dev.toNatClampNeg) (M := 20) (n := 20) rfl (by rw [(hV1.1 _ hdd).2.2.2]; exact Int32.not_lt.mpr (hD.1 _ hdd).2.2.1) (by rw [(hV1.1 _ hdd).2.2.2]; exact (hD.1 _ hdd).2.2.2)
    obtain ⟨d, hd, rfl⟩ := dev_k hb
    refine sx_iconst (pc := 14) (v := 0) dX6_join_14 (by decide) ?_
    refine sx_istore_n (pc := 15) (L' := [some (.ref (X.2 + 95)), some (.int (nI d)), some (.int 0), none, none]) dX6_join_15 rfl (by decide) rfl ?_
    refine sx_bipush (pc := 16) (v := 20) dX6_join_16 (by decide) ?_
    refine sx_iload_n (pc := 18) dX6_join_18 rfl rfl ?_
    refine sx_imul (pc := 19) dX6_join_19 ?_
    rw [show (20 : Int32) = nI 20 from rfl, pk_mul]
    refine sx_istore_n (pc := 20) (L' := [some (.ref (X.2 + 95)), some (.int (nI d)), some (.int 0), some (.int (nI (20 * d))), none]) dX6_join_20 rfl (by decide) rfl ?_
    exact l_mj hE hd hb hn hV1 hq hK1 20 0 _ _ _ (by omega) (Nat.zero_le _) hqe ⟨fun _ _ _ => rfl, rfl⟩ hV1.2.2.2.2.1 hV1.2.2.2.2.2
  · have h_9f := c_9
    refine sx_iconst (pc := 12) (v := (-1)) dX6_join_12 (by decide) ?_
    exact sx_iret (pc := 13) dX6_join_13 rfl rfl (Nat.zero_le _) (Nat.zero_le _) (⟨rfl, hK1, by rw [oJoin, if_neg (isB_f hx_6 h_9f)]; exact hV1.mono (by omega), _, rfl⟩)
/-! the view stays good -/
theorem vd_upd1 {v : VT} (h : VD v) {d : Nat} {x : Int32} (hx : 0 ≤ x ∧ x ≤ 60) : VD (upd v.1 d x, v.2) := ⟨fun e he => ⟨(h.1 e he).1, by by_cases q : e = d; (rw [q]; show 0 ≤ upd v.1 d x d ∧ upd v.1 d x d ≤ 60; rw [pk_us]; exact hx); (show 0 ≤ upd v.1 d x e ∧ upd v.1 d x e ≤ 60; rw [pk_un q]; exact (h.1 e he).2.1), (h.1 e he).2.2⟩, h.2⟩
theorem vd_upd2 {v : VT} (h : VD v) {d : Nat} {x : Int32} (hx : x = 0 ∨ x = 1) : VD (v.1, upd v.2.1 d x, v.2.2) := ⟨fun e he => ⟨by by_cases q : e = d; (rw [q]; show upd v.2.1 d x d = 0 ∨ upd v.2.1 d x d = 1; rw [pk_us]; exact hx); (show upd v.2.1 d x e = 0 ∨ upd v.2.1 d x e = 1; rw [pk_un q]; exact (h.1 e he).1), (h.1 e he).2⟩, h.2⟩
theorem vd_upd3 {v : VT} (h : VD v) {d : Nat} {x : Int32} (hx : 0 ≤ x ∧ x ≤ 20) : VD (v.1, v.2.1, upd v.2.2.1 d x, v.2.2.2) := ⟨fun e he => ⟨(h.1 e he).1, (h.1 e he).2.1, by by_cases q : e = d; (rw [q]; show 0 ≤ upd v.2.2.1 d x d ∧ upd v.2.2.1 d x d ≤ 20; rw [pk_us]; exact hx); (show 0 ≤ upd v.2.2.1 d x e ∧ upd v.2.2.1 d x e ≤ 20; rw [pk_un q]; exact (h.1 e he).2.2)⟩, h.2⟩
theorem incn {x : Int32} {n : Nat} (hn : n < 2 ^ 30) (h0 : 0 ≤ x) (h1 : x ≤ nI n) (h2 : ¬ x = nI n) : 0 ≤ x + 1 ∧ x + 1 ≤ nI n := by
  obtain ⟨j, hj, rfl⟩ := nI_of (Int32.not_lt.mpr h0)
  rw [nI_leI hj (by omega)] at h1
  have : j ≠ n := fun q => h2 (by rw [q])
  rw [nI_1, nI_leI (by omega) (by omega)]
  exact ⟨nI_pos' (by omega), by omega⟩
theorem vd_oct {v : VT} (h : VD v) (dev b : Int32) : VD (oOct dev b v).1 := by
  unfold oOct
  split
  · rename_i hb
    have hd := clamp_lt (n := 6) hb.1 hb.2 (by decide)
    split
    · split
      · exact vd_upd1 h (by decide)
      · split
        · exact vd_upd2 h (Or.inr rfl)
        · rename_i h60
          exact vd_upd1 h (incn (n := 60) (by decide) (h.1 _ hd).2.1.1 (h.1 _ hd).2.1.2 h60)
    · exact h
  · exact h
theorem vd_reset {v : VT} (h : VD v) (dev : Int32) : VD (oReset dev v) := by
  unfold oReset
  split
  · exact vd_upd2 (v := (upd v.1 dev.toNatClampNeg 0, v.2)) (vd_upd1 h (by decide)) (Or.inl rfl)
  · exact h
theorem vd_off {v : VT} (h : VD v) (dev k i p : Int32) : VD (oOff dev k i p v).1 := by
  unfold oOff
  split
  · rename_i hb
    have hd := clamp_lt (n := 6) hb.1.1 hb.1.2 (by decide)
    split
    · exact h
    · rename_i h20
      exact vd_upd3 h (incn (n := 20) (by decide) (h.1 _ hd).2.2.1 (h.1 _ hd).2.2.2 h20)
  · exact h
theorem vd_join {v : VT} (h : VD v) (dev : Int32) : VD (oJoin dev v) := by
  unfold oJoin
  split
  · exact vd_upd3 h (by decide)
  · exact h
theorem vd_sum {v : VT} (h : VD v) (c : Int32) : VD (oSum c v).1 := by
  unfold oSum
  split
  · exact ⟨h.1, (by decide : (0 : Int32) ≤ 0), (by decide : (0 : Int32) < 256)⟩
  · obtain ⟨j, hj, e⟩ := pk_andE (v.2.2.2 + c) (m := 255) 8 (by decide)
    refine ⟨h.1, ?_, ?_⟩
    · show 0 ≤ (v.2.2.2 + c) &&& 255
      rw [e]; exact nI_pos' (by omega)
    · show (v.2.2.2 + c) &&& 255 < 256
      rw [e]; exact nI_lt (b := 256) hj (by decide)
