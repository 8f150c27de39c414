section CE
variable {l : Launch} {R : Room} {X : xD} {Ex : State → Prop} {K : xK} {n0 : Nat} {Z : List Frame → Array Value → State → State → Prop} {pc : Nat} {L : List (Option Value)} {st : List Value} {sh sh' : List xS} {μ : xM} {cs ss : Nat}
theorem sx_anewaL {C : String} {i ti N n1 : Nat} {n : Int32} (hlen : sh.length = n1) (hd : decode K.2.1 pc = .ok (.anewarray i, 3)) (hcl : Cond.classLink K.1 i C ∈ xws) (ho : ∀ s : State, Ex s → va_AO C s) (ht : xty[ti]? = some (.object C)) (hn : ¬ n < 0) (hN : n.toNatClampNeg = N) (hb : N * 4 ≤ 536870912) (hsh : sh ++ [.inr (ti, N, some [])] = sh') (h1 : cs + 1 ≤ R.cells) (h2 : ss + N ≤ R.slots)
    (kk : ∀ μ' : xM, μ' = va_up μ n1 (fun _ => 0) → sx l R X Ex true K n0 Z (pc + 3) L (.ref (X.2 + n1) :: st) sh' μ' (cs + 1) (ss + N)) : sx l R X Ex true K n0 Z pc L (.int n :: st) sh μ cs ss := by
  subst hlen
  exact sx_anewa hd hcl ho ht hn hN hb hsh h1 h2 (kk _ rfl)
end CE
def gl (i : Nat) : List (Option Nat) := (List.range i).map fun d => some (2 + 9 * d)
def tl (i : Nat) : List xS := .inr (4, 6, some (gl i)) :: (List.range i).flatMap fun d => shLines (2 + 9 * d)
def SE (F : xS) (i : Nat) : List xS := F :: tl i
theorem six {P : Nat → Prop} {i : Nat} (h : i < 6) (h0 : P 0) (h1 : P 1) (h2 : P 2) (h3 : P 3) (h4 : P 4) (h5 : P 5) : P i := by
  rcases (show i = 0 ∨ i = 1 ∨ i = 2 ∨ i = 3 ∨ i = 4 ∨ i = 5 by omega) with rfl | rfl | rfl | rfl | rfl | rfl <;> assumption
theorem se_len (F : xS) {i : Nat} (h : i < 6) : (SE F i).length = 2 + 9 * i := six (P := fun i => (SE F i).length = 2 + 9 * i) h rfl rfl rfl rfl rfl rfl
theorem se_new (F : xS) {i : Nat} (h : i < 6) : (SE F i ++ [.inl (2, fl0_2)])[2 + 9 * i]? = some (.inl (2, fl0_2)) := six (P := fun i => (SE F i ++ [.inl (2, fl0_2)])[2 + 9 * i]? = some (.inl (2, fl0_2))) h rfl rfl rfl rfl rfl rfl
theorem se_nlen (F : xS) {i : Nat} (h : i < 6) : (SE F i ++ [(.inl (2, fl0_2) : xS)]).length = 3 + 9 * i := six (P := fun i => (SE F i ++ [(.inl (2, fl0_2) : xS)]).length = 3 + 9 * i) h rfl rfl rfl rfl rfl rfl
theorem se_line (F : xS) {i : Nat} (h : i < 6) : SE F i ++ shLines (2 + 9 * i) = (SE F i ++ [(.inl (2, fl0_2) : xS)]).set (2 + 9 * i) (.inl (2, [rr (3 + 9 * i), none, none, none, none, none, rr (3 + 9 * i + 1), rr (3 + 9 * i + 3), rr (3 + 9 * i + 5), rr (3 + 9 * i + 6), rr (3 + 9 * i + 7), none])) ++ [shI 60, .inl (4, [rr (3 + 9 * i + 2), none]), shI 13, .inl (4, [rr (3 + 9 * i + 4), none]), shI 13, shI 20, shI 20, shI 20] :=
  six (P := fun i => SE F i ++ shLines (2 + 9 * i) = (SE F i ++ [(.inl (2, fl0_2) : xS)]).set (2 + 9 * i) (.inl (2, [rr (3 + 9 * i), none, none, none, none, none, rr (3 + 9 * i + 1), rr (3 + 9 * i + 3), rr (3 + 9 * i + 5), rr (3 + 9 * i + 6), rr (3 + 9 * i + 7), none])) ++ [shI 60, .inl (4, [rr (3 + 9 * i + 2), none]), shI 13, .inl (4, [rr (3 + 9 * i + 4), none]), shI 13, shI 20, shI 20, shI 20]) h rfl rfl rfl rfl rfl rfl
theorem se_1 (F : xS) {i : Nat} (h : i < 6) : (SE F i ++ shLines (2 + 9 * i))[1]? = some (.inr (4, 6, some (gl i))) := rfl
theorem se_at (F : xS) {i : Nat} (h : i < 6) : (SE F i ++ shLines (2 + 9 * i))[2 + 9 * i]? = some (shLine (2 + 9 * i)) := six (P := fun i => (SE F i ++ shLines (2 + 9 * i))[2 + 9 * i]? = some (shLine (2 + 9 * i))) h rfl rfl rfl rfl rfl rfl
theorem se_put (F : xS) {i : Nat} (h : i < 6) : (SE F i ++ shLines (2 + 9 * i)).set 1 (.inr (4, 6, some (gl i ++ [some (2 + 9 * i)]))) = SE F (i + 1) := six (P := fun i => (SE F i ++ shLines (2 + 9 * i)).set 1 (.inr (4, 6, some (gl i ++ [some (2 + 9 * i)]))) = SE F (i + 1)) h rfl rfl rfl rfl rfl rfl
def LFx (μ : xM) (d : Nat) : Prop := μ (2 + 9 * d) 1 = 0 ∧ μ (2 + 9 * d) 2 = 0 ∧ μ (2 + 9 * d) 3 = 0 ∧ μ (2 + 9 * d) 4 = (-1) ∧ μ (2 + 9 * d) 5 = 0 ∧ μ (2 + 9 * d) 11 = 0 ∧ μ (2 + 9 * d + 2) 1 = 0 ∧ μ (2 + 9 * d + 4) 1 = 0 ∧ (∀ j, μ (2 + 9 * d + 7) j = 0) ∧ (∀ j, μ (2 + 9 * d + 8) j = 0) ∧ ∀ j, μ (2 + 9 * d + 1) j = 0
theorem LFx.to {μ μ' : xM} {d : Nat} (h : LFx μ d) (e : ∀ a, 2 + 9 * d ≤ a → a < 2 + 9 * d + 9 → μ' a = μ a) : LFx μ' d := by
  unfold LFx at h ⊢
  rw [e (2 + 9 * d) (by omega) (by omega), e (2 + 9 * d + 2) (by omega) (by omega), e (2 + 9 * d + 4) (by omega) (by omega), e (2 + 9 * d + 7) (by omega) (by omega), e (2 + 9 * d + 8) (by omega) (by omega), e (2 + 9 * d + 1) (by omega) (by omega)]
  exact h
set_option maxHeartbeats 1000000 in
set_option maxRecDepth 20000 in
theorem l_EW {X : xD} {l : Launch} {Z : List Frame → Array Value → State → State → Prop}
    (hZ : ∀ (μ : xM) (i : Int32), (∀ d, d < 6 → LFx μ d) → sx l ({ frames := 3, cells := 94, slots := 7046, locals := 130 } : Room) X ExA true kX5_init 1 Z 40 [some (.ref (X.2 + 0)), some (.int i)] [] (SE (.inl (5, [rr 1, some none, some none, some none, none]) : xS) 6) μ 55 984) :
    ∀ (m i : Nat) (μ : xM), 6 - i ≤ m → i ≤ 6 → (∀ d, d < i → LFx μ d) → sx l ({ frames := 3, cells := 94, slots := 7046, locals := 130 } : Room) X ExA true kX5_init 1 Z 15 [some (.ref (X.2 + 0)), some (.int (nI i))] [] (SE (.inl (5, [rr 1, some none, some none, some none, none]) : xS) i) μ (1 + 9 * i) (6 + 163 * i) := by
  intro m
  induction m with
  | zero =>
    intro i μ hm hj h1
    have hjn : i = 6 := by omega
    subst hjn
    refine sx_iload_n (pc := 15) dX5_init_15 rfl rfl ?_
    refine sx_bipush (pc := 16) (v := 6) dX5_init_16 (by decide) ?_
    exact sx_icmp_ge (pc := 18) (tgt := 40) dX5_init_18 (by decide) (fun _ => hZ μ _ h1) (fun q => absurd (by decide) q)
  | succ m ih =>
    intro i μ hm hj h1
    refine sx_iload_n (pc := 15) dX5_init_15 rfl rfl ?_
    refine sx_bipush (pc := 16) (v := 6) dX5_init_16 (by decide) ?_
    refine sx_icmp_ge (pc := 18) (tgt := 40) dX5_init_18 (by decide) (fun q => ?_) (fun q => ?_)
    · have hj6 : i = 6 := by
        by_cases hlt : i < 6
        · exact absurd q (nI_ge hlt (by decide))
        · omega
      subst hj6
      exact hZ μ _ h1
    · have hi : i < 6 := Nat.lt_of_not_le fun z => q (nI_le z (by omega))
      refine sx_aload_n (pc := 21) dX5_init_21 rfl rfl ?_
      refine sx_getr (pc := 22) (ci := 5) (j := 0) (k := 0) (r := 1) (fl := [rr 1, some none, some none, some none, none]) dX5_init_22 rfl rfl rfl (by decide) lf_X5_11 ?_
      refine sx_iload_n (pc := 25) dX5_init_25 rfl rfl ?_
      refine sx_newL (pc := 26) (ci := 2) (fl := fl0_2) (n1 := 2 + 9 * i) (se_len _ hi) dX5_init_26 rfl lc_X5_9 in_2 ii_2 nf_2 rfl (by show 1 + 9 * i + 1 ≤ 94; omega) (by show 6 + 163 * i + 12 ≤ 7046; omega) (fun μ1 hμ1 => ?_)
      refine sx_dup (pc := 29) dX5_init_29 rfl ?_
      refine sx_callIN (host := "ExchangeWire") (pc := 30) (As := []) (k := 2 + 9 * i) rfl dX5_init_30 (c_Line_init X _ μ1 (2 + 9 * i) (se_new _ hi) []) mX2_init (by decide +kernel) rfl ⟨(Nat.le_of_ble_eq_true rfl), (Nat.le_of_ble_eq_true rfl)⟩ ⟨by show 1 + 9 * i + 1 + 8 ≤ 94; omega, by show 6 + 163 * i + 12 + 151 ≤ 7046; omega⟩ (Nat.le_of_ble_eq_true rfl) ExA_st (fun r_30 sh_30 μ2 h_30 => ?_)
      obtain ⟨rfl, e_30, k_30, z1, z2, z3, z4, z5, z6, z7, z8, z9, z10, z11⟩ := h_30
      rw [se_nlen _ hi] at e_30 k_30 z7 z8 z9 z10 z11
      rw [← se_line _ hi] at e_30
      subst e_30
      refine sx_aast (pc := 33) (k := 1) (r := 2 + 9 * i) (ti := 4) (ci := 2) (g := gl i) dX5_init_33 (se_1 _ hi) rfl rfl (se_at _ hi) (vp_in_nI hi (by decide)) (by rw [nI_clamp (by omega)]; simp [gl]) (se_put _ hi) (fun μ3 hμ3 => ?_)
      refine sx_iinc (pc := 34) (v := nI (i + 1)) (L' := [some (.ref (X.2 + 0)), some (.int (nI (i + 1)))]) dX5_init_34 rfl (nI_1 i) (by decide) rfl ?_
      refine sx_goto (pc := 37) (tgt := 15) dX5_init_37 (by decide) ?_
      have hμ3' : μ3 = μ2 := by
        rw [hμ3]
        funext a
        by_cases e : a = 1 <;> simp [va_up, e]
      subst hμ3'
      refine sx_widen (k := 1 + 9 * (i + 1)) (n := 6 + 163 * (i + 1)) (by show 1 + 9 * i + 1 + 8 ≤ _; omega) (by show 6 + 163 * i + 12 + 151 ≤ _; omega) (ih (i + 1) μ3 (by omega) (by omega) (fun d hd => ?_))
      by_cases e : d = i
      · subst e
        exact ⟨z1, z2, z3, z4, z5, z6, by rw [show 2 + 9 * d + 2 = 3 + 9 * d + 1 by omega]; exact z7, by rw [show 2 + 9 * d + 4 = 3 + 9 * d + 3 by omega]; exact z8, by rw [show 2 + 9 * d + 7 = 3 + 9 * d + 6 by omega]; exact z9, by rw [show 2 + 9 * d + 8 = 3 + 9 * d + 7 by omega]; exact z10, by rw [show 2 + 9 * d + 1 = 3 + 9 * d by omega]; exact z11⟩
      · refine (h1 d (by omega)).to (fun a q1 q2 => ?_)
        rw [k_30 a (by omega) (by omega), hμ1]
        simp [va_up, show a ≠ 2 + 9 * i by omega]
def hC : List xS := [.inl (0, [rr 57, rr 58, rr 59, rr 60, rr 91]), shI 30, shI 30, shI 30, .inr (5, 30, some ((List.range 30).map fun i => some (61 + i)))] ++ List.replicate 30 (shI 30) ++ [shI 30]
abbrev jC : List xS := [.inl (1, [rr 93, none]), shI 5000]
set_option maxHeartbeats 1000000 in
set_option maxRecDepth 20000 in
theorem c_EW_init (X : xD) (μ : xM) : Ct X ExA true yX5_init kX5_init ({ frames := 3, cells := 94, slots := 7046, locals := 130 } : Room) [.ref (X.2 + 0)] [.inl (5, fl0_5)] μ (fun r sh' μ' => r = none ∧ shC = sh' ∧ (∀ d, d < 6 → LFx μ' d) ∧ (∀ a, 57 ≤ a → a < 92 → a ≠ 58 → ∀ j, μ' a j = 0) ∧ (∀ j, j < 30 → μ' 58 j = (-1)) ∧ μ' 92 1 = 0 ∧ μ' 0 4 = 0 ∧ ∀ j, μ' 93 j = 0) := by
  refine Ct.of (L0 := [some (.ref (X.2 + 0)), none]) (by decide) rfl (fun _ => rfl) (by simp [Value.category]) (Nat.le_of_ble_eq_true rfl) rfl (fun l => ?_)
  refine sx_aload_n (pc := 0) dX5_init_0 rfl rfl ?_
  refine sx_objInit (pc := 1) dX5_init_1 lm_X5_1 w_oi w_oc (Nat.le_of_ble_eq_true rfl) (Nat.le_of_ble_eq_true rfl) ?_
  refine sx_aload_n (pc := 4) dX5_init_4 rfl rfl ?_
  refine sx_bipush (pc := 5) (v := 6) dX5_init_5 (by decide) ?_
  refine sx_anewaL (pc := 7) (ti := 4) (N := 6) (n1 := 1) (sh' := [.inl (5, fl0_5), .inr (4, 6, some [])]) rfl dX5_init_7 lc_X5_9 (fun _ h => h.1) rfl (by decide) (by decide) (by decide) rfl (Nat.le_of_ble_eq_true rfl) (Nat.le_of_ble_eq_true rfl) (fun μ1 hμ1 => ?_)
  refine sx_putrFm (pc := 10) (ci := 5) (j := 0) (k := 0) (r := 1) (fl := fl0_5) (sh' := SE (.inl (5, [rr 1, some none, some none, some none, none]) : xS) 0) dX5_init_10 rfl rfl (Nat.le_of_ble_eq_true rfl) (by decide) lf_X5_11 rfl rfl rfl (tyX5_ok 0 (by decide)) rfl rfl rfl (fun μ2 hμ2 => ?_)
  refine sx_iconst (pc := 13) (v := 0) dX5_init_13 (by decide) ?_
  refine sx_istore_n (pc := 14) (L' := [some (.ref (X.2 + 0)), some (.int (nI 0))]) dX5_init_14 rfl (by decide) rfl ?_
  refine l_EW (fun μ' i hl => ?_) 6 0 μ2 (by omega) (by omega) (fun d hd => absurd hd (Nat.not_lt_zero _))
  refine sx_aload_n (pc := 40) dX5_init_40 rfl rfl ?_
  refine sx_newL (pc := 41) (ci := 0) (fl := fl0_0) (n1 := 56) (sh' := SE (.inl (5, [rr 1, some none, some none, some none, none]) : xS) 6 ++ [.inl (0, fl0_0)]) rfl dX5_init_41 rfl lc_X5_16 in_0 ii_0 nf_0 rfl (Nat.le_of_ble_eq_true rfl) (Nat.le_of_ble_eq_true rfl) (fun μ4 hμ4 => ?_)
  refine sx_dup (pc := 44) dX5_init_44 rfl ?_
  refine sx_callI (pc := 45) (As := []) (k := 56) rfl dX5_init_45 (c_House_init X _ μ4 56 rfl []) mX0_init lm_X5_18 rfl ⟨(Nat.le_of_ble_eq_true rfl), (Nat.le_of_ble_eq_true rfl)⟩ ⟨(Nat.le_of_ble_eq_true rfl), (Nat.le_of_ble_eq_true rfl)⟩ (Nat.le_of_ble_eq_true rfl) ExA_st (fun r_45 sh_45 μ5 h_45 => ?_)
  obtain ⟨rfl, e_45, k_45, z_45, b_45⟩ := h_45
  rw [show (SE (.inl (5, [rr 1, some none, some none, some none, none]) : xS) 6 ++ [(.inl (0, fl0_0) : xS)]).length = 57 from rfl] at e_45 k_45 z_45 b_45
  have e2_45 : SE (.inl (5, [rr 1, some none, some none, some none, none]) : xS) 6 ++ hC = sh_45 := by rw [← e_45]; rfl
  subst e2_45
  refine sx_putrFm (pc := 48) (ci := 5) (j := 1) (k := 0) (r := 56) (fl := [rr 1, some none, some none, some none, none]) (sh' := SE (.inl (5, [rr 1, rr 56, some none, some none, none]) : xS) 6 ++ hC) dX5_init_48 rfl rfl (Nat.le_of_ble_eq_true rfl) (by decide) lf_X5_19 rfl rfl rfl (tyX5_ok 1 (by decide)) rfl rfl rfl (fun μ6 hμ6 => ?_)
  refine sx_aload_n (pc := 51) dX5_init_51 rfl rfl ?_
  refine sx_newL (pc := 52) (ci := 1) (fl := fl0_1) (n1 := 92) (sh' := SE (.inl (5, [rr 1, rr 56, some none, some none, none]) : xS) 6 ++ hC ++ [.inl (1, fl0_1)]) rfl dX5_init_52 rfl lc_X5_23 in_1 ii_1 nf_1 rfl (Nat.le_of_ble_eq_true rfl) (Nat.le_of_ble_eq_true rfl) (fun μ7 hμ7 => ?_)
  refine sx_dup (pc := 55) dX5_init_55 rfl ?_
  refine sx_callIN (host := "ExchangeWire") (pc := 56) (As := []) (k := 92) rfl dX5_init_56 (c_Journal_init X _ μ7 92 rfl []) mX1_init (by decide +kernel) rfl ⟨(Nat.le_of_ble_eq_true rfl), (Nat.le_of_ble_eq_true rfl)⟩ ⟨(Nat.le_of_ble_eq_true rfl), (Nat.le_of_ble_eq_true rfl)⟩ (Nat.le_of_ble_eq_true rfl) ExA_st (fun r_56 sh_56 μ8 h_56 => ?_)
  obtain ⟨rfl, e_56, k_56, z_56, y_56⟩ := h_56
  rw [show (SE (.inl (5, [rr 1, rr 56, some none, some none, none]) : xS) 6 ++ hC ++ [(.inl (1, fl0_1) : xS)]).length = 93 from rfl] at e_56 k_56 y_56
  have e2_56 : SE (.inl (5, [rr 1, rr 56, some none, some none, none]) : xS) 6 ++ hC ++ jC = sh_56 := by rw [← e_56]; rfl
  subst e2_56
  refine sx_putrFm (pc := 59) (ci := 5) (j := 2) (k := 0) (r := 92) (fl := [rr 1, rr 56, some none, some none, none]) (sh' := SE (.inl (5, [rr 1, rr 56, rr 92, some none, none]) : xS) 6 ++ hC ++ jC) dX5_init_59 rfl rfl (Nat.le_of_ble_eq_true rfl) (by decide) lf_X5_26 rfl rfl rfl (tyX5_ok 2 (by decide)) rfl rfl rfl (fun μ9 hμ9 => ?_)
  refine sx_aload_n (pc := 62) dX5_init_62 rfl rfl ?_
  refine sx_newL (pc := 63) (ci := 3) (fl := fl0_3) (n1 := 94) (sh' := SE (.inl (5, [rr 1, rr 56, rr 92, some none, none]) : xS) 6 ++ hC ++ jC ++ [.inl (3, fl0_3)]) rfl dX5_init_63 rfl lc_X5_30 in_3 ii_3 nf_3 rfl (Nat.le_of_ble_eq_true rfl) (Nat.le_of_ble_eq_true rfl) (fun μ10 hμ10 => ?_)
  refine sx_dup (pc := 66) dX5_init_66 rfl ?_
  refine sx_callIN (host := "ExchangeWire") (pc := 67) (As := []) (k := 94) rfl dX5_init_67 (c_Message_init X _ μ10 94 rfl []) mX3_init (by decide +kernel) rfl ⟨(Nat.le_of_ble_eq_true rfl), (Nat.le_of_ble_eq_true rfl)⟩ ⟨(Nat.le_of_ble_eq_true rfl), (Nat.le_of_ble_eq_true rfl)⟩ (Nat.le_of_ble_eq_true rfl) ExA_st (fun r_67 sh_67 μ11 h_67 => ?_)
  obtain ⟨rfl, e_67, k_67⟩ := h_67
  rw [show (SE (.inl (5, [rr 1, rr 56, rr 92, some none, none]) : xS) 6 ++ hC ++ jC ++ [(.inl (3, fl0_3) : xS)]).length = 95 from rfl] at k_67
  have e2_67 : SE (.inl (5, [rr 1, rr 56, rr 92, some none, none]) : xS) 6 ++ hC ++ jC ++ [.inl (3, fl0_3)] = sh_67 := by rw [← e_67]; rfl
  subst e2_67
  refine sx_putrFm (pc := 70) (ci := 5) (j := 3) (k := 0) (r := 94) (fl := [rr 1, rr 56, rr 92, some none, none]) (sh' := shC) dX5_init_70 rfl rfl (Nat.le_of_ble_eq_true rfl) (by decide) lf_X5_33 rfl rfl rfl (tyX5_ok 3 (by decide)) rfl rfl rfl (fun μ12 hμ12 => ?_)
  refine sx_aload_n (pc := 73) dX5_init_73 rfl rfl ?_
  refine sx_iconst (pc := 74) (v := 0) dX5_init_74 (by decide) ?_
  refine sx_puti (pc := 75) (ci := 5) (j := 4) (k := 0) (ty := .int) (fl := [rr 1, rr 56, rr 92, rr 94, none]) dX5_init_75 rfl rfl rfl (by decide) lf_X5_37 rfl (by decide +kernel) rfl rfl (fun μ13 hμ13 => ?_)
  have hx : ∀ a, a ≠ 0 → a < 92 → a ≠ 56 → μ13 a = μ5 a := by
    intro a q1 q2 q3
    rw [hμ13, hμ12]
    funext j
    simp only [xup_at, q1, false_and, if_false]
    rw [k_67 a (by omega) (by omega), hμ10]
    simp only [va_up, show a ≠ 94 by omega, if_false]
    rw [hμ9]
    simp only [xup_at, q1, false_and, if_false]
    rw [k_56 a (by omega) (by omega), hμ7]
    simp only [va_up, show a ≠ 92 by omega, if_false]
    rw [hμ6]
    simp only [xup_at, q1, false_and, if_false]
  refine sx_vret (pc := 78) dX5_init_78 rfl (Nat.le_of_ble_eq_true rfl) (Nat.le_of_ble_eq_true rfl) ⟨rfl, rfl, fun d hd => (hl d hd).to (fun a q1 q2 => ?_), fun a q1 q2 q3 j => ?_, fun j hj => ?_, ?_, by rw [hμ13]; simp [xup_at], fun j => ?_⟩
  · rw [hx a (by omega) (by omega) (by omega), k_45 a (by omega) (by omega), hμ4]
    simp [va_up, show a ≠ 56 by omega]
  · rw [hx a (by omega) q2 (by omega)]
    exact z_45 a q1 (by omega) (by omega) j
  · rw [hx 58 (by omega) (by omega) (by omega)]
    exact b_45 j hj
  · rw [hμ13, hμ12]
    simp only [xup_at, show ¬ ((92 : Nat) = 0) by decide, false_and, if_false]
    rw [k_67 92 (by omega) (by omega), hμ10]
    simp only [va_up, show ¬ ((92 : Nat) = 94) by decide, if_false]
    rw [hμ9]
    simp only [xup_at, show ¬ ((92 : Nat) = 0) by decide, false_and, if_false]
    exact z_56
  · rw [hμ13, hμ12]
    simp only [xup_at, show ¬ ((93 : Nat) = 0) by decide, false_and, if_false]
    rw [k_67 93 (by omega) (by omega), hμ10]
    simp only [va_up, show ¬ ((93 : Nat) = 94) by decide, if_false]
    rw [hμ9]
    simp only [xup_at, show ¬ ((93 : Nat) = 0) by decide, false_and, if_false]
    exact y_56 j
