section CG
variable {l : Launch} {R : Room} {X : xD} {Ex : State → Prop} {K : xK} {n0 : Nat} {Z : List Frame → Array Value → State → State → Prop} {pc : Nat} {L : List (Option Value)} {st : List Value} {sh sh' : List xS} {μ : xM} {cs ss : Nat}
theorem sx_mnaL {i N M n1 : Nat} {n k : Int32} (hlen : sh.length = n1) (hd : decode K.2.1 pc = .ok (.multianewarray i 2, 4)) (hcl : Cond.classLink K.1 i ("[" ++ (FieldType.array .int).toString) ∈ xws) (ho : ∀ s : State, Ex s → (Cond.arrayOver (.array .int)).before #[] s = true) (hn : ¬ n < 0) (hk : ¬ k < 0) (hN : n.toNatClampNeg = N) (hM : k.toNatClampNeg = M) (hb1 : N * 4 ≤ 536870912) (hb2 : M * componentBytes .int ≤ 536870912) (hb3 : M ≤ 536870912) (h1 : cs + (1 + N) ≤ R.cells) (h2 : ss + (N + N * M) ≤ R.slots)
    (hsh : sh ++ (.inr (5, N, some (mnG n1 N)) :: List.replicate N (.inr (1, M, none))) = sh')
    (kk : ∀ μ' : xM, μ' = mn0 μ n1 → sx l R X Ex true K n0 Z (pc + 4) L (.ref (X.2 + n1) :: st) sh' μ' (cs + 1 + N) (ss + N + N * M)) : sx l R X Ex true K n0 Z pc L (.int k :: .int n :: st) sh μ cs ss := by
  subst hlen
  exact sx_mna hd hcl w_ai ho hn hk hN hM hb1 hb2 hb3 h1 h2 hsh (kk _ rfl)
end CG
set_option maxHeartbeats 1000000 in
set_option maxRecDepth 20000 in
theorem l_House {X : xD} {l : Launch} {Z : List Frame → Array Value → State → State → Prop} {sh : List xS} {k : Nat} {μ0 : xM} (hk : k < sh.length)
    (hZ : ∀ (μ : xM) (i : Int32), (∀ j, j < 30 → μ (sh.length + 1) j = (-1)) → (∀ a, a ≠ sh.length + 1 → μ a = μ0 a) → sx l ({ frames := 1, cells := 35, slots := 1050, locals := 30 } : Room) X ExA true kX0_init sh.length Z 69 [some (.ref (X.2 + k)), some (.int i)] [] (sh.set k (.inl (0, [rr (sh.length), rr (sh.length + 1), rr (sh.length + 2), rr (sh.length + 3), rr (sh.length + 34)])) ++ [shI 30, shI 30, shI 30, .inr (5, 30, some (mnG (sh.length + 3) 30)), shI 30, shI 30, shI 30, shI 30, shI 30, shI 30, shI 30, shI 30, shI 30, shI 30, shI 30, shI 30, shI 30, shI 30, shI 30, shI 30, shI 30, shI 30, shI 30, shI 30, shI 30, shI 30, shI 30, shI 30, shI 30, shI 30, shI 30, shI 30, shI 30, shI 30, shI 30]) μ 35 1050) :
    ∀ (m j : Nat) (μ : xM), 30 - j ≤ m → j ≤ 30 → (∀ b, b < j → μ (sh.length + 1) b = (-1)) → (∀ a, a ≠ sh.length + 1 → μ a = μ0 a) → sx l ({ frames := 1, cells := 35, slots := 1050, locals := 30 } : Room) X ExA true kX0_init sh.length Z 50 [some (.ref (X.2 + k)), some (.int (nI j))] [] (sh.set k (.inl (0, [rr (sh.length), rr (sh.length + 1), rr (sh.length + 2), rr (sh.length + 3), rr (sh.length + 34)])) ++ [shI 30, shI 30, shI 30, .inr (5, 30, some (mnG (sh.length + 3) 30)), shI 30, shI 30, shI 30, shI 30, shI 30, shI 30, shI 30, shI 30, shI 30, shI 30, shI 30, shI 30, shI 30, shI 30, shI 30, shI 30, shI 30, shI 30, shI 30, shI 30, shI 30, shI 30, shI 30, shI 30, shI 30, shI 30, shI 30, shI 30, shI 30, shI 30, shI 30]) μ 35 1050 := by
  intro m
  induction m with
  | zero =>
    intro j μ hm hj h1 h2
    have hjn : j = 30 := by omega
    subst hjn
    refine sx_iload_n (pc := 50) dX0_init_50 rfl rfl ?_
    refine sx_bipush (pc := 51) (v := 30) dX0_init_51 (by decide) ?_
    exact sx_icmp_ge (pc := 53) (tgt := 69) dX0_init_53 (by decide) (fun _ => hZ μ _ h1 h2) (fun q => absurd (by decide) q)
  | succ m ih =>
    intro j μ hm hj h1 h2
    refine sx_iload_n (pc := 50) dX0_init_50 rfl rfl ?_
    refine sx_bipush (pc := 51) (v := 30) dX0_init_51 (by decide) ?_
    refine sx_icmp_ge (pc := 53) (tgt := 69) dX0_init_53 (by decide) (fun q => ?_) (fun q => ?_)
    · have hj6 : j = 30 := by
        by_cases hlt : j < 30
        · exact absurd q (nI_ge hlt (by decide))
        · omega
      subst hj6
      exact hZ μ _ h1 h2
    · have hlt : j < 30 := Nat.lt_of_not_le fun z => q (nI_le z (by omega))
      refine sx_aload_n (pc := 56) dX0_init_56 rfl rfl ?_
      refine sx_getr (pc := 57) (ci := 0) (j := 1) (r := sh.length + 1) dX0_init_57 rfl (xg_k hk) rfl (by decide) lf_X0_15 ?_
      refine sx_iload_n (pc := 60) dX0_init_60 rfl rfl ?_
      refine sx_iconst (pc := 61) (v := (-1)) dX0_init_61 (by decide) ?_
      refine sx_iast (pc := 62) (ti := 1) (n := 30) dX0_init_62 (xg_t 1 rfl) (by decide) rfl (vp_in_nI hlt (by decide)) (fun μ1 hμ1 => ?_)
      refine sx_iinc (pc := 63) (v := nI (j + 1)) (L' := [some (.ref (X.2 + k)), some (.int (nI (j + 1)))]) dX0_init_63 rfl (nI_1 j) (by decide) rfl ?_
      refine sx_goto (pc := 66) (tgt := 50) dX0_init_66 (by decide) ?_
      refine ih (j + 1) μ1 (by omega) (by omega) (fun b hb => ?_) (fun a ha => ?_)
      · rw [hμ1, xup_at, nI_clamp (by omega)]
        by_cases e : b = j
        · rw [if_pos ⟨rfl, e⟩]
        · rw [if_neg (fun z => e z.2)]
          exact h1 b (by omega)
      · rw [hμ1, ← h2 a ha]
        funext b
        rw [xup_at, if_neg (fun z => ha z.1)]
set_option maxHeartbeats 1000000 in
set_option maxRecDepth 20000 in
theorem c_House_init (X : xD) (sh : List xS) (μ : xM) (k : Nat) (hs : sh[k]? = some (.inl (0, fl0_0)))  (S : List xS) : Ct X ExA true yX0_init kX0_init ({ frames := 1, cells := 35, slots := 1050, locals := 30 } : Room) [.ref (X.2 + k)] sh μ (fun r sh' μ' => r = none ∧ sh.set k (.inl (0, [rr (sh.length), rr (sh.length + 1), rr (sh.length + 2), rr (sh.length + 3), rr (sh.length + 34)])) ++ [shI 30, shI 30, shI 30, .inr (5, 30, some (mnG (sh.length + 3) 30)), shI 30, shI 30, shI 30, shI 30, shI 30, shI 30, shI 30, shI 30, shI 30, shI 30, shI 30, shI 30, shI 30, shI 30, shI 30, shI 30, shI 30, shI 30, shI 30, shI 30, shI 30, shI 30, shI 30, shI 30, shI 30, shI 30, shI 30, shI 30, shI 30, shI 30, shI 30] = sh' ∧ (∀ a, a < sh.length → a ≠ k → μ' a = μ a) ∧ (∀ a, sh.length ≤ a → a < sh.length + 35 → a ≠ sh.length + 1 → ∀ j, μ' a j = 0) ∧ ∀ j, j < 30 → μ' (sh.length + 1) j = (-1)) := by
  have hk : k < sh.length := (List.getElem?_eq_some_iff.mp hs).1
  refine Ct.of (L0 := [some (.ref (X.2 + k)), none]) (by decide) rfl (fun _ => rfl) (by simp [Value.category]) (Nat.le_of_ble_eq_true rfl) rfl (fun l => ?_)
  rw [show sx l ({ frames := 1, cells := 35, slots := 1050, locals := 30 } : Room) X ExA true kX0_init sh.length (xZ X true sh.length (fun r sh' μ' => r = none ∧ sh.set k (.inl (0, [rr (sh.length), rr (sh.length + 1), rr (sh.length + 2), rr (sh.length + 3), rr (sh.length + 34)])) ++ [shI 30, shI 30, shI 30, .inr (5, 30, some (mnG (sh.length + 3) 30)), shI 30, shI 30, shI 30, shI 30, shI 30, shI 30, shI 30, shI 30, shI 30, shI 30, shI 30, shI 30, shI 30, shI 30, shI 30, shI 30, shI 30, shI 30, shI 30, shI 30, shI 30, shI 30, shI 30, shI 30, shI 30, shI 30, shI 30, shI 30, shI 30, shI 30, shI 30] = sh' ∧ (∀ a, a < sh.length → a ≠ k → μ' a = μ a) ∧ (∀ a, sh.length ≤ a → a < sh.length + 35 → a ≠ sh.length + 1 → ∀ j, μ' a j = 0) ∧ ∀ j, j < 30 → μ' (sh.length + 1) j = (-1)) ({ frames := 1, cells := 35, slots := 1050, locals := 30 } : Room).cells ({ frames := 1, cells := 35, slots := 1050, locals := 30 } : Room).slots) 0 [some (.ref (X.2 + k)), none] [] sh μ 0 0 = sx l ({ frames := 1, cells := 35, slots := 1050, locals := 30 } : Room) X ExA true kX0_init sh.length (xZ X true sh.length (fun r sh' μ' => r = none ∧ sh.set k (.inl (0, [rr (sh.length), rr (sh.length + 1), rr (sh.length + 2), rr (sh.length + 3), rr (sh.length + 34)])) ++ [shI 30, shI 30, shI 30, .inr (5, 30, some (mnG (sh.length + 3) 30)), shI 30, shI 30, shI 30, shI 30, shI 30, shI 30, shI 30, shI 30, shI 30, shI 30, shI 30, shI 30, shI 30, shI 30, shI 30, shI 30, shI 30, shI 30, shI 30, shI 30, shI 30, shI 30, shI 30, shI 30, shI 30, shI 30, shI 30, shI 30, shI 30, shI 30, shI 30] = sh' ∧ (∀ a, a < sh.length → a ≠ k → μ' a = μ a) ∧ (∀ a, sh.length ≤ a → a < sh.length + 35 → a ≠ sh.length + 1 → ∀ j, μ' a j = 0) ∧ ∀ j, j < 30 → μ' (sh.length + 1) j = (-1)) ({ frames := 1, cells := 35, slots := 1050, locals := 30 } : Room).cells ({ frames := 1, cells := 35, slots := 1050, locals := 30 } : Room).slots) 0 [some (.ref (X.2 + k)), none] [] (sh.set k (.inl (0, fl0_0)) ++ []) μ 0 0 by rw [List.append_nil, xsame hs]]
  refine sx_aload_n (pc := 0) dX0_init_0 rfl rfl ?_
  refine sx_objInit (pc := 1) dX0_init_1 lm_X0_3 w_oi w_oc (Nat.le_of_ble_eq_true rfl) (Nat.le_of_ble_eq_true rfl) ?_
  refine sx_aload_n (pc := 4) dX0_init_4 rfl rfl ?_
  refine sx_bipush (pc := 5) (v := 30) dX0_init_5 (by decide) ?_
  refine sx_newaL (pc := 7) (ti := 1) (N := 30) (n1 := sh.length) (sh' := sh.set k (.inl (0, [some none, some none, some none, some none, some none])) ++ [shI 30]) xl_n dX0_init_7 w_ai rfl rfl rfl (by decide) (by decide) (by decide) (List.append_assoc _ _ _) (Nat.le_of_ble_eq_true rfl) (Nat.le_of_ble_eq_true rfl) (fun _ _ h => h) (fun μ1 hμ1 => ?_)
  refine sx_putrFm (pc := 9) (ci := 0) (j := 0) (r := sh.length) (sh' := sh.set k (.inl (0, [rr (sh.length), some none, some none, some none, some none])) ++ [shI 30]) dX0_init_9 rfl (xg_k hk) (Nat.le_of_ble_eq_true rfl) (by decide) lf_X0_9 rfl rfl rfl (tyX0_ok 0 (by decide)) rfl rfl (xs_k hk) (fun μ2 hμ2 => ?_)
  refine sx_aload_n (pc := 12) dX0_init_12 rfl rfl ?_
  refine sx_bipush (pc := 13) (v := 30) dX0_init_13 (by decide) ?_
  refine sx_newaL (pc := 15) (ti := 1) (N := 30) (n1 := sh.length + 1) (sh' := sh.set k (.inl (0, [rr (sh.length), some none, some none, some none, some none])) ++ [shI 30, shI 30]) xl_n dX0_init_15 w_ai rfl rfl rfl (by decide) (by decide) (by decide) (List.append_assoc _ _ _) (Nat.le_of_ble_eq_true rfl) (Nat.le_of_ble_eq_true rfl) (fun _ _ h => h) (fun μ3 hμ3 => ?_)
  refine sx_putrFm (pc := 17) (ci := 0) (j := 1) (r := sh.length + 1) (sh' := sh.set k (.inl (0, [rr (sh.length), rr (sh.length + 1), some none, some none, some none])) ++ [shI 30, shI 30]) dX0_init_17 rfl (xg_k hk) (Nat.le_of_ble_eq_true rfl) (by decide) lf_X0_15 rfl rfl rfl (tyX0_ok 1 (by decide)) rfl rfl (xs_k hk) (fun μ4 hμ4 => ?_)
  refine sx_aload_n (pc := 20) dX0_init_20 rfl rfl ?_
  refine sx_bipush (pc := 21) (v := 30) dX0_init_21 (by decide) ?_
  refine sx_newaL (pc := 23) (ti := 1) (N := 30) (n1 := sh.length + 2) (sh' := sh.set k (.inl (0, [rr (sh.length), rr (sh.length + 1), some none, some none, some none])) ++ [shI 30, shI 30, shI 30]) xl_n dX0_init_23 w_ai rfl rfl rfl (by decide) (by decide) (by decide) (List.append_assoc _ _ _) (Nat.le_of_ble_eq_true rfl) (Nat.le_of_ble_eq_true rfl) (fun _ _ h => h) (fun μ5 hμ5 => ?_)
  refine sx_putrFm (pc := 25) (ci := 0) (j := 2) (r := sh.length + 2) (sh' := sh.set k (.inl (0, [rr (sh.length), rr (sh.length + 1), rr (sh.length + 2), some none, some none])) ++ [shI 30, shI 30, shI 30]) dX0_init_25 rfl (xg_k hk) (Nat.le_of_ble_eq_true rfl) (by decide) lf_X0_18 rfl rfl rfl (tyX0_ok 2 (by decide)) rfl rfl (xs_k hk) (fun μ6 hμ6 => ?_)
  refine sx_aload_n (pc := 28) dX0_init_28 rfl rfl ?_
  refine sx_bipush (pc := 29) (v := 30) dX0_init_29 (by decide) ?_
  refine sx_bipush (pc := 31) (v := 30) dX0_init_31 (by decide) ?_
  refine sx_mnaL (pc := 33) (N := 30) (M := 30) (n1 := sh.length + 3) (sh' := sh.set k (.inl (0, [rr (sh.length), rr (sh.length + 1), rr (sh.length + 2), some none, some none])) ++ [shI 30, shI 30, shI 30, .inr (5, 30, some (mnG (sh.length + 3) 30)), shI 30, shI 30, shI 30, shI 30, shI 30, shI 30, shI 30, shI 30, shI 30, shI 30, shI 30, shI 30, shI 30, shI 30, shI 30, shI 30, shI 30, shI 30, shI 30, shI 30, shI 30, shI 30, shI 30, shI 30, shI 30, shI 30, shI 30, shI 30, shI 30, shI 30]) xl_n dX0_init_33 lc_X0_21 (fun _ h => h.2) (by decide) (by decide) (by decide) (by decide) (by decide) (by decide) (by decide) (Nat.le_of_ble_eq_true rfl) (Nat.le_of_ble_eq_true rfl) (List.append_assoc _ _ _) (fun μ7 hμ7 => ?_)
  refine sx_putrFm (pc := 37) (ci := 0) (j := 3) (r := sh.length + 3) (sh' := sh.set k (.inl (0, [rr (sh.length), rr (sh.length + 1), rr (sh.length + 2), rr (sh.length + 3), some none])) ++ [shI 30, shI 30, shI 30, .inr (5, 30, some (mnG (sh.length + 3) 30)), shI 30, shI 30, shI 30, shI 30, shI 30, shI 30, shI 30, shI 30, shI 30, shI 30, shI 30, shI 30, shI 30, shI 30, shI 30, shI 30, shI 30, shI 30, shI 30, shI 30, shI 30, shI 30, shI 30, shI 30, shI 30, shI 30, shI 30, shI 30, shI 30, shI 30]) dX0_init_37 rfl (xg_k hk) (Nat.le_of_ble_eq_true rfl) (by decide) lf_X0_23 rfl rfl rfl (tyX0_ok 3 (by decide)) rfl rfl (xs_k hk) (fun μ8 hμ8 => ?_)
  refine sx_aload_n (pc := 40) dX0_init_40 rfl rfl ?_
  refine sx_bipush (pc := 41) (v := 30) dX0_init_41 (by decide) ?_
  refine sx_newaL (pc := 43) (ti := 1) (N := 30) (n1 := sh.length + 34) (sh' := sh.set k (.inl (0, [rr (sh.length), rr (sh.length + 1), rr (sh.length + 2), rr (sh.length + 3), some none])) ++ [shI 30, shI 30, shI 30, .inr (5, 30, some (mnG (sh.length + 3) 30)), shI 30, shI 30, shI 30, shI 30, shI 30, shI 30, shI 30, shI 30, shI 30, shI 30, shI 30, shI 30, shI 30, shI 30, shI 30, shI 30, shI 30, shI 30, shI 30, shI 30, shI 30, shI 30, shI 30, shI 30, shI 30, shI 30, shI 30, shI 30, shI 30, shI 30, shI 30]) xl_n dX0_init_43 w_ai rfl rfl rfl (by decide) (by decide) (by decide) (List.append_assoc _ _ _) (Nat.le_of_ble_eq_true rfl) (Nat.le_of_ble_eq_true rfl) (fun _ _ h => h) (fun μ9 hμ9 => ?_)
  refine sx_putrFm (pc := 45) (ci := 0) (j := 4) (r := sh.length + 34) (sh' := sh.set k (.inl (0, [rr (sh.length), rr (sh.length + 1), rr (sh.length + 2), rr (sh.length + 3), rr (sh.length + 34)])) ++ [shI 30, shI 30, shI 30, .inr (5, 30, some (mnG (sh.length + 3) 30)), shI 30, shI 30, shI 30, shI 30, shI 30, shI 30, shI 30, shI 30, shI 30, shI 30, shI 30, shI 30, shI 30, shI 30, shI 30, shI 30, shI 30, shI 30, shI 30, shI 30, shI 30, shI 30, shI 30, shI 30, shI 30, shI 30, shI 30, shI 30, shI 30, shI 30, shI 30]) dX0_init_45 rfl (xg_k hk) (Nat.le_of_ble_eq_true rfl) (by decide) lf_X0_26 rfl rfl rfl (tyX0_ok 4 (by decide)) rfl rfl (xs_k hk) (fun μ10 hμ10 => ?_)
  refine sx_iconst (pc := 48) (v := 0) dX0_init_48 (by decide) ?_
  refine sx_istore_n (pc := 49) (L' := [some (.ref (X.2 + k)), some (.int (nI 0))]) dX0_init_49 rfl (by decide) rfl ?_
  have hA : ∀ a, sh.length ≤ a → a < sh.length + 35 → ∀ j, μ10 a j = 0 := by
    intro a h1 h2 j
    have hne : a ≠ k := by omega
    subst hμ10; subst hμ9; subst hμ8; subst hμ7; subst hμ6; subst hμ5; subst hμ4; subst hμ3; subst hμ2; subst hμ1
    by_cases h3 : a < sh.length + 3
    · rcases (show a = sh.length ∨ a = sh.length + 1 ∨ a = sh.length + 2 by omega) with e | e | e
      · simp [xup_at, va_up, mn0, e, show sh.length ≠ k by omega]
      · simp [xup_at, va_up, mn0, e, show sh.length + 1 ≠ k by omega]
      · simp [xup_at, va_up, mn0, e, show sh.length + 2 ≠ k by omega]
    · by_cases e : a = sh.length + 34
      · simp [xup_at, va_up, e, show sh.length + 34 ≠ k by omega]
      · simp [xup_at, va_up, mn0, hne, h3, e]
  have hB : ∀ a, a < sh.length → a ≠ k → μ10 a = μ a := by
    intro a h1 h2
    subst hμ10; subst hμ9; subst hμ8; subst hμ7; subst hμ6; subst hμ5; subst hμ4; subst hμ3; subst hμ2; subst hμ1
    funext j
    simp [xup_at, va_up, mn0, h2, Nat.ne_of_lt h1, show a ≠ sh.length + 1 by omega, show a ≠ sh.length + 2 by omega, show a ≠ sh.length + 34 by omega, show a < sh.length + 3 by omega]
  refine l_House (μ0 := μ10) hk (fun μ' i g1 g2 => ?_) 30 0 μ10 (by omega) (by omega) (fun b hb => absurd hb (Nat.not_lt_zero _)) (fun _ _ => rfl)
  exact sx_vret (pc := 69) dX0_init_69 rfl (Nat.le_of_ble_eq_true rfl) (Nat.le_of_ble_eq_true rfl) ⟨rfl, rfl, fun a h1 h2 => (g2 a (by omega)).trans (hB a h1 h2), fun a h1 h2 h3 j => by rw [g2 a h3]; exact hA a h1 h2 j, g1⟩
