/-! the constructors -/
section CT
variable {l : Launch} {R : Room} {X : xD} {Ex : State → Prop} {K : xK} {n0 : Nat} {Z : List Frame → Array Value → State → State → Prop} {pc : Nat} {L : List (Option Value)} {st : List Value} {sh sh' : List xS} {μ : xM} {cs ss : Nat}
theorem sx_newaL {at' : ArrayType} {ti N n1 : Nat} {n : Int32} {ty : FieldType} (hlen : sh.length = n1) (hd : decode K.2.1 pc = .ok (.newarray at', 2)) (harr : Cond.arrayClass (newarray.typeOf at') ∈ xws) (hty : newarray.typeOf at' = ty) (ht : xty[ti]? = some ty) (hdv : defaultValue ty = if ti = 0 then .long 0 else .int 0) (hn : ¬ n < 0) (hN : n.toNatClampNeg = N) (hb : N * componentBytes ty ≤ 536870912) (hsh : sh ++ [.inr (ti, N, none)] = sh') (h1 : cs + 1 ≤ R.cells) (h2 : ss + N ≤ R.slots) (hra : ∀ (U : State) (cA : ClassId), va_RA U cA ty → U.vm.findClass ("[" ++ ty.toString) = some cA)
    (kk : ∀ μ' : xM, μ' = va_up μ n1 (fun _ => 0) → sx l R X Ex true K n0 Z (pc + 2) L (.ref (X.2 + n1) :: st) sh' μ' (cs + 1) (ss + N)) : sx l R X Ex true K n0 Z pc L (.int n :: st) sh μ cs ss := by
  subst hlen
  exact sx_newa hd harr hty ht hdv hn hN hb hsh h1 h2 hra (kk _ rfl)
theorem sx_newL {C : String} {T : u_T} {N ci i n1 : Nat} {fl : List (Option (Option Nat))} (hlen : sh.length = n1) (hd : decode K.2.1 pc = .ok (.new i, 3)) (hc : classes[ci]? = some (C, T, N)) (hcl : Cond.classLink K.1 i C ∈ xws) (hinst : Cond.instantiable C N ∈ xws) (hini : Cond.initialized C ∈ xws) (hfs : ∀ (b j : Nat), j < N → ∀ t, parseFieldDescriptor (T j).2.2.1 = some t → defaultValue t = vp_V (xfs b (fun _ => 0) fl 0) j) (hsh : sh ++ [.inl (ci, fl)] = sh') (h1 : cs + 1 ≤ R.cells) (h2 : ss + N ≤ R.slots)
    (kk : ∀ μ' : xM, μ' = va_up μ n1 (fun _ => 0) → sx l R X Ex true K n0 Z (pc + 3) L (.ref (X.2 + n1) :: st) sh' μ' (cs + 1) (ss + N)) : sx l R X Ex true K n0 Z pc L st sh μ cs ss := by
  subst hlen
  exact sx_new hd hc hcl hinst hini hfs hsh h1 h2 (kk _ rfl)
theorem sx_putrFm {C : String} {T : u_T} {N ci i j k r : Nat} {fl : List (Option (Option Nat))} {ty : FieldType} (hd : decode K.2.1 pc = .ok (.putfield i, 3)) (hc : classes[ci]? = some (C, T, N)) (hs : sh[k]? = some (.inl (ci, fl))) (hjl : j < fl.length) (hjn : j < N) (hw : Cond.fieldLink K.1 i (T j).1 (T j).2.1 (T j).2.2.1 ∈ xws) (hf : (T j).2.2.2 = true) (hi : K.2.2.2.2 = true) (hT : (T j).1 = K.1) (hy : parseFieldDescriptor (T j).2.2.1 = some ty) (hn : narrow ty (.ref (X.2 + r)) = .ref (X.2 + r)) (hv : fits ty (.ref (X.2 + r)) = true) (hsh : sh.set k (.inl (ci, fl.set j (some (some r)))) = sh')
    (kk : ∀ μ' : xM, μ' = xup μ k j 0 → sx l R X Ex true K n0 Z (pc + 3) L st sh' μ' cs ss) : sx l R X Ex true K n0 Z pc L (.ref (X.2 + r) :: .ref (X.2 + k) :: st) sh μ cs ss :=
  sx_putrF hd hc hs hjl hjn hw hf hi hT hy hn hv hsh (kk _ rfl)
end CT
theorem xg_k {sh tail : List xS} {k : Nat} {F : xS} (h : k < sh.length) : (sh.set k F ++ tail)[k]? = some F := by
  rw [List.getElem?_append_left (by rw [List.length_set]; exact h), List.getElem?_set_self h]
theorem xg_t {sh tail : List xS} {k : Nat} {F s : xS} (j : Nat) (h : tail[j]? = some s) : (sh.set k F ++ tail)[sh.length + j]? = some s := by
  rw [List.getElem?_append_right (by rw [List.length_set]; omega), List.length_set, show sh.length + j - sh.length = j by omega]
  exact h
theorem xs_k {sh tail : List xS} {k : Nat} {F F' : xS} (h : k < sh.length) : (sh.set k F ++ tail).set k F' = sh.set k F' ++ tail := by
  rw [List.set_append_left _ _ (by rw [List.length_set]; exact h), List.set_set]
theorem xs_t {sh tail : List xS} {k : Nat} {F G : xS} (j : Nat) : (sh.set k F ++ tail).set (sh.length + j) G = sh.set k F ++ tail.set j G := by
  rw [List.set_append_right _ _ (by rw [List.length_set]; omega), List.length_set, show sh.length + j - sh.length = j by omega]
theorem xl_n {sh tail : List xS} {k : Nat} {F : xS} : (sh.set k F ++ tail).length = sh.length + tail.length := by rw [List.length_append, List.length_set]
theorem w_oi : Cond.instanceMethod Lib.objectInit ∈ xws := xw 60 (by decide +kernel)
theorem w_oc : Cond.code Lib.objectInit ⟨#[0xb1]⟩ 1 none ∈ xws := xwc 61 rfl rfl
theorem w_ai : Cond.arrayClass .int ∈ xws := xw 85 (by decide +kernel)
theorem w_ab : Cond.arrayClass .byte ∈ xws := xw 442 (by decide +kernel)
theorem w_az : Cond.arrayClass .boolean ∈ xws := xw 672 (by decide +kernel)
theorem w_al : Cond.arrayClass .long ∈ xws := xw 800 (by decide +kernel)
abbrev fl0_0 : List (Option (Option Nat)) := [some none, some none, some none, some none, some none]
theorem nf_0 : ∀ (b j : Nat), j < 5 → ∀ t, parseFieldDescriptor (TX0 j).2.2.1 = some t → defaultValue t = vp_V (xfs b (fun _ => 0) fl0_0 0) j := by
  intro b j hj t ht
  have e := Option.some.inj ((tyX0_ok j hj).symm.trans ht)
  subst e
  rcases (show j = 0 ∨ j = 1 ∨ j = 2 ∨ j = 3 ∨ j = 4 by omega) with rfl | rfl | rfl | rfl | rfl <;> rfl
theorem in_0 : Cond.instantiable "ExchangeWire$House" 5 ∈ xws := xw 136 (by decide +kernel)
theorem ii_0 : Cond.initialized "ExchangeWire$House" ∈ xws := xw 39 (by decide +kernel)
abbrev fl0_1 : List (Option (Option Nat)) := [some none, none]
theorem nf_1 : ∀ (b j : Nat), j < 2 → ∀ t, parseFieldDescriptor (TX1 j).2.2.1 = some t → defaultValue t = vp_V (xfs b (fun _ => 0) fl0_1 0) j := by
  intro b j hj t ht
  have e := Option.some.inj ((tyX1_ok j hj).symm.trans ht)
  subst e
  rcases (show j = 0 ∨ j = 1 by omega) with rfl | rfl <;> rfl
theorem in_1 : Cond.instantiable "ExchangeWire$Journal" 2 ∈ xws := xw 164 (by decide +kernel)
theorem ii_1 : Cond.initialized "ExchangeWire$Journal" ∈ xws := xw 40 (by decide +kernel)
abbrev fl0_2 : List (Option (Option Nat)) := [some none, none, none, none, none, none, some none, some none, some none, some none, some none, none]
theorem nf_2 : ∀ (b j : Nat), j < 12 → ∀ t, parseFieldDescriptor (TX2 j).2.2.1 = some t → defaultValue t = vp_V (xfs b (fun _ => 0) fl0_2 0) j := by
  intro b j hj t ht
  have e := Option.some.inj ((tyX2_ok j hj).symm.trans ht)
  subst e
  rcases (show j = 0 ∨ j = 1 ∨ j = 2 ∨ j = 3 ∨ j = 4 ∨ j = 5 ∨ j = 6 ∨ j = 7 ∨ j = 8 ∨ j = 9 ∨ j = 10 ∨ j = 11 by omega) with rfl | rfl | rfl | rfl | rfl | rfl | rfl | rfl | rfl | rfl | rfl | rfl <;> rfl
theorem in_2 : Cond.instantiable "ExchangeWire$Line" 12 ∈ xws := xw 64 (by decide +kernel)
theorem ii_2 : Cond.initialized "ExchangeWire$Line" ∈ xws := xw 37 (by decide +kernel)
abbrev fl0_3 : List (Option (Option Nat)) := [none, none, none, none, none]
theorem nf_3 : ∀ (b j : Nat), j < 5 → ∀ t, parseFieldDescriptor (TX3 j).2.2.1 = some t → defaultValue t = vp_V (xfs b (fun _ => 0) fl0_3 0) j := by
  intro b j hj t ht
  have e := Option.some.inj ((tyX3_ok j hj).symm.trans ht)
  subst e
  rcases (show j = 0 ∨ j = 1 ∨ j = 2 ∨ j = 3 ∨ j = 4 by omega) with rfl | rfl | rfl | rfl | rfl <;> rfl
theorem in_3 : Cond.instantiable "ExchangeWire$Message" 5 ∈ xws := xw 178 (by decide +kernel)
theorem ii_3 : Cond.initialized "ExchangeWire$Message" ∈ xws := xw 41 (by decide +kernel)
abbrev fl0_4 : List (Option (Option Nat)) := [some none, none]
theorem nf_4 : ∀ (b j : Nat), j < 2 → ∀ t, parseFieldDescriptor (TX4 j).2.2.1 = some t → defaultValue t = vp_V (xfs b (fun _ => 0) fl0_4 0) j := by
  intro b j hj t ht
  have e := Option.some.inj ((tyX4_ok j hj).symm.trans ht)
  subst e
  rcases (show j = 0 ∨ j = 1 by omega) with rfl | rfl <;> rfl
theorem in_4 : Cond.instantiable "ExchangeWire$Reply" 2 ∈ xws := xw 70 (by decide +kernel)
theorem ii_4 : Cond.initialized "ExchangeWire$Reply" ∈ xws := xw 38 (by decide +kernel)
abbrev fl0_5 : List (Option (Option Nat)) := [some none, some none, some none, some none, none]
theorem nf_5 : ∀ (b j : Nat), j < 5 → ∀ t, parseFieldDescriptor (TX5 j).2.2.1 = some t → defaultValue t = vp_V (xfs b (fun _ => 0) fl0_5 0) j := by
  intro b j hj t ht
  have e := Option.some.inj ((tyX5_ok j hj).symm.trans ht)
  subst e
  rcases (show j = 0 ∨ j = 1 ∨ j = 2 ∨ j = 3 ∨ j = 4 by omega) with rfl | rfl | rfl | rfl | rfl <;> rfl
theorem in_5 : Cond.instantiable "ExchangeWire" 5 ∈ xws := xw 55 (by decide +kernel)
theorem ii_5 : Cond.initialized "ExchangeWire" ∈ xws := xw 36 (by decide +kernel)
abbrev fl0_6 : List (Option (Option Nat)) := [none, some none, some none, some none, some none, some none, some none, some none, some none, some none, some none, some none, some none, some none, some none, some none, some none, some none, some none, some none, none, some none, none, none, none, none, none, none, none, none]
theorem nf_6 : ∀ (b j : Nat), j < 30 → ∀ t, parseFieldDescriptor (TX6 j).2.2.1 = some t → defaultValue t = vp_V (xfs b (fun _ => 0) fl0_6 0) j := by
  intro b j hj t ht
  have e := Option.some.inj ((tyX6_ok j hj).symm.trans ht)
  subst e
  rcases (show j = 0 ∨ j = 1 ∨ j = 2 ∨ j = 3 ∨ j = 4 ∨ j = 5 ∨ j = 6 ∨ j = 7 ∨ j = 8 ∨ j = 9 ∨ j = 10 ∨ j = 11 ∨ j = 12 ∨ j = 13 ∨ j = 14 ∨ j = 15 ∨ j = 16 ∨ j = 17 ∨ j = 18 ∨ j = 19 ∨ j = 20 ∨ j = 21 ∨ j = 22 ∨ j = 23 ∨ j = 24 ∨ j = 25 ∨ j = 26 ∨ j = 27 ∨ j = 28 ∨ j = 29 by omega) with rfl | rfl | rfl | rfl | rfl | rfl | rfl | rfl | rfl | rfl | rfl | rfl | rfl | rfl | rfl | rfl | rfl | rfl | rfl | rfl | rfl | rfl | rfl | rfl | rfl | rfl | rfl | rfl | rfl | rfl <;> rfl
theorem in_6 : Cond.instantiable "ExchangeWireModel" 30 ∈ xws := xw 576 (by decide +kernel)
theorem ii_6 : Cond.initialized "ExchangeWireModel" ∈ xws := xw 42 (by decide +kernel)
set_option maxHeartbeats 1000000 in
set_option maxRecDepth 20000 in
theorem c_Reply_init (X : xD) (sh : List xS) (μ : xM) (k : Nat) (hs : sh[k]? = some (.inl (4, fl0_4)))  (S : List xS) : Ct X ExA true yX4_init kX4_init ({ frames := 1, cells := 1, slots := 13, locals := 30 } : Room) [.ref (X.2 + k)] sh μ (fun r sh' μ' => r = none ∧ sh.set k (.inl (4, [rr sh.length, none])) ++ [shI 13] = sh' ∧ (∀ a, a < sh.length → a ≠ k → μ' a = μ a) ∧ μ' k 1 = 0) := by
  have hk : k < sh.length := (List.getElem?_eq_some_iff.mp hs).1
  refine Ct.of (L0 := [some (.ref (X.2 + k))]) (by decide) rfl (fun _ => rfl) (by simp [Value.category]) (Nat.le_of_ble_eq_true rfl) rfl (fun l => ?_)
  rw [show sx l ({ frames := 1, cells := 1, slots := 13, locals := 30 } : Room) X ExA true kX4_init sh.length (xZ X true sh.length (fun r sh' μ' => r = none ∧ sh.set k (.inl (4, [rr sh.length, none])) ++ [shI 13] = sh' ∧ (∀ a, a < sh.length → a ≠ k → μ' a = μ a) ∧ μ' k 1 = 0) ({ frames := 1, cells := 1, slots := 13, locals := 30 } : Room).cells ({ frames := 1, cells := 1, slots := 13, locals := 30 } : Room).slots) 0 [some (.ref (X.2 + k))] [] sh μ 0 0 = sx l ({ frames := 1, cells := 1, slots := 13, locals := 30 } : Room) X ExA true kX4_init sh.length (xZ X true sh.length (fun r sh' μ' => r = none ∧ sh.set k (.inl (4, [rr sh.length, none])) ++ [shI 13] = sh' ∧ (∀ a, a < sh.length → a ≠ k → μ' a = μ a) ∧ μ' k 1 = 0) ({ frames := 1, cells := 1, slots := 13, locals := 30 } : Room).cells ({ frames := 1, cells := 1, slots := 13, locals := 30 } : Room).slots) 0 [some (.ref (X.2 + k))] [] (sh.set k (.inl (4, fl0_4)) ++ []) μ 0 0 by rw [List.append_nil, xsame hs]]
  refine sx_aload_n (pc := 0) dX4_init_0 rfl rfl ?_
  refine sx_objInit (pc := 1) dX4_init_1 lm_X4_3 w_oi w_oc (Nat.le_of_ble_eq_true rfl) (Nat.le_of_ble_eq_true rfl) ?_
  refine sx_aload_n (pc := 4) dX4_init_4 rfl rfl ?_
  refine sx_bipush (pc := 5) (v := 13) dX4_init_5 (by decide) ?_
  refine sx_newaL (pc := 7) (ti := 1) (N := 13) (n1 := sh.length) (sh' := sh.set k (.inl (4, [some none, none])) ++ [shI 13]) xl_n dX4_init_7 w_ai rfl rfl rfl (by decide) (by decide) (by decide) (List.append_assoc _ _ _) (Nat.le_of_ble_eq_true rfl) (Nat.le_of_ble_eq_true rfl) (fun _ _ h => h) (fun μ1 hμ1 => ?_)
  refine sx_putrFm (pc := 9) (ci := 4) (j := 0) (r := sh.length) (sh' := sh.set k (.inl (4, [rr (sh.length), none])) ++ [shI 13]) dX4_init_9 rfl (xg_k hk) (Nat.le_of_ble_eq_true rfl) (by decide) lf_X4_11 rfl rfl rfl (tyX4_ok 0 (by decide)) rfl rfl (xs_k hk) (fun μ2 hμ2 => ?_)
  refine sx_aload_n (pc := 12) dX4_init_12 rfl rfl ?_
  refine sx_iconst (pc := 13) (v := 0) dX4_init_13 (by decide) ?_
  refine sx_puti (pc := 14) (ci := 4) (j := 1) (ty := .int) dX4_init_14 rfl (xg_k hk) rfl (by decide) lf_X4_15 rfl (by decide +kernel) rfl rfl (fun μ3 hμ3 => ?_)
  exact sx_vret (pc := 17) dX4_init_17 rfl (Nat.le_of_ble_eq_true rfl) (Nat.le_of_ble_eq_true rfl) (by subst hμ3; subst hμ2; subst hμ1; exact ⟨rfl, rfl, fun a h1 h2 => by funext j; simp [xup_at, va_up, h2, Nat.ne_of_lt h1], by simp [xup_at, va_up]⟩)
set_option maxHeartbeats 1000000 in
set_option maxRecDepth 20000 in
theorem c_Journal_init (X : xD) (sh : List xS) (μ : xM) (k : Nat) (hs : sh[k]? = some (.inl (1, fl0_1)))  (S : List xS) : Ct X ExA true yX1_init kX1_init ({ frames := 1, cells := 1, slots := 5000, locals := 30 } : Room) [.ref (X.2 + k)] sh μ (fun r sh' μ' => r = none ∧ sh.set k (.inl (1, [rr sh.length, none])) ++ [shI 5000] = sh' ∧ (∀ a, a < sh.length → a ≠ k → μ' a = μ a) ∧ μ' k 1 = 0 ∧ ∀ j, μ' sh.length j = 0) := by
  have hk : k < sh.length := (List.getElem?_eq_some_iff.mp hs).1
  refine Ct.of (L0 := [some (.ref (X.2 + k))]) (by decide) rfl (fun _ => rfl) (by simp [Value.category]) (Nat.le_of_ble_eq_true rfl) rfl (fun l => ?_)
  rw [show sx l ({ frames := 1, cells := 1, slots := 5000, locals := 30 } : Room) X ExA true kX1_init sh.length (xZ X true sh.length (fun r sh' μ' => r = none ∧ sh.set k (.inl (1, [rr sh.length, none])) ++ [shI 5000] = sh' ∧ (∀ a, a < sh.length → a ≠ k → μ' a = μ a) ∧ μ' k 1 = 0 ∧ ∀ j, μ' sh.length j = 0) ({ frames := 1, cells := 1, slots := 5000, locals := 30 } : Room).cells ({ frames := 1, cells := 1, slots := 5000, locals := 30 } : Room).slots) 0 [some (.ref (X.2 + k))] [] sh μ 0 0 = sx l ({ frames := 1, cells := 1, slots := 5000, locals := 30 } : Room) X ExA true kX1_init sh.length (xZ X true sh.length (fun r sh' μ' => r = none ∧ sh.set k (.inl (1, [rr sh.length, none])) ++ [shI 5000] = sh' ∧ (∀ a, a < sh.length → a ≠ k → μ' a = μ a) ∧ μ' k 1 = 0 ∧ ∀ j, μ' sh.length j = 0) ({ frames := 1, cells := 1, slots := 5000, locals := 30 } : Room).cells ({ frames := 1, cells := 1, slots := 5000, locals := 30 } : Room).slots) 0 [some (.ref (X.2 + k))] [] (sh.set k (.inl (1, fl0_1)) ++ []) μ 0 0 by rw [List.append_nil, xsame hs]]
  refine sx_aload_n (pc := 0) dX1_init_0 rfl rfl ?_
  refine sx_objInit (pc := 1) dX1_init_1 lm_X1_3 w_oi w_oc (Nat.le_of_ble_eq_true rfl) (Nat.le_of_ble_eq_true rfl) ?_
  refine sx_aload_n (pc := 4) dX1_init_4 rfl rfl ?_
  refine sx_sipush (pc := 5) (v := 5000) dX1_init_5 (by decide) ?_
  refine sx_newaL (pc := 8) (ti := 1) (N := 5000) (n1 := sh.length) (sh' := sh.set k (.inl (1, [some none, none])) ++ [shI 5000]) xl_n dX1_init_8 w_ai rfl rfl rfl (by decide) (by decide) (by decide) (List.append_assoc _ _ _) (Nat.le_of_ble_eq_true rfl) (Nat.le_of_ble_eq_true rfl) (fun _ _ h => h) (fun μ1 hμ1 => ?_)
  refine sx_putrFm (pc := 10) (ci := 1) (j := 0) (r := sh.length) (sh' := sh.set k (.inl (1, [rr (sh.length), none])) ++ [shI 5000]) dX1_init_10 rfl (xg_k hk) (Nat.le_of_ble_eq_true rfl) (by decide) lf_X1_11 rfl rfl rfl (tyX1_ok 0 (by decide)) rfl rfl (xs_k hk) (fun μ2 hμ2 => ?_)
  refine sx_aload_n (pc := 13) dX1_init_13 rfl rfl ?_
  refine sx_iconst (pc := 14) (v := 0) dX1_init_14 (by decide) ?_
  refine sx_puti (pc := 15) (ci := 1) (j := 1) (ty := .int) dX1_init_15 rfl (xg_k hk) rfl (by decide) lf_X1_15 rfl (by decide +kernel) rfl rfl (fun μ3 hμ3 => ?_)
  exact sx_vret (pc := 18) dX1_init_18 rfl (Nat.le_of_ble_eq_true rfl) (Nat.le_of_ble_eq_true rfl) (by subst hμ3; subst hμ2; subst hμ1; exact ⟨rfl, rfl, fun a h1 h2 => by funext j; simp [xup_at, va_up, h2, Nat.ne_of_lt h1], by simp [xup_at, va_up], fun j => by simp [xup_at, va_up, show sh.length ≠ k by omega]⟩)
set_option maxHeartbeats 1000000 in
set_option maxRecDepth 20000 in
theorem c_Message_init (X : xD) (sh : List xS) (μ : xM) (k : Nat) (hs : sh[k]? = some (.inl (3, fl0_3)))  (S : List xS) : Ct X ExA true yX3_init kX3_init ({ frames := 1, cells := 0, slots := 0, locals := 30 } : Room) [.ref (X.2 + k)] sh μ (fun r sh' μ' => r = none ∧ sh.set k (.inl (3, [none, none, none, none, none])) ++ [] = sh' ∧ (∀ a, a < sh.length → a ≠ k → μ' a = μ a)) := by
  have hk : k < sh.length := (List.getElem?_eq_some_iff.mp hs).1
  refine Ct.of (L0 := [some (.ref (X.2 + k))]) (by decide) rfl (fun _ => rfl) (by simp [Value.category]) (Nat.le_of_ble_eq_true rfl) rfl (fun l => ?_)
  rw [show sx l ({ frames := 1, cells := 0, slots := 0, locals := 30 } : Room) X ExA true kX3_init sh.length (xZ X true sh.length (fun r sh' μ' => r = none ∧ sh.set k (.inl (3, [none, none, none, none, none])) ++ [] = sh' ∧ (∀ a, a < sh.length → a ≠ k → μ' a = μ a)) ({ frames := 1, cells := 0, slots := 0, locals := 30 } : Room).cells ({ frames := 1, cells := 0, slots := 0, locals := 30 } : Room).slots) 0 [some (.ref (X.2 + k))] [] sh μ 0 0 = sx l ({ frames := 1, cells := 0, slots := 0, locals := 30 } : Room) X ExA true kX3_init sh.length (xZ X true sh.length (fun r sh' μ' => r = none ∧ sh.set k (.inl (3, [none, none, none, none, none])) ++ [] = sh' ∧ (∀ a, a < sh.length → a ≠ k → μ' a = μ a)) ({ frames := 1, cells := 0, slots := 0, locals := 30 } : Room).cells ({ frames := 1, cells := 0, slots := 0, locals := 30 } : Room).slots) 0 [some (.ref (X.2 + k))] [] (sh.set k (.inl (3, fl0_3)) ++ []) μ 0 0 by rw [List.append_nil, xsame hs]]
  refine sx_aload_n (pc := 0) dX3_init_0 rfl rfl ?_
  refine sx_objInit (pc := 1) dX3_init_1 lm_X3_3 w_oi w_oc (Nat.le_of_ble_eq_true rfl) (Nat.le_of_ble_eq_true rfl) ?_
  refine sx_aload_n (pc := 4) dX3_init_4 rfl rfl ?_
  refine sx_iconst (pc := 5) (v := 0) dX3_init_5 (by decide) ?_
  refine sx_puti (pc := 6) (ci := 3) (j := 0) (ty := .int) dX3_init_6 rfl (xg_k hk) rfl (by decide) lf_X3_9 rfl (by decide +kernel) rfl rfl (fun μ1 hμ1 => ?_)
  refine sx_aload_n (pc := 9) dX3_init_9 rfl rfl ?_
  refine sx_iconst (pc := 10) (v := (-1)) dX3_init_10 (by decide) ?_
  refine sx_puti (pc := 11) (ci := 3) (j := 1) (ty := .int) dX3_init_11 rfl (xg_k hk) rfl (by decide) lf_X3_15 rfl (by decide +kernel) rfl rfl (fun μ2 hμ2 => ?_)
  refine sx_aload_n (pc := 14) dX3_init_14 rfl rfl ?_
  refine sx_iconst (pc := 15) (v := (-1)) dX3_init_15 (by decide) ?_
  refine sx_puti (pc := 16) (ci := 3) (j := 2) (ty := .int) dX3_init_16 rfl (xg_k hk) rfl (by decide) lf_X3_18 rfl (by decide +kernel) rfl rfl (fun μ3 hμ3 => ?_)
  refine sx_aload_n (pc := 19) dX3_init_19 rfl rfl ?_
  refine sx_iconst (pc := 20) (v := (-1)) dX3_init_20 (by decide) ?_
  refine sx_puti (pc := 21) (ci := 3) (j := 3) (ty := .int) dX3_init_21 rfl (xg_k hk) rfl (by decide) lf_X3_21 rfl (by decide +kernel) rfl rfl (fun μ4 hμ4 => ?_)
  refine sx_aload_n (pc := 24) dX3_init_24 rfl rfl ?_
  refine sx_iconst (pc := 25) (v := (-1)) dX3_init_25 (by decide) ?_
  refine sx_puti (pc := 26) (ci := 3) (j := 4) (ty := .int) dX3_init_26 rfl (xg_k hk) rfl (by decide) lf_X3_24 rfl (by decide +kernel) rfl rfl (fun μ5 hμ5 => ?_)
  exact sx_vret (pc := 29) dX3_init_29 rfl (Nat.le_of_ble_eq_true rfl) (Nat.le_of_ble_eq_true rfl) (by subst hμ5; subst hμ4; subst hμ3; subst hμ2; subst hμ1; exact ⟨rfl, rfl, fun a h1 h2 => by funext j; simp [xup_at, h2]⟩)
