theorem shA_eq : (shC ++ shMo) ++ [(.inr (0, 1, none) : xS)] = shA := by unfold shA; rfl
set_option maxHeartbeats 1000000 in
set_option maxRecDepth 20000 in
theorem law_first {l : Launch} (hl0 : l.stackTraces = false) (X : xD) (bs Ln : Nat) (hL : Ln ≤ 2560) (xs : Nat → Int32) {sk sv : Nat → Nat} {fm : Option Nat} (μ2 μ3 μ4 μ5 : xM) (cs ss : Nat) (ecs : cs = 117) (ess : ss = 14230) (f1 : ∀ d, d < 6 → LFx μ2 d) (f2 : ∀ a, 57 ≤ a → a < 92 → a ≠ 58 → ∀ j, μ2 a j = 0) (f3 : ∀ j, j < 30 → μ2 58 j = (-1)) (f4 : μ2 92 1 = 0) (f5 : μ2 0 4 = 0) (f6 : ∀ j, μ2 93 j = 0) (hμ3 : μ3 = va_up μ2 95 (fun _ => 0)) (g1 : ∀ a, a < 96 → a ≠ 95 → μ4 a = μ3 a) (g3 : μ4 95 20 = 0) (g4 : μ4 95 22 = 0) (g5 : ∀ a, 96 ≤ a → a < 96 + 20 → a ≠ 96 + 4 → ∀ j, μ4 a j = 0) (g6 : ∀ j, j < 6 → μ4 (96 + 4) j = (-1)) (hμ5 : μ5 = va_up μ4 116 (fun _ => 0)) : sx l room_1 X (EL X bs Ln xs sk sv fm) false kL_law shA.length (ZL X) 23 [some (.ref bs), some (.ref (X.2 + 0)), some (.ref (X.2 + 95)), some (.ref (X.2 + 116)), some (.int 0), none, none] [] shA μ5 cs ss := by
  have k5 : ∀ a, a < 116 → μ5 a = μ4 a := fun a ha => by rw [hμ5]; simp [va_up, show a ≠ 116 by omega]
  have k3 : ∀ a, a < 95 → μ5 a = μ2 a := fun a ha => by rw [k5 a (by omega), g1 a (by omega) (by omega), hμ3]; simp [va_up, show a ≠ 95 by omega]
  have z : ∀ a, 96 ≤ a → a < 116 → a ≠ 100 → ∀ j, μ5 a j = 0 := fun a h1 h2 h3 j => by rw [k5 a h2]; exact g5 a h1 (by omega) (by omega) j
  have z0 : ∀ a b j, 96 ≤ a → a < 116 → a ≠ 100 → μ5 a j = b → b = 0 := fun a b j h1 h2 h3 h4 => by rw [← h4]; exact z a h1 h2 h3 j
  have e20 : μ5 95 20 = 0 := by rw [k5 95 (by omega)]; exact g3
  have e22 : μ5 95 22 = 0 := by rw [k5 95 (by omega)]; exact g4
  have hV : Vc μ5 (vw μ5) := by
    refine ⟨fun d hd => ?_, ?_, ⟨fun k hk => ?_, fun i hi => ?_⟩, fun i hi => ?_, ?_, fun j hj => ?_⟩
    · have h := f1 d hd
      unfold LFx at h
      refine ⟨⟨?_, fun _ => ?_, ?_, ?_, ?_, ?_⟩, fun j hj => ?_, fun j hj => ⟨fun q => ?_, ?_, ?_⟩⟩
      · show μ5 (2 + 9 * d) 2 = μ5 98 d
        rw [k3 _ (by omega), z 98 (by omega) (by omega) (by omega)]; exact h.2.1
      · show μ5 (2 + 9 * d) 1 = μ5 96 d
        rw [k3 _ (by omega), z 96 (by omega) (by omega) (by omega)]; exact h.1
      · show μ5 (2 + 9 * d) 11 = μ5 106 d
        rw [k3 _ (by omega), z 106 (by omega) (by omega) (by omega)]; exact h.2.2.2.2.2.1
      · show μ5 (2 + 9 * d) 3 = μ5 99 d
        rw [k3 _ (by omega), z 99 (by omega) (by omega) (by omega)]; exact h.2.2.1
      · show μ5 (2 + 9 * d) 4 = μ5 100 d
        rw [k3 _ (by omega), k5 100 (by omega)]; exact h.2.2.2.1.trans (g6 d hd).symm
      · show μ5 (2 + 9 * d) 5 = μ5 101 d
        rw [k3 _ (by omega), z 101 (by omega) (by omega) (by omega)]; exact h.2.2.2.2.1
      · show μ5 (2 + 9 * d + 1) j = μ5 97 (60 * d + j) &&& 255
        rw [k3 _ (by omega), z 97 (by omega) (by omega) (by omega), h.2.2.2.2.2.2.2.2.2.2 j]; decide
      · have q : nI j < μ5 106 d := q
        rw [z 106 (by omega) (by omega) (by omega)] at q
        exact absurd q (nI_pos (by omega))
      · show μ5 (2 + 9 * d + 7) j = μ5 108 (20 * d + j)
        rw [k3 _ (by omega), z 108 (by omega) (by omega) (by omega)]; exact h.2.2.2.2.2.2.2.2.1 j
      · show μ5 (2 + 9 * d + 8) j = μ5 109 (20 * d + j)
        rw [k3 _ (by omega), z 109 (by omega) (by omega) (by omega)]; exact h.2.2.2.2.2.2.2.2.2.1 j
    · show μ5 0 4 = μ5 95 22
      rw [k3 0 (by omega), e22]; exact f5
    · obtain ⟨d, hd, hc⟩ := hk
      have h := f1 d hd
      unfold LFx at h
      rcases hc with rfl | rfl
      · rw [k3 _ (by omega), h.2.2.2.2.2.2.1]; decide
      · rw [k3 _ (by omega), h.2.2.2.2.2.2.2.1]; decide
    · rw [k3 91 (by omega), f2 91 (by omega) (by omega) (by omega) i]; decide
    · refine ⟨?_, ?_, fun _ => ?_, ?_, fun j hj => ?_⟩
      · show μ5 57 i = μ5 110 i
        rw [k3 57 (by omega), f2 57 (by omega) (by omega) (by omega) i, z 110 (by omega) (by omega) (by omega)]
      · show μ5 58 i + 1 = μ5 111 i
        rw [k3 58 (by omega), f3 i hi, z 111 (by omega) (by omega) (by omega)]; decide
      · show μ5 59 i = μ5 112 i
        rw [k3 59 (by omega), f2 59 (by omega) (by omega) (by omega) i, z 112 (by omega) (by omega) (by omega)]
      · show μ5 91 i = μ5 113 i
        rw [k3 91 (by omega), f2 91 (by omega) (by omega) (by omega) i, z 113 (by omega) (by omega) (by omega)]
      · show μ5 (61 + i) j = μ5 114 (30 * i + j)
        rw [k3 (61 + i) (by omega), f2 (61 + i) (by omega) (by omega) (by omega) j, z 114 (by omega) (by omega) (by omega)]
    · show μ5 92 1 = μ5 95 20
      rw [k3 92 (by omega), e20]; exact f4
    · show μ5 93 j = μ5 115 j
      rw [k3 93 (by omega), z 115 (by omega) (by omega) (by omega)]; exact f6 j
  have hM : Vm μ5 (vw μ5) := ⟨rfl, fun d hd => ⟨⟨0, by omega, z 102 (by omega) (by omega) (by omega) d⟩, ⟨0, by omega, z 104 (by omega) (by omega) (by omega) d⟩⟩⟩
  have hD : VD (20 * 0) (vw μ5) := by
    refine ⟨fun d hd => ⟨Or.inl (z 98 (by omega) (by omega) (by omega) d), Or.inl (z 99 (by omega) (by omega) (by omega) d), ?_, ?_⟩, fun j hj => ⟨?_, ?_⟩, ?_, fun i hi => ⟨⟨0, by omega, z 113 (by omega) (by omega) (by omega) i, fun a ha => absurd ha (Nat.not_lt_zero _), fun a b _ hb => absurd hb (Nat.not_lt_zero _)⟩, ⟨0, by omega, z 111 (by omega) (by omega) (by omega) i⟩⟩, ⟨0, by omega, e20⟩⟩
    · show 0 ≤ μ5 96 d ∧ μ5 96 d ≤ 60
      rw [z 96 (by omega) (by omega) (by omega)]; decide
    · show 0 ≤ μ5 106 d ∧ μ5 106 d ≤ 20
      rw [z 106 (by omega) (by omega) (by omega)]; decide
    · show 0 ≤ μ5 108 j ∧ μ5 108 j < 30
      rw [z 108 (by omega) (by omega) (by omega)]; decide
    · show 0 ≤ μ5 109 j ∧ μ5 109 j < 30
      rw [z 109 (by omega) (by omega) (by omega)]; decide
    · show 0 ≤ μ5 95 22 ∧ μ5 95 22 < 256
      rw [e22]; decide
  exact law_loop hl0 X bs Ln xs hL 513 0 μ5 (vw μ5) none none cs ss (by omega) (by omega) hV hM hD (by omega) (by omega)
set_option maxHeartbeats 1000000 in
set_option maxRecDepth 20000 in
theorem law_s3 {l : Launch} (hl0 : l.stackTraces = false) (X : xD) (bs Ln : Nat) (hL : Ln ≤ 2560) (xs : Nat → Int32) {sk sv : Nat → Nat} {fm : Option Nat} (μ2 μ3 μ4 : xM) (cs ss : Nat) (ecs : cs = 116) (ess : ss = 14229) (f1 : ∀ d, d < 6 → LFx μ2 d) (f2 : ∀ a, 57 ≤ a → a < 92 → a ≠ 58 → ∀ j, μ2 a j = 0) (f3 : ∀ j, j < 30 → μ2 58 j = (-1)) (f4 : μ2 92 1 = 0) (f5 : μ2 0 4 = 0) (f6 : ∀ j, μ2 93 j = 0) (hμ3 : μ3 = va_up μ2 95 (fun _ => 0)) (g1 : ∀ a, a < 96 → a ≠ 95 → μ4 a = μ3 a) (g3 : μ4 95 20 = 0) (g4 : μ4 95 22 = 0) (g5 : ∀ a, 96 ≤ a → a < 96 + 20 → a ≠ 96 + 4 → ∀ j, μ4 a j = 0) (g6 : ∀ j, j < 6 → μ4 (96 + 4) j = (-1)) : sx l room_1 X (EL X bs Ln xs sk sv fm) true kL_law 0 (ZL X) 16 [some (.ref bs), some (.ref (X.2 + 0)), some (.ref (X.2 + 95)), none, none, none, none] [] (shC ++ shMo) μ4 cs ss := by
  subst ecs
  subst ess
  refine sx_iconst (pc := 16) (v := 1) dL_law_16 (by decide) ?_
  refine sx_newaL (pc := 17) (ti := 0) (N := 1) (n1 := 116) (sh' := shA) (by decide +kernel) dL_law_17 w_al rfl rfl rfl (by decide) (by decide) (by decide) shA_eq (Nat.le_of_ble_eq_true rfl) (Nat.le_of_ble_eq_true rfl) (fun _ _ h => h) (fun μ5 hμ5 => ?_)
  refine sx_astore_n (pc := 19) (L' := [some (.ref bs), some (.ref (X.2 + 0)), some (.ref (X.2 + 95)), some (.ref (X.2 + 116)), none, none, none]) dL_law_19 rfl (by decide) rfl ?_
  refine sx_iconst (pc := 20) (v := 0) dL_law_20 (by decide) ?_
  refine sx_istore (pc := 21) (L' := [some (.ref bs), some (.ref (X.2 + 0)), some (.ref (X.2 + 95)), some (.ref (X.2 + 116)), some (.int 0), none, none]) dL_law_21 (by decide) rfl ?_
  refine sx_fix ?_
  exact law_first hl0 X bs Ln hL xs μ2 μ3 μ4 μ5 _ _ (by decide +kernel) (by decide +kernel) f1 f2 f3 f4 f5 f6 hμ3 g1 g3 g4 g5 g6 hμ5
set_option maxHeartbeats 1000000 in
set_option maxRecDepth 20000 in
theorem law_s2 {l : Launch} (hl0 : l.stackTraces = false) (X : xD) (bs Ln : Nat) (hL : Ln ≤ 2560) (xs : Nat → Int32) {sk sv : Nat → Nat} {fm : Option Nat} (μ2 : xM) (cs ss : Nat) (ecs : cs = 95) (ess : ss = 7051) (f1 : ∀ d, d < 6 → LFx μ2 d) (f2 : ∀ a, 57 ≤ a → a < 92 → a ≠ 58 → ∀ j, μ2 a j = 0) (f3 : ∀ j, j < 30 → μ2 58 j = (-1)) (f4 : μ2 92 1 = 0) (f5 : μ2 0 4 = 0) (f6 : ∀ j, μ2 93 j = 0) : sx l room_1 X (EL X bs Ln xs sk sv fm) true kL_law 0 (ZL X) 8 [some (.ref bs), some (.ref (X.2 + 0)), none, none, none, none, none] [] shC μ2 cs ss := by
  subst ecs
  subst ess
  refine sx_newL (pc := 8) (ci := 6) (fl := fl0_6) (n1 := 95) (sh' := shC ++ [.inl (6, fl0_6)]) (by decide +kernel) dL_law_8 rfl lc_L_16 in_6 ii_6 nf_6 rfl (Nat.le_of_ble_eq_true rfl) (Nat.le_of_ble_eq_true rfl) (fun μ3 hμ3 => ?_)
  refine sx_dup (pc := 11) dL_law_11 rfl ?_
  have hlen : (shC ++ [(.inl (6, fl0_6) : xS)]).length = 96 := by decide +kernel
  have hs95 : (shC ++ [(.inl (6, fl0_6) : xS)])[95]? = some (.inl (6, fl0_6)) := by decide +kernel
  generalize hS : shC ++ [(.inl (6, fl0_6) : xS)] = S at hlen hs95 ⊢
  refine sx_callI (pc := 12) (As := []) (k := 95) rfl dL_law_12 ((c_Model_init X S μ3 95 hs95 (fun j => by rw [hμ3]; simp [va_up]) []).ex (fun _ h => h.1)) mX6_init lm_L_18 rfl ⟨(Nat.le_of_ble_eq_true rfl), (Nat.le_of_ble_eq_true rfl)⟩ ⟨(Nat.le_of_ble_eq_true rfl), (Nat.le_of_ble_eq_true rfl)⟩ (Nat.le_of_ble_eq_true rfl) EL_st (fun r_12 sh_12 μ4 h_12 => ?_)
  obtain ⟨rfl, e12, g1, g2, g3, g4, g5, g6⟩ := h_12
  rw [hlen] at g1 g5 g6
  have e12' : shC ++ shMo = sh_12 := by
    rw [← e12, ← hS]
    decide +kernel
  subst e12'
  refine sx_astore_n (pc := 15) (L' := [some (.ref bs), some (.ref (X.2 + 0)), some (.ref (X.2 + 95)), none, none, none, none]) dL_law_15 rfl (by decide) rfl ?_
  exact law_s3 hl0 X bs Ln hL xs μ2 μ3 μ4 _ _ (by decide +kernel) (by decide +kernel) f1 f2 f3 f4 f5 f6 hμ3 g1 g3 g4 g5 g6
set_option maxHeartbeats 1000000 in
set_option maxRecDepth 20000 in
theorem law_start {l : Launch} (hl0 : l.stackTraces = false) (X : xD) (bs Ln : Nat) (hL : Ln ≤ 2560) (xs : Nat → Int32) {sk sv : Nat → Nat} {fm : Option Nat} : sx l room_1 X (EL X bs Ln xs sk sv fm) true kL_law 0 (ZL X) 0 [some (.ref bs), none, none, none, none, none, none] [] [] (fun _ _ => 0) 0 0 := by
  refine sx_newL (pc := 0) (ci := 5) (fl := fl0_5) (n1 := 0) (sh' := [.inl (5, fl0_5)]) rfl dL_law_0 rfl lc_L_8 in_5 ii_5 nf_5 rfl (Nat.le_of_ble_eq_true rfl) (Nat.le_of_ble_eq_true rfl) (fun μ1 hμ1 => ?_)
  refine sx_dup (pc := 3) dL_law_3 rfl ?_
  refine sx_callI (pc := 4) (As := []) (k := 0) rfl dL_law_4 ((c_EW_init X μ1).ex (fun _ h => h.1)) mX5_init lm_L_15 rfl ⟨(Nat.le_of_ble_eq_true rfl), (Nat.le_of_ble_eq_true rfl)⟩ ⟨(Nat.le_of_ble_eq_true rfl), (Nat.le_of_ble_eq_true rfl)⟩ (Nat.le_of_ble_eq_true rfl) EL_st (fun r_4 sh_4 μ2 h_4 => ?_)
  obtain ⟨rfl, rfl, f1, f2, f3, f4, f5, f6⟩ := h_4
  refine sx_astore_n (pc := 7) (L' := [some (.ref bs), some (.ref (X.2 + 0)), none, none, none, none, none]) dL_law_7 rfl (by decide) rfl ?_
  exact law_s2 hl0 X bs Ln hL xs μ2 _ _ (by decide +kernel) (by decide +kernel) f1 f2 f3 f4 f5 f6
set_option maxHeartbeats 2000000 in
set_option maxRecDepth 20000 in
theorem law_words : (∀ w ∈ xnw, w ∈ lw_tbl) ∧ ∀ w ∈ xnw, w.onTables = true := by
  have h : xnw.all (fun w => decide (w ∈ lw_tbl) && w.onTables) = true := by decide +kernel
  refine ⟨fun w hw => ?_, fun w hw => ?_⟩
  · have h1 := List.all_eq_true.mp h w hw
    simp only [Bool.and_eq_true, decide_eq_true_eq] at h1
    exact h1.1
  · have h1 := List.all_eq_true.mp h w hw
    simp only [Bool.and_eq_true, decide_eq_true_eq] at h1
    exact h1.2
theorem lwt {w : Cond} (i : Nat) (h : decide (lw_tbl[i]? = some w) = true) : w ∈ lw_tbl := List.mem_of_getElem? (of_decide_eq_true h)
set_option maxHeartbeats 2000000 in
set_option maxRecDepth 20000 in
theorem law_ExT {b : Nat} {s : State} (hts : ∀ w ∈ lw_tbl, w.before #[Value.ref b] s = true) (hgv : (Jvm.Cond.and given_1 narrow_1).before #[Value.ref b] s = true) : ExT s.heap.size s := by
  have hs := flat_of_before _ hgv
  have u1 : (Cond.laysStatic Bundle.tN "UNASSIGNED_STACK" Bundle.steD).before #[Value.ref b] s = true := hts _ (lwt 534 (by decide +kernel))
  have u2 : (Cond.laysStatic Bundle.tN "SUPPRESSED_SENTINEL" Bundle.listD).before #[Value.ref b] s = true := hts _ (lwt 536 (by decide +kernel))
  have v1 : (Cond.isRef (.static Bundle.tN "UNASSIGNED_STACK" Bundle.steD)).before #[Value.ref b] s = true := hs _ (by decide +kernel)
  have v2 : (Cond.isRef (.static Bundle.tN "SUPPRESSED_SENTINEL" Bundle.listD)).before #[Value.ref b] s = true := hs _ (by decide +kernel)
  have w1 : (Cond.stringRef "ExchangeWire" 68 aioTx).before #[Value.ref b] s = true := hts _ (lwt 546 (by decide +kernel))
  have w2 : (Cond.castable aioN aioN).before #[Value.ref b] s = true := hts _ (lwt 507 (by decide +kernel))
  have w3 : ∀ n ∈ dcL, Cond.declares (Bundle.initS n) ∈ lw_tbl := by
    have h : dcL.all (fun n => decide (Cond.declares (Bundle.initS n) ∈ lw_tbl)) = true := by decide +kernel
    intro n hn
    exact of_decide_eq_true (List.all_eq_true.mp h n hn)
  obtain ⟨c, k, i, f, a, cell, hc, hi, hst, hsa, hcell, -⟩ := Cond.laysStatic_spec u1
  have ha : a < s.heap.size := (Array.getElem?_eq_some_iff.mp hcell).1
  refine ⟨w1, ⟨va_Nw.of rfl w2, fun n hn => va_Nw.of rfl (hts _ (w3 n hn))⟩, fun w hw => ?_, fun w hw => ?_, c, k, a, hc, ff_class hi, hsa, ha, ha⟩
  · simp only [stW, List.mem_cons, List.not_mem_nil, or_false] at hw
    rcases hw with rfl | rfl
    · exact u1
    · exact u2
  · simp only [srW, List.mem_cons, List.not_mem_nil, or_false] at hw
    rcases hw with rfl | rfl
    · exact v1
    · exact v2
set_option maxHeartbeats 2000000 in
set_option maxRecDepth 20000 in
theorem law_K {b : Nat} {s : State} (hts : ∀ w ∈ lw_tbl, w.before #[Value.ref b] s = true) : ∃ D : va_G × (Nat → ClassId), va_K D.1 classes (xty.mapIdx fun i t => (D.2 i, t)) s := by
  have hts' : ∀ w ∈ xws, w.before #[Value.ref b] s = true := fun w hw => hts w (List.mem_filter.mp hw).1
  have hc : ∀ c : Nat, ∃ d : ClassId × (Nat → Nat), ∀ q : vw_C, classes[c]? = some q → u_Kn s q.1 q.2.1 q.2.2 d.1 d.2 := by
    intro c
    match c, (Nat.lt_or_ge c 7) with
    | 0, _ =>
      obtain ⟨cC, iS, h⟩ := u_known hts' (xcl_ok 0 _ rfl).1 (hts' _ in_0)
      refine ⟨(cC, iS), fun q hq => ?_⟩
      cases hq
      exact h
    | 1, _ =>
      obtain ⟨cC, iS, h⟩ := u_known hts' (xcl_ok 1 _ rfl).1 (hts' _ in_1)
      refine ⟨(cC, iS), fun q hq => ?_⟩
      cases hq
      exact h
    | 2, _ =>
      obtain ⟨cC, iS, h⟩ := u_known hts' (xcl_ok 2 _ rfl).1 (hts' _ in_2)
      refine ⟨(cC, iS), fun q hq => ?_⟩
      cases hq
      exact h
    | 3, _ =>
      obtain ⟨cC, iS, h⟩ := u_known hts' (xcl_ok 3 _ rfl).1 (hts' _ in_3)
      refine ⟨(cC, iS), fun q hq => ?_⟩
      cases hq
      exact h
    | 4, _ =>
      obtain ⟨cC, iS, h⟩ := u_known hts' (xcl_ok 4 _ rfl).1 (hts' _ in_4)
      refine ⟨(cC, iS), fun q hq => ?_⟩
      cases hq
      exact h
    | 5, _ =>
      obtain ⟨cC, iS, h⟩ := u_known hts' (xcl_ok 5 _ rfl).1 (hts' _ in_5)
      refine ⟨(cC, iS), fun q hq => ?_⟩
      cases hq
      exact h
    | 6, _ =>
      obtain ⟨cC, iS, h⟩ := u_known hts' (xcl_ok 6 _ rfl).1 (hts' _ in_6)
      refine ⟨(cC, iS), fun q hq => ?_⟩
      cases hq
      exact h
    | n + 7, _ => exact ⟨(0, fun _ => 0), fun q hq => (by cases hq)⟩
  have ha : ∀ i : Nat, ∃ cA : ClassId, ∀ t : FieldType, xty[i]? = some t → ArrOfT s cA t ∧ va_RA s cA t := by
    intro i
    match i, (Nat.lt_or_ge i 6) with
    | 0, hi =>
      obtain ⟨cA, kA, comp, f1, f2, f3⟩ := Cond.arrayClass_spec (hts' _ w_al)
      refine ⟨cA, fun t ht => ?_⟩
      cases ht
      exact ⟨fun n z => ⟨fun k h => (by cases h), kA, f2, comp, f3⟩, f1⟩
    | 1, hi =>
      obtain ⟨cA, kA, comp, f1, f2, f3⟩ := Cond.arrayClass_spec (hts' _ w_ai)
      refine ⟨cA, fun t ht => ?_⟩
      cases ht
      exact ⟨fun n z => ⟨fun k h => (by cases h), kA, f2, comp, f3⟩, f1⟩
    | 2, hi =>
      obtain ⟨cA, kA, comp, f1, f2, f3⟩ := Cond.arrayClass_spec (hts' _ w_ab)
      refine ⟨cA, fun t ht => ?_⟩
      cases ht
      exact ⟨fun n z => ⟨fun k h => (by cases h), kA, f2, comp, f3⟩, f1⟩
    | 3, hi =>
      obtain ⟨cA, kA, comp, f1, f2, f3⟩ := Cond.arrayClass_spec (hts' _ w_az)
      refine ⟨cA, fun t ht => ?_⟩
      cases ht
      exact ⟨fun n z => ⟨fun k h => (by cases h), kA, f2, comp, f3⟩, f1⟩
    | 4, _ =>
      obtain ⟨comp, cA, kA, f1, f2, f3, f4, f5⟩ := Cond.arrayOver_spec (hts (Cond.arrayOver (.object "ExchangeWire$Line")) (lwt 63 (by decide +kernel)))
      refine ⟨cA, fun t ht => ?_⟩
      cases ht
      exact ⟨fun n z => ⟨fun k h => (by cases h), kA, f3, comp, f4⟩, kA, comp, f3, f4, f1, f5⟩
    | 5, _ =>
      obtain ⟨comp, cA, kA, f1, f2, f3, f4, f5⟩ := arrayOverA_spec (hts (Cond.arrayOver (.array .int)) (lwt 142 (by decide +kernel)))
      refine ⟨cA, fun t ht => ?_⟩
      cases ht
      exact ⟨fun n z => ⟨fun k h => (by cases h), kA, f3, comp, f4⟩, f5⟩
    | n + 6, _ => exact ⟨0, fun t ht => (by cases ht)⟩
  obtain ⟨dC, hdC⟩ := Classical.axiomOfChoice hc
  obtain ⟨dA, hdA⟩ := Classical.axiomOfChoice ha
  refine ⟨((fun c => (dC c).1, fun c => (dC c).2), dA), fun c q hq => hdC c q hq, fun k q hq => ?_⟩
  rw [List.getElem?_mapIdx] at hq
  cases ht : xty[k]? with
  | none => rw [ht] at hq; cases hq
  | some t =>
    rw [ht] at hq
    cases hq
    exact hdA k t ht
set_option maxHeartbeats 1000000 in
set_option maxRecDepth 20000 in
theorem law_ExS {b : Nat} {s : State} (D : va_G × (Nat → ClassId)) (hts : ∀ w ∈ lw_tbl, w.before #[Value.ref b] s = true) (hgv : (Jvm.Cond.and given_1 narrow_1).before #[Value.ref b] s = true) : ∃ (sk sv : Nat → Nat) (fm : Option Nat), ExS (D, s.heap.size) sk sv fm s := by
  have hs := flat_of_before _ hgv
  have hA : ∀ a : Nat, a < s.heap.size → ¬ oA (D, s.heap.size) a := fun a ha q => absurd q (Nat.not_le.mpr ha)
  have c1 : ∀ i : Nat, i < 5 → Cond.exactly (Term.string sME (59 + 2 * i)) "java/lang/String" ∈ flatC (Jvm.Cond.and given_1 narrow_1) := by
    have h : (List.range 5).all (fun i => decide (Cond.exactly (Term.string sME (59 + 2 * i)) "java/lang/String" ∈ flatC (Jvm.Cond.and given_1 narrow_1))) = true := by decide +kernel
    intro i hi
    exact of_decide_eq_true (List.all_eq_true.mp h i (List.mem_range.mpr hi))
  have c2 : ∀ i : Nat, i < 5 → Cond.eq (.field (Term.string sME (59 + 2 * i)) "java/lang/String" "coder" "B") (.int 0) ∈ flatC (Jvm.Cond.and given_1 narrow_1) := by
    have h : (List.range 5).all (fun i => decide (Cond.eq (.field (Term.string sME (59 + 2 * i)) "java/lang/String" "coder" "B") (.int 0) ∈ flatC (Jvm.Cond.and given_1 narrow_1))) = true := by decide +kernel
    intro i hi
    exact of_decide_eq_true (List.all_eq_true.mp h i (List.mem_range.mpr hi))
  have c3 : ∀ i : Nat, i < 5 → Cond.arrayOf (Term.field (Term.string sME (59 + 2 * i)) "java/lang/String" "value" "[B") .byte ∈ flatC (Jvm.Cond.and given_1 narrow_1) := by
    have h : (List.range 5).all (fun i => decide (Cond.arrayOf (Term.field (Term.string sME (59 + 2 * i)) "java/lang/String" "value" "[B") .byte ∈ flatC (Jvm.Cond.and given_1 narrow_1))) = true := by decide +kernel
    intro i hi
    exact of_decide_eq_true (List.all_eq_true.mp h i (List.mem_range.mpr hi))
  have c4 : ∀ i : Nat, i < 5 → Cond.eq (.length (Term.field (Term.string sME (59 + 2 * i)) "java/lang/String" "value" "[B")) (.int (Int32.ofNat (sLen.getD i 0))) ∈ flatC (Jvm.Cond.and given_1 narrow_1) := by
    have h : (List.range 5).all (fun i => decide (Cond.eq (.length (Term.field (Term.string sME (59 + 2 * i)) "java/lang/String" "value" "[B")) (.int (Int32.ofNat (sLen.getD i 0))) ∈ flatC (Jvm.Cond.and given_1 narrow_1))) = true := by decide +kernel
    intro i hi
    exact of_decide_eq_true (List.all_eq_true.mp h i (List.mem_range.mpr hi))
  have c5 : ∀ i : Nat, i < 5 → ∀ j : Nat, j < sLen.getD i 0 → Cond.eq (.elem (Term.field (Term.string sME (59 + 2 * i)) "java/lang/String" "value" "[B") (.int (Int32.ofNat j))) (.int ((sByt.getD i []).getD j 0)) ∈ flatC (Jvm.Cond.and given_1 narrow_1) := by
    have h : (List.range 5).all (fun i => (List.range (sLen.getD i 0)).all (fun j => decide (Cond.eq (.elem (Term.field (Term.string sME (59 + 2 * i)) "java/lang/String" "value" "[B") (.int (Int32.ofNat j))) (.int ((sByt.getD i []).getD j 0)) ∈ flatC (Jvm.Cond.and given_1 narrow_1)))) = true := by decide +kernel
    intro i hi j hj
    exact of_decide_eq_true (List.all_eq_true.mp (List.all_eq_true.mp h i (List.mem_range.mpr hi)) j (List.mem_range.mpr hj))
  have c6 : ∀ i j : Nat, i < 5 → j < 5 → i ≠ j → Cond.not (Cond.eq (Term.string sME (59 + 2 * i)) (Term.string sME (59 + 2 * j))) ∈ flatC (Jvm.Cond.and given_1 narrow_1) ∨ Cond.not (Cond.eq (Term.string sME (59 + 2 * j)) (Term.string sME (59 + 2 * i))) ∈ flatC (Jvm.Cond.and given_1 narrow_1) := by
    have h : (List.range 5).all (fun i => (List.range 5).all (fun j => decide (i = j) || (decide (Cond.not (Cond.eq (Term.string sME (59 + 2 * i)) (Term.string sME (59 + 2 * j))) ∈ flatC (Jvm.Cond.and given_1 narrow_1)) || decide (Cond.not (Cond.eq (Term.string sME (59 + 2 * j)) (Term.string sME (59 + 2 * i))) ∈ flatC (Jvm.Cond.and given_1 narrow_1))))) = true := by decide +kernel
    intro i j hi hj hne
    have h1 := List.all_eq_true.mp (List.all_eq_true.mp h i (List.mem_range.mpr hi)) j (List.mem_range.mpr hj)
    simp only [Bool.or_eq_true, decide_eq_true_eq] at h1
    rcases h1 with q | q | q
    · exact absurd q hne
    · exact Or.inl q
    · exact Or.inr q
  obtain ⟨sk, sv, hS, hev⟩ := vk_Sof (args := #[Value.ref b]) (s := s) (N := 5) (tm := (fun i => Term.string sME (59 + 2 * i))) (len := sLen) (byt := sByt) (A := oA (D, s.heap.size)) (fun i hi => by rcases (show i = 0 ∨ i = 1 ∨ i = 2 ∨ i = 3 ∨ i = 4 by omega) with rfl | rfl | rfl | rfl | rfl <;> decide) (fun i hi => hs _ (c1 i hi)) (fun i hi => hs _ (c2 i hi)) (fun i hi => hs _ (c3 i hi)) (fun i hi => hs _ (c4 i hi)) (fun i hi j hj => hs _ (c5 i hi j hj)) (fun i j hi hj hne => (c6 i j hi hj hne).elim (fun q => Or.inl (hs _ q)) (fun q => Or.inr (hs _ q))) hA
  have r : ∀ i : Nat, i < 5 → (Cond.stringRef sME (59 + 2 * i) (sTxt.getD i "")).before #[Value.ref b] s = true := by
    intro i hi
    rcases (show i = 0 ∨ i = 1 ∨ i = 2 ∨ i = 3 ∨ i = 4 by omega) with rfl | rfl | rfl | rfl | rfl
    · exact hts _ (lwt 256 (by decide +kernel))
    · exact hts _ (lwt 257 (by decide +kernel))
    · exact hts _ (lwt 258 (by decide +kernel))
    · exact hts _ (lwt 259 (by decide +kernel))
    · exact hts _ (lwt 260 (by decide +kernel))
  have zc : va_Z sST "COMPACT_STRINGS" "Z" (.int 1) (oA (D, s.heap.size)) s s.heap := va_Zof (args := #[Value.ref b]) (hts _ (lwt 273 (by decide +kernel))) (hts _ (lwt 43 (by decide +kernel))) (va_eqt (hs (Cond.eq (.static sST "COMPACT_STRINGS" "Z") (.int 1)) (by decide +kernel))) hA
  have zq : va_Zq sPC "SIOOBE_FORMATTER" sBF (oA (D, s.heap.size)) s s.heap := va_Zqof (args := #[Value.ref b]) (hts _ (lwt 289 (by decide +kernel))) (hts _ (lwt 45 (by decide +kernel))) (hs (Cond.isRef (.static sPC "SIOOBE_FORMATTER" sBF)) (by decide +kernel)) hA
  rcases zq with zn | ⟨a, zn⟩
  · exact ⟨sk, sv, none, hS, fun i hi => vk_R.of (r i hi) (hev i hi), zc, zn⟩
  · exact ⟨sk, sv, some a, hS, fun i hi => vk_R.of (r i hi) (hev i hi), zc, zn⟩
set_option maxHeartbeats 2000000 in
set_option maxRecDepth 20000 in
theorem whole_start {p : Program} {e : Env} {s : State} {m : MethodId} {below : List Frame} {meth : Method} {c : Code} (l : Launch) (hl0 : l.stackTraces = false) {b L : Nat} {xs : Nat → Int32} (hL : L ≤ 2560) (C0 : lw_At p s m meth c b L xs) : W p l e room_1 s m #[Value.ref b] below meth c s.heap [] 0 0 (lw_Z below #[Value.ref b] s) (entryFrame m ([Value.ref b] : List Value).toArray 7) := by
  obtain ⟨hx, hb, hr, hml, hown, hts, hX, hbl, hlocks, hgv⟩ := C0
  obtain ⟨D, hK⟩ := law_K hts
  obtain ⟨sk, sv, fm, hES⟩ := law_ExS D hts hgv
  have hl := lv_entry ([.ref b]) (n := 7) (Nat.le_of_ble_eq_true rfl)
  rw [lg_entry_eq]
  generalize (lg_sl ([.ref b]) ++ List.replicate (7 - (lg_sl ([.ref b])).length) Slot.unset).toArray = ls at hl ⊢
  have hl : lv_has ls 7 [(0, .ref b)] := hl
  have hAO : ExA s := ⟨va_AO.of (hts _ (lwt 63 (by decide +kernel))), hts (Cond.arrayOver (.array .int)) (lwt 142 (by decide +kernel))⟩
  have hw := law_start hl0 (D, s.heap.size) b L hL xs (sk := sk) (sv := sv) (fm := fm) p e s m #[Value.ref b] below meth c s.heap [] ls
    ⟨hx, hb, hml, hr, hlocks, hown, fun w hw => hts w (List.mem_filter.mp hw).1, fun w hw => va_Nw.of (law_words.2 w hw) (hts w (law_words.1 w hw)), hK, ⟨hAO, law_ExT hts hgv, hX, hbl, hbl, hES⟩, fun _ => rfl, fun h => (by cases h), fun q hq cell hcell => (by
      have := (Array.getElem?_eq_some_iff.mp hcell).1
      have := hq.1
      exact absurd this (Nat.not_le.mpr (by assumption)))⟩
    ⟨fun k q h => (by simp [xwl] at h), ⟨Nat.le_refl _, fun _ _ _ => rfl, fun _ h => (by cases h)⟩, Nat.zero_le _, fun h => (by cases h), fun _ => rfl⟩
    ⟨hl, fun j v h => (by
      match j, h with
      | 0, h => cases h; rfl
      | 1, h => cases h
      | 2, h => cases h
      | 3, h => cases h
      | 4, h => cases h
      | 5, h => cases h
      | 6, h => cases h
      | j + 7, h => cases h)⟩
  intro T hT X'
  obtain ⟨t, a1, b1⟩ := hw T hT X'
  exact ⟨t, a1, b1 rfl⟩
set_option maxHeartbeats 4000000 in
theorem lw_walk (l : Launch) (hl0 : l.stackTraces = false) (b : Addr) (xs : List Int32) : MetFree l x (headSpec (Jvm.Cond.code x code maxLocals ret :: tables_1) room_1) (lw_P b xs) (fun _ _ _ _ _ => True) lw_Q := by
  refine MetFree.of_bodyS (code := code) (maxLocals := maxLocals) (ret := ret) (by decide) ?_ ?_
  · intro args s m h hn
    obtain ⟨meth, c, h1, h2, h3, h4, h5, h6, -, -⟩ := Cond.code_spec hn (atoms_spec (ws := Jvm.Cond.code x code maxLocals ret :: tables_1) h _ List.mem_cons_self)
    exact ⟨meth, c, h1, h2, h3, h4, h5, h6⟩
  · intro p e s m args below meth c s₁ B hml0 hP _
    obtain ⟨rfl, hx, hbd, hgv⟩ := hP
    obtain ⟨scr, harrAt, hlist, hof, hsmall⟩ := hx
    obtain ⟨hcb, hkn, -, -⟩ := State.arrayAt?_spec harrAt
    have hown : s.vm.findClass R_law = some m.cls := findClass_of_methodNamed B.named
    have hts0 : ∀ c ∈ (Jvm.Cond.code x code maxLocals ret :: tables_1), c.before #[Value.ref b] s = true := atoms_spec (ws := Jvm.Cond.code x code maxLocals ret :: tables_1) B.pre
    have hts : ∀ w ∈ lw_tbl, w.before #[Value.ref b] s = true := k2_hts_sels lw_privs (fun w hw => hts0 w (List.mem_cons_of_mem _ hw)) lw_privs_ok
    have hml : c.maxLocals = 7 := B.maxLocals_eq (hts0 _ List.mem_cons_self)
    have X₀ : Stand p l e room_1 s m #[Value.ref b] below meth c s₁ [] 0 0 := Stand.of_body B
    have hh0 : s₁.heap = s.heap := by rw [B.state]; rfl
    have hsz : scr.slots.size = xs.length := by rw [← Array.length_toList, hlist, List.length_map]
    have hval : ∀ j : Nat, j < xs.length → scr.slots[j]? = some (.int (xs.getD j 0)) := fun j hj => by
      rw [← Array.getElem?_toList, hlist]
      simp [hj]
    have hbl : b < s.heap.size := (Array.getElem?_eq_some_iff.mp hcb).1
    have hX : va_X b xs.length (fun j => xs.getD j 0) s s.heap := ⟨scr, hcb, hof, hkn, hsz, hval⟩
    have K : W p l e room_1 s m #[Value.ref b] below meth c s₁.heap [] 0 0 (lw_Z below #[Value.ref b] s) (entryFrame m ([Value.ref b] : List Value).toArray 7) := by
      rw [hh0]
      exact whole_start l hl0 hbd ⟨B.exec, B.bytes, B.returns, hml, hown, hts, hX, hbl, B.notSynchronized, hgv⟩
    obtain ⟨t, a1, o, b1, b2, b3⟩ := K s₁ rfl X₀
    exact ⟨t, o, a1, b1, b2, b3⟩
theorem lw_pre_spec {args : Array Value} {s : State} (h : (Jvm.Cond.and given_1 narrow_1).before args s = true) (hr : rest_1_c.before args s = true) : ∃ (b : Addr) (xs : List Int32), lw_P b xs args s := by
  have hs := flat_of_before _ h
  have hq := flat_of_before _ hr
  have hc : (Cond.count 1).before args s = true := hs _ (by decide +kernel)
  have harr : (Cond.arrayOf (.arg 0) .int).before args s = true := hs _ (by decide +kernel)
  have hle : (Cond.le (.length (.arg 0)) (.int 2560)).before args s = true := hs _ (by decide +kernel)
  have hlen : (Cond.isInt (.length (.arg 0))).before args s = true := hq _ (by decide +kernel)
  have hall : (Cond.all (.arg 0) (.isInt (.elem (.arg 0) (.index 0)))).before args s = true := hq _ (by decide +kernel)
  obtain ⟨b, xs, hb, hx⟩ := State.ints_of_pre rfl harr hlen hall
  have hsm : xs.length < 2 ^ 31 := hx.choose_spec.2.2.2
  have hev : (Term.length (.arg 0)).eval args s none [] s = some (.int xs.length.toInt32) := hx.length_eval hb
  have hv := Cond.le_ints hev (show (Term.int 2560).eval args s none [] s = some (.int 2560) from rfl)
  have hd : xs.length.toInt32 ≤ 2560 := by
    simpa [Cond.before, Cond.holds, hv] using hle
  have hN : xs.length ≤ 2560 := (Int32.ofNat_le_ofNat hsm (by decide)).mp (show Int32.ofNat xs.length ≤ Int32.ofNat 2560 from hd)
  exact ⟨b, xs, Cond.one_arg hc (show args[0]? = some (.ref b) from hb), hx, hN, h⟩
theorem lw_comes (l : Launch) (hl0 : l.stackTraces = false) : Comes l x (Jvm.Cond.code x code maxLocals ret :: tables_1) room_1 (fun tb e args s => Calls_1 tb e args s ∧ rest_1 tb e args s ∧ Pre_1 tb e args s)
    (fun _ _ args s o t => lw_Q args s o t) := by
  intro p e ha hc hk s m args below hf hfit hheap happ hpre
  obtain ⟨b, xs, hP⟩ := lw_pre_spec hpre.2.2 hpre.2.1
  obtain ⟨k, o, h1, h2, h3, hQ⟩ := lw_walk l hl0 b xs p e ha hc hk s m args below hf ((Spec.applies_iff_loose hf).mp happ).1 hP trivial
  exact ⟨k, o, h1, h2, h3, hQ⟩
theorem lw_frame {s t : State} {o : Outcome} {args : Array Value} (h : Framed s o t [] 601024 7293034) :
    Framed s o t (fieldLocs frame_1_writes args s ++ arrayLocs frame_1_arrays args s ++ staticLocs frame_1_statics s) 601024 7293034 := h
theorem lw_limb (L : Cond) (hL : ∀ (args : Array Value) (s t : State), L.after args s (.returned (some (.int 1))) t = true) :
    ArmFor flags0 classFile x code maxLocals ret World_1 tables_1 room_1 Calls_1 rest_1 Pre_1
      (fun tb e a s o t => postC L tb e a s o t ∧ Framed s o t (fieldLocs frame_1_writes a s ++ arrayLocs frame_1_arrays a s ++ staticLocs frame_1_statics s) 601024 7293034) := by
  intro l hfl _ _ p e ha hc hk s m args below hf hfit hheap happ hpre
  obtain ⟨k, o, h1, h2, h3, rfl, hF⟩ := lw_comes l (by unfold Launch.stackTraces; rw [hfl]; decide) p e ha hc hk s m args below hf hfit hheap happ hpre
  exact ⟨k, _, h1, h2, h3, hL args s _, lw_frame hF⟩
theorem i_vc : Claimed_1_1 ∧ Claimed_1_2 := ⟨lw_limb limb_1_1 (fun args s t => by simp [limb_1_1, Cond.after, Cond.holds, Cond.value]), lw_limb limb_1_2 (fun args s t => Cond.after_iff.mpr (by
  first | (rw [show limb_1_2 = Cond.eq .result (.int 1) from rfl, Cond.eq_ints (x := 1) (y := 1) rfl rfl]; simp; done) | (simp [limb_1_2, Cond.value, Term.eval]; done)))⟩
