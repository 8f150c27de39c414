/-! what stays, and what is kept in bounds, over every road of the class -/
def RK (k : Nat) : Prop := ∃ d, d < 6 ∧ (k = 2 + 9 * d + 2 ∨ k = 2 + 9 * d + 4)
def LB (μ : xM) : Prop := (∀ k, RK k → 0 ≤ μ k 1 ∧ μ k 1 ≤ 13) ∧ ∀ i, i < 30 → 0 ≤ μ 91 i ∧ μ 91 i ≤ 30
def Ch (S : Nat → Prop) (μ μ' : xM) : Prop := (∀ a, ¬ S a → μ' a = μ a) ∧ (LB μ → LB μ')
theorem Ch.rf {S : Nat → Prop} {μ : xM} : Ch S μ μ := ⟨fun _ _ => rfl, fun h => h⟩
theorem Ch.trans {S S' : Nat → Prop} {μ μ1 μ2 : xM} (h : Ch S μ μ1) (h' : Ch S' μ1 μ2) (hs : ∀ a, S' a → S a := by (intro a h; omega)) : Ch S μ μ2 := ⟨fun a ha => (h'.1 a (fun z => ha (hs a z))).trans (h.1 a ha), fun z => h'.2 (h.2 z)⟩
theorem Ch.put {S : Nat → Prop} {μ μ1 μ2 : xM} {k j : Nat} {v : Int32} (h : Ch S μ μ1) (e : μ2 = xup μ1 k j v) (hs : S k) (hl : LB μ1 → LB μ2) : Ch S μ μ2 := by
  refine ⟨fun a ha => ?_, fun z => hl (h.2 z)⟩
  rw [← h.1 a ha, e]
  funext b
  have hn : ¬ (a = k ∧ b = j) := fun q => ha (by rw [q.1]; exact hs)
  rw [xup_at, if_neg hn]
theorem LB.off {μ1 μ2 : xM} {k j : Nat} {v : Int32} (e : μ2 = xup μ1 k j v) (hk : k ≠ 91 ∧ ∀ d, d < 6 → k ≠ 2 + 9 * d + 2 ∧ k ≠ 2 + 9 * d + 4) (h : LB μ1) : LB μ2 := by
  refine ⟨fun q hq => ?_, fun i hi => ?_⟩
  · have hn : ¬ (q = k ∧ 1 = j) := fun z => by
      obtain ⟨d, hd, hc⟩ := hq
      have := hk.2 d hd
      omega
    rw [e, xup_at, if_neg hn]
    exact h.1 q hq
  · have hn : ¬ (91 = k ∧ i = j) := fun z => hk.1 z.1.symm
    rw [e, xup_at, if_neg hn]
    exact h.2 i hi
theorem RK.off {k : Nat} (h : RK k) : k + 1 ≠ 91 ∧ ∀ d, d < 6 → k + 1 ≠ 2 + 9 * d + 2 ∧ k + 1 ≠ 2 + 9 * d + 4 := by
  obtain ⟨d, hd, hc⟩ := h
  exact ⟨by omega, fun d' hd' => by omega⟩
theorem LB.len {μ1 μ2 : xM} {k : Nat} {v : Int32} (e : μ2 = xup μ1 k 1 v) (hk : RK k) (hv : 0 ≤ v ∧ v ≤ 13) (h : LB μ1) : LB μ2 := by
  refine ⟨fun q hq => ?_, fun i hi => ?_⟩
  · rw [e, xup_at]
    split
    · exact hv
    · exact h.1 q hq
  · have hn : ¬ (91 = k ∧ i = 1) := fun z => by
      obtain ⟨d, hd, hc⟩ := hk
      omega
    rw [e, xup_at, if_neg hn]
    exact h.2 i hi
theorem LB.qln {μ1 μ2 : xM} {j : Nat} {v : Int32} (e : μ2 = xup μ1 91 j v) (hv : LB μ1 → 0 ≤ v ∧ v ≤ 30) (h : LB μ1) : LB μ2 := by
  refine ⟨fun q hq => ?_, fun i hi => ?_⟩
  · have hn : ¬ (q = 91 ∧ 1 = j) := fun z => by
      obtain ⟨d, hd, hc⟩ := hq
      omega
    rw [e, xup_at, if_neg hn]
    exact h.1 q hq
  · rw [e, xup_at]
    split
    · exact hv h
    · exact h.2 i hi
theorem vp_in_lt {x : Int32} {n : Nat} (h0 : 0 ≤ x) (h : x < nI n) (hn : n < 2 ^ 31) : vp_in x n := by
  rw [vp_in_iff]
  have h1 := Int32.le_iff_toInt_le.mp h0
  have h2 := Int32.lt_iff_toInt_lt.mp h
  rw [nI_toInt hn] at h2
  exact ⟨by simpa using h1, h2⟩
theorem inc13 {x : Int32} (h0 : ¬ x < 0) (h1 : ¬ 13 ≤ x) : 0 ≤ x + 1 ∧ x + 1 ≤ 13 := by
  obtain ⟨j, hj, rfl⟩ := nI_of h0
  rw [show (13 : Int32) = nI 13 from rfl, nI_leI (by omega) (by omega)] at h1
  rw [nI_1, show (13 : Int32) = nI 13 from rfl, nI_leI (by omega) (by omega)]
  exact ⟨nI_pos' (by omega), by omega⟩
theorem bool_n {x : Int32} (h : x = 0 ∨ x = 1) : narrow .boolean (.int x) = .int x := by
  rcases h with rfl | rfl <;> rfl
abbrev SR (k : Nat) : Nat → Prop := fun a => a = k ∨ a = k + 1
abbrev SH : Nat → Prop := fun a => 57 ≤ a ∧ a ≤ 91
abbrev SM : Nat → Prop := fun a => a = 94
abbrev SJ : Nat → Prop := fun a => a = 92 ∨ a = 93
set_option maxHeartbeats 1000000 in
set_option maxRecDepth 20000 in
theorem c_isBelow (X : xD) (Ex : State → Prop) (fr : Bool) (sh : List xS) (μ : xM) (i b : Int32) : Ct X Ex fr yX5_isBelow kX5_isBelow (rmN 0) [.int i, .int b] sh μ (fun r sh' μ' => sh = sh' ∧ μ = μ' ∧ ∃ x : Int32, r = some (.int x) ∧ ((x = 1 ∧ 0 ≤ i ∧ i < b) ∨ (x = 0 ∧ ¬ (0 ≤ i ∧ i < b)))) := by
  refine Ct.of (L0 := [some (.int i), some (.int b)]) (by decide) rfl (fun h => by cases h) (by simp [Value.category]) (Nat.le_of_ble_eq_true rfl) rfl (fun l => ?_)
  refine sx_iload_n (pc := 0) dX5_isBelow_0 rfl rfl ?_
  refine sx_if_lt (pc := 1) (tgt := 13) dX5_isBelow_1 (by decide) (fun c_1 => ?_) (fun c_1 => ?_)
  · have h_1t := c_1
    refine sx_iconst (pc := 13) (v := 0) dX5_isBelow_13 (by decide) ?_
    exact sx_iret (pc := 14) dX5_isBelow_14 rfl rfl (Nat.zero_le _) (Nat.zero_le _) (by refine ⟨rfl, rfl, _, rfl, ?_⟩; first | (left; exact ⟨rfl, Int32.not_lt.mp h_1f, Int32.not_le.mp h_6f⟩) | (right; refine ⟨rfl, fun q => ?_⟩; first | exact absurd h_1t (Int32.not_lt.mpr q.1) | exact absurd q.2 (Int32.not_lt.mpr h_6t)))
  · have h_1f := c_1
    refine sx_iload_n (pc := 4) dX5_isBelow_4 rfl rfl ?_
    refine sx_iload_n (pc := 5) dX5_isBelow_5 rfl rfl ?_
    refine sx_icmp_ge (pc := 6) (tgt := 13) dX5_isBelow_6 (by decide) (fun c_6 => ?_) (fun c_6 => ?_)
    · have h_6t := c_6
      refine sx_iconst (pc := 13) (v := 0) dX5_isBelow_13 (by decide) ?_
      exact sx_iret (pc := 14) dX5_isBelow_14 rfl rfl (Nat.zero_le _) (Nat.zero_le _) (by refine ⟨rfl, rfl, _, rfl, ?_⟩; first | (left; exact ⟨rfl, Int32.not_lt.mp h_1f, Int32.not_le.mp h_6f⟩) | (right; refine ⟨rfl, fun q => ?_⟩; first | exact absurd h_1t (Int32.not_lt.mpr q.1) | exact absurd q.2 (Int32.not_lt.mpr h_6t)))
    · have h_6f := c_6
      refine sx_iconst (pc := 9) (v := 1) dX5_isBelow_9 (by decide) ?_
      refine sx_goto (pc := 10) (tgt := 14) dX5_isBelow_10 (by decide) ?_
      exact sx_iret (pc := 14) dX5_isBelow_14 rfl rfl (Nat.zero_le _) (Nat.zero_le _) (by refine ⟨rfl, rfl, _, rfl, ?_⟩; first | (left; exact ⟨rfl, Int32.not_lt.mp h_1f, Int32.not_le.mp h_6f⟩) | (right; refine ⟨rfl, fun q => ?_⟩; first | exact absurd h_1t (Int32.not_lt.mpr q.1) | exact absurd q.2 (Int32.not_lt.mpr h_6t)))
theorem isB_t {x i b : Int32} (h : (x = 1 ∧ 0 ≤ i ∧ i < b) ∨ (x = 0 ∧ ¬ (0 ≤ i ∧ i < b))) (hx : ¬ x = 0) : 0 ≤ i ∧ i < b := by
  rcases h with h | h
  · exact h.2
  · exact absurd h.1 hx
theorem isB_f {x i b : Int32} (h : (x = 1 ∧ 0 ≤ i ∧ i < b) ∨ (x = 0 ∧ ¬ (0 ≤ i ∧ i < b))) (hx : x = 0) : ¬ (0 ≤ i ∧ i < b) := by
  rcases h with h | h
  · rw [h.1] at hx; exact absurd hx (by decide)
  · exact h.2
theorem isB_b {x i b : Int32} (h : (x = 1 ∧ 0 ≤ i ∧ i < b) ∨ (x = 0 ∧ ¬ (0 ≤ i ∧ i < b))) : x = 0 ∨ x = 1 := by
  rcases h with h | h
  · exact Or.inr h.1
  · exact Or.inl h.1
theorem clamp_lt {x : Int32} {n : Nat} (h0 : 0 ≤ x) (h : x < nI n) (hn : n < 2 ^ 31) : x.toNatClampNeg < n := Nat.not_le.mp fun q => (vp_in_lt h0 h hn) (Or.inr q)
theorem el_lines : ∀ i : Nat, i < 6 → ([some 2, some 11, some 20, some 29, some 38, some 47] : List (Option Nat)).getD i none = some (2 + 9 * i) := by decide
theorem el_queues : ∀ i : Nat, i < 30 → ((List.range 30).map fun i => some (61 + i)).getD i none = some (61 + i) := by decide +kernel
set_option maxHeartbeats 1000000 in
set_option maxRecDepth 20000 in
theorem c_isDigit (X : xD) (Ex : State → Prop) (fr : Bool) (sh : List xS) (μ : xM) (v : Int32) : Ct X Ex fr yX5_isDigit kX5_isDigit (rmN 0) [.int v] sh μ (fun r sh' μ' => sh = sh' ∧ μ = μ' ∧ ∃ x : Int32, r = some (.int x) ∧ (x = 0 ∨ x = 1)) := by
  refine Ct.of (L0 := [some (.int v)]) (by decide) rfl (fun h => by cases h) (by simp [Value.category]) (Nat.le_of_ble_eq_true rfl) rfl (fun l => ?_)
  refine sx_iload_n (pc := 0) dX5_isDigit_0 rfl rfl ?_
  refine sx_bipush (pc := 1) (v := 48) dX5_isDigit_1 (by decide) ?_
  refine sx_icmp_lt (pc := 3) (tgt := 16) dX5_isDigit_3 (by decide) (fun c_3 => ?_) (fun c_3 => ?_)
  · have h_3t := c_3
    refine sx_iconst (pc := 16) (v := 0) dX5_isDigit_16 (by decide) ?_
    exact sx_iret (pc := 17) dX5_isDigit_17 rfl rfl (Nat.zero_le _) (Nat.zero_le _) (⟨rfl, rfl, _, rfl, by decide⟩)
  · have h_3f := c_3
    refine sx_iload_n (pc := 6) dX5_isDigit_6 rfl rfl ?_
    refine sx_bipush (pc := 7) (v := 57) dX5_isDigit_7 (by decide) ?_
    refine sx_icmp_gt (pc := 9) (tgt := 16) dX5_isDigit_9 (by decide) (fun c_9 => ?_) (fun c_9 => ?_)
    · have h_9t := c_9
      refine sx_iconst (pc := 16) (v := 0) dX5_isDigit_16 (by decide) ?_
      exact sx_iret (pc := 17) dX5_isDigit_17 rfl rfl (Nat.zero_le _) (Nat.zero_le _) (⟨rfl, rfl, _, rfl, by decide⟩)
    · have h_9f := c_9
      refine sx_iconst (pc := 12) (v := 1) dX5_isDigit_12 (by decide) ?_
      refine sx_goto (pc := 13) (tgt := 17) dX5_isDigit_13 (by decide) ?_
      exact sx_iret (pc := 17) dX5_isDigit_17 rfl rfl (Nat.zero_le _) (Nat.zero_le _) (⟨rfl, rfl, _, rfl, by decide⟩)
set_option maxHeartbeats 1000000 in
set_option maxRecDepth 20000 in
theorem c_hexDigit (X : xD) (Ex : State → Prop) (fr : Bool) (sh : List xS) (μ : xM) (v : Int32) : Ct X Ex fr yX5_hexDigit kX5_hexDigit (rmN 0) [.int v] sh μ (fun r sh' μ' => sh = sh' ∧ μ = μ' ∧ ∃ x : Int32, r = some (.int x)) := by
  refine Ct.of (L0 := [some (.int v), none]) (by decide) rfl (fun h => by cases h) (by simp [Value.category]) (Nat.le_of_ble_eq_true rfl) rfl (fun l => ?_)
  refine sx_iload_n (pc := 0) dX5_hexDigit_0 rfl rfl ?_
  refine sx_bipush (pc := 1) (v := 15) dX5_hexDigit_1 (by decide) ?_
  refine sx_iand (pc := 3) dX5_hexDigit_3 ?_
  refine sx_istore_n (pc := 4) (L' := [some (.int v), some (.int (v &&& 15))]) dX5_hexDigit_4 rfl (by decide) rfl ?_
  refine sx_iload_n (pc := 5) dX5_hexDigit_5 rfl rfl ?_
  refine sx_bipush (pc := 6) (v := 10) dX5_hexDigit_6 (by decide) ?_
  refine sx_icmp_ge (pc := 8) (tgt := 18) dX5_hexDigit_8 (by decide) (fun c_8 => ?_) (fun c_8 => ?_)
  · have h_8t := c_8
    refine sx_bipush (pc := 18) (v := 65) dX5_hexDigit_18 (by decide) ?_
    refine sx_iload_n (pc := 20) dX5_hexDigit_20 rfl rfl ?_
    refine sx_iadd (pc := 21) dX5_hexDigit_21 ?_
    refine sx_bipush (pc := 22) (v := 10) dX5_hexDigit_22 (by decide) ?_
    refine sx_isub (pc := 24) dX5_hexDigit_24 ?_
    exact sx_iret (pc := 25) dX5_hexDigit_25 rfl rfl (Nat.zero_le _) (Nat.zero_le _) (⟨rfl, rfl, _, rfl⟩)
  · have h_8f := c_8
    refine sx_bipush (pc := 11) (v := 48) dX5_hexDigit_11 (by decide) ?_
    refine sx_iload_n (pc := 13) dX5_hexDigit_13 rfl rfl ?_
    refine sx_iadd (pc := 14) dX5_hexDigit_14 ?_
    refine sx_goto (pc := 15) (tgt := 25) dX5_hexDigit_15 (by decide) ?_
    exact sx_iret (pc := 25) dX5_hexDigit_25 rfl rfl (Nat.zero_le _) (Nat.zero_le _) (⟨rfl, rfl, _, rfl⟩)
set_option maxHeartbeats 1000000 in
set_option maxRecDepth 20000 in
theorem l_sumOf {X : xD} {Ex : State → Prop} {l : Launch} {Z : List Frame → Array Value → State → State → Prop} {n0 : Nat} {μ : xM} {k n : Nat} {cnt : Int32} (hs : shA[k]? = some (shI n)) (hn : n < 2 ^ 31)
    (hZ : ∀ (v i : Int32), sx l (rmN 0) X Ex false kX5_sumOf n0 Z 27 [some (.ref (X.2 + k)), some (.int cnt), some (.int v), some (.int i)] [] shA μ 0 0) :
    ∀ (m j : Nat) (v : Int32), n - j ≤ m → j ≤ n → sx l (rmN 0) X Ex false kX5_sumOf n0 Z 4 [some (.ref (X.2 + k)), some (.int cnt), some (.int v), some (.int (nI j))] [] shA μ 0 0 := by
  intro m
  induction m with
  | zero =>
    intro j v hm hj
    have hjn : j = n := by omega
    subst hjn
    refine sx_iload_n (pc := 4) dX5_sumOf_4 rfl rfl ?_
    refine sx_iload_n (pc := 5) dX5_sumOf_5 rfl rfl ?_
    refine sx_icmp_ge (pc := 6) (tgt := 27) dX5_sumOf_6 (by decide) (fun _ => hZ _ _) (fun _ => ?_)
    refine sx_iload_n (pc := 9) dX5_sumOf_9 rfl rfl ?_
    refine sx_aload_n (pc := 10) dX5_sumOf_10 rfl rfl ?_
    refine sx_alen (pc := 11) dX5_sumOf_11 hs rfl rfl ?_
    refine sx_icmp_ge (pc := 12) (tgt := 27) dX5_sumOf_12 (by decide) (fun _ => hZ _ _) (fun q => absurd (nI_le (Nat.le_refl _) hn) q)
  | succ m ih =>
    intro j v hm hj
    refine sx_iload_n (pc := 4) dX5_sumOf_4 rfl rfl ?_
    refine sx_iload_n (pc := 5) dX5_sumOf_5 rfl rfl ?_
    refine sx_icmp_ge (pc := 6) (tgt := 27) dX5_sumOf_6 (by decide) (fun _ => hZ _ _) (fun _ => ?_)
    refine sx_iload_n (pc := 9) dX5_sumOf_9 rfl rfl ?_
    refine sx_aload_n (pc := 10) dX5_sumOf_10 rfl rfl ?_
    refine sx_alen (pc := 11) dX5_sumOf_11 hs rfl rfl ?_
    refine sx_icmp_ge (pc := 12) (tgt := 27) dX5_sumOf_12 (by decide) (fun _ => hZ _ _) (fun q => ?_)
    have hlt : j < n := Nat.lt_of_not_le fun z => q (nI_le z (by omega))
    refine sx_iload_n (pc := 15) dX5_sumOf_15 rfl rfl ?_
    refine sx_aload_n (pc := 16) dX5_sumOf_16 rfl rfl ?_
    refine sx_iload_n (pc := 17) dX5_sumOf_17 rfl rfl ?_
    refine sx_iald (pc := 18) dX5_sumOf_18 hs (by decide) rfl (vp_in_nI hlt hn) ?_
    refine sx_iadd (pc := 19) dX5_sumOf_19 ?_
    refine sx_istore_n (pc := 20) dX5_sumOf_20 rfl (by decide) rfl ?_
    refine sx_iinc (pc := 21) (v := nI (j + 1)) dX5_sumOf_21 rfl (nI_1 j) (by decide) rfl ?_
    refine sx_goto (pc := 24) (tgt := 4) dX5_sumOf_24 (by decide) ?_
    exact ih (j + 1) _ (by omega) (by omega)
set_option maxHeartbeats 1000000 in
set_option maxRecDepth 20000 in
theorem c_sumOf (X : xD) (Ex : State → Prop) (hE : xEs X false shA.length Ex) (μ : xM) (k n : Nat) (cnt : Int32) (hs : shA[k]? = some (shI n)) (hn : n < 2 ^ 31) : Ct X Ex false yX5_sumOf kX5_sumOf (rmN 0) [.ref (X.2 + k), .int cnt] shA μ (fun r sh' μ' => shA = sh' ∧ μ = μ' ∧ ∃ x : Int32, r = some (.int x)) := by
  refine Ct.of (L0 := [some (.ref (X.2 + k)), some (.int cnt), none, none]) (by decide) rfl (fun h => by cases h) (by simp [Value.category]) (Nat.le_of_ble_eq_true rfl) rfl (fun l => ?_)
  refine sx_iconst (pc := 0) (v := 0) dX5_sumOf_0 (by decide) ?_
  refine sx_istore_n (pc := 1) (L' := [some (.ref (X.2 + k)), some (.int cnt), some (.int 0), none]) dX5_sumOf_1 rfl (by decide) rfl ?_
  refine sx_iconst (pc := 2) (v := 0) dX5_sumOf_2 (by decide) ?_
  refine sx_istore_n (pc := 3) (L' := [some (.ref (X.2 + k)), some (.int cnt), some (.int 0), some (.int 0)]) dX5_sumOf_3 rfl (by decide) rfl ?_
  exact l_sumOf hs hn (fun v i => sx_iload_n (pc := 27) dX5_sumOf_27 rfl rfl (sx_sipush (pc := 28) (v := 255) dX5_sumOf_28 (by decide) (sx_iand (pc := 31) dX5_sumOf_31 (sx_iret (pc := 32) dX5_sumOf_32 rfl rfl (Nat.zero_le _) (Nat.zero_le _) ⟨rfl, rfl, _, rfl⟩)))) n 0 0 (by omega) (Nat.zero_le _)
set_option maxHeartbeats 1000000 in
set_option maxRecDepth 20000 in
theorem c_add (X : xD) (Ex : State → Prop) (hE : xEs X false shA.length Ex) (μ : xM) (k : Nat) (hR : shA[k]? = some (shReply k) ∧ shA[k + 1]? = some (shI 13)) (hk : RK k) (x : Int32) : Ct X Ex false yX4_add kX4_add (rmN 0) [.ref (X.2 + k), .int x] shA μ (fun r sh' μ' => shA = sh' ∧ r = none ∧ Ch (SR k) μ μ') := by
  refine Ct.of (L0 := [some (.ref (X.2 + k)), some (.int x)]) (by decide) rfl (fun h => by cases h) (by simp [Value.category]) (Nat.le_of_ble_eq_true rfl) rfl (fun l => ?_)
  refine sx_aload_n (pc := 0) dX4_add_0 rfl rfl ?_
  refine sx_geti (pc := 1) (ci := 4) (j := 1) dX4_add_1 rfl hR.1 rfl (by decide) lf_X4_15 ?_
  refine sx_if_lt (pc := 4) (tgt := 36) dX4_add_4 (by decide) (fun c_4 => ?_) (fun c_4 => ?_)
  · have h_4t := c_4
    exact sx_vret (pc := 36) dX4_add_36 rfl (Nat.zero_le _) (Nat.zero_le _) (⟨rfl, rfl, (Ch.rf)⟩)
  · have h_4f := c_4
    refine sx_aload_n (pc := 7) dX4_add_7 rfl rfl ?_
    refine sx_geti (pc := 8) (ci := 4) (j := 1) dX4_add_8 rfl hR.1 rfl (by decide) lf_X4_15 ?_
    refine sx_bipush (pc := 11) (v := 13) dX4_add_11 (by decide) ?_
    refine sx_icmp_ge (pc := 13) (tgt := 36) dX4_add_13 (by decide) (fun c_13 => ?_) (fun c_13 => ?_)
    · have h_13t := c_13
      exact sx_vret (pc := 36) dX4_add_36 rfl (Nat.zero_le _) (Nat.zero_le _) (⟨rfl, rfl, (Ch.rf)⟩)
    · have h_13f := c_13
      refine sx_aload_n (pc := 16) dX4_add_16 rfl rfl ?_
      refine sx_getr (pc := 17) (ci := 4) (j := 0) (r := k + 1) dX4_add_17 rfl hR.1 rfl (by decide) lf_X4_11 ?_
      refine sx_aload_n (pc := 20) dX4_add_20 rfl rfl ?_
      refine sx_geti (pc := 21) (ci := 4) (j := 1) dX4_add_21 rfl hR.1 rfl (by decide) lf_X4_15 ?_
      refine sx_iload_n (pc := 24) dX4_add_24 rfl rfl ?_
      refine sx_iast (pc := 25) dX4_add_25 hR.2 (by decide) rfl (vp_in_lt (Int32.not_lt.mp h_4f) (Int32.not_le.mp h_13f) (by decide)) (fun μ1 hμ1 => ?_)
      refine sx_aload_n (pc := 26) dX4_add_26 rfl rfl ?_
      refine sx_dup (pc := 27) dX4_add_27 rfl ?_
      refine sx_geti (pc := 28) (ci := 4) (j := 1) dX4_add_28 rfl hR.1 rfl (by decide) lf_X4_15 ?_
      refine sx_iconst (pc := 31) (v := 1) dX4_add_31 (by decide) ?_
      refine sx_iadd (pc := 32) dX4_add_32 ?_
      refine sx_puti (pc := 33) (ci := 4) (j := 1) (ty := .int) dX4_add_33 rfl hR.1 rfl (by decide) lf_X4_15 rfl (by decide +kernel) rfl rfl (fun μ2 hμ2 => ?_)
      exact sx_vret (pc := 36) dX4_add_36 rfl (Nat.zero_le _) (Nat.zero_le _) (⟨rfl, rfl, (Ch.put (Ch.put (Ch.rf) hμ1 (by omega) (LB.off hμ1 hk.off)) hμ2 (by omega) (LB.len hμ2 hk (by rw [show μ1 k 1 = μ k 1 by rw [hμ1, xup_at, if_neg (by omega)]]; exact inc13 h_4f h_13f)))⟩)
set_option maxHeartbeats 1000000 in
set_option maxRecDepth 20000 in
theorem c_addSumAndEnd (X : xD) (Ex : State → Prop) (hE : xEs X false shA.length Ex) (μ : xM) (k : Nat) (hR : shA[k]? = some (shReply k) ∧ shA[k + 1]? = some (shI 13)) (hk : RK k) : Ct X Ex false yX4_addSumAndEnd kX4_addSumAndEnd (rmN 1) [.ref (X.2 + k)] shA μ (fun r sh' μ' => shA = sh' ∧ r = none ∧ Ch (SR k) μ μ') := by
  refine Ct.of (L0 := [some (.ref (X.2 + k)), none]) (by decide) rfl (fun h => by cases h) (by simp [Value.category]) (Nat.le_of_ble_eq_true rfl) rfl (fun l => ?_)
  refine sx_aload_n (pc := 0) dX4_addSumAndEnd_0 rfl rfl ?_
  refine sx_getr (pc := 1) (ci := 4) (j := 0) (r := k + 1) dX4_addSumAndEnd_1 rfl hR.1 rfl (by decide) lf_X4_11 ?_
  refine sx_aload_n (pc := 4) dX4_addSumAndEnd_4 rfl rfl ?_
  refine sx_geti (pc := 5) (ci := 4) (j := 1) dX4_addSumAndEnd_5 rfl hR.1 rfl (by decide) lf_X4_15 ?_
  refine sx_callSN (host := "ExchangeWire") (pc := 8) (As := [.ref (X.2 + (k + 1)), .int (μ k 1)]) dX4_addSumAndEnd_8 (c_sumOf X Ex hE μ (k + 1) 13 _ hR.2 (by decide)) mX5_sumOf (by decide +kernel) rfl ⟨Nat.le_of_ble_eq_true rfl, Nat.le_of_ble_eq_true rfl⟩ ⟨Nat.le_of_ble_eq_true rfl, Nat.le_of_ble_eq_true rfl⟩ (Nat.le_of_ble_eq_true rfl) hE (fun r_8 sh1 μ1 h_8 => ?_)
  obtain ⟨rfl, rfl, x_8, rfl⟩ := h_8
  refine sx_istore_n (pc := 11) (L' := [some (.ref (X.2 + k)), some (.int x_8)]) dX4_addSumAndEnd_11 rfl (by decide) rfl ?_
  refine sx_aload_n (pc := 12) dX4_addSumAndEnd_12 rfl rfl ?_
  refine sx_bipush (pc := 13) (v := 90) dX4_addSumAndEnd_13 (by decide) ?_
  refine sx_callV (pc := 15) (As := [.int 90]) dX4_addSumAndEnd_15 (c_add X Ex hE μ k hR hk _) mX4_add lm_X4_19 rfl hR.1 rfl ⟨Nat.le_of_ble_eq_true rfl, Nat.le_of_ble_eq_true rfl⟩ ⟨Nat.le_of_ble_eq_true rfl, Nat.le_of_ble_eq_true rfl⟩ (Nat.le_of_ble_eq_true rfl) hE (fun r_15 sh1 μ2 h_15 => ?_)
  obtain ⟨rfl, rfl, k_15⟩ := h_15
  refine sx_aload_n (pc := 18) dX4_addSumAndEnd_18 rfl rfl ?_
  refine sx_iload_n (pc := 19) dX4_addSumAndEnd_19 rfl rfl ?_
  refine sx_iconst (pc := 20) (v := 4) dX4_addSumAndEnd_20 (by decide) ?_
  refine sx_ishr (pc := 21) dX4_addSumAndEnd_21 ?_
  refine sx_callSN (host := "ExchangeWire") (pc := 22) (As := [.int (x_8 >>> (4 &&& 31))]) dX4_addSumAndEnd_22 (c_hexDigit X Ex false shA μ2 _) mX5_hexDigit (by decide +kernel) rfl ⟨Nat.le_of_ble_eq_true rfl, Nat.le_of_ble_eq_true rfl⟩ ⟨Nat.le_of_ble_eq_true rfl, Nat.le_of_ble_eq_true rfl⟩ (Nat.le_of_ble_eq_true rfl) hE (fun r_22 sh1 μ3 h_22 => ?_)
  obtain ⟨rfl, rfl, x_22, rfl⟩ := h_22
  refine sx_callV (pc := 25) (As := [.int x_22]) dX4_addSumAndEnd_25 (c_add X Ex hE μ2 k hR hk _) mX4_add lm_X4_19 rfl hR.1 rfl ⟨Nat.le_of_ble_eq_true rfl, Nat.le_of_ble_eq_true rfl⟩ ⟨Nat.le_of_ble_eq_true rfl, Nat.le_of_ble_eq_true rfl⟩ (Nat.le_of_ble_eq_true rfl) hE (fun r_25 sh1 μ4 h_25 => ?_)
  obtain ⟨rfl, rfl, k_25⟩ := h_25
  refine sx_aload_n (pc := 28) dX4_addSumAndEnd_28 rfl rfl ?_
  refine sx_iload_n (pc := 29) dX4_addSumAndEnd_29 rfl rfl ?_
  refine sx_callSN (host := "ExchangeWire") (pc := 30) (As := [.int x_8]) dX4_addSumAndEnd_30 (c_hexDigit X Ex false shA μ4 _) mX5_hexDigit (by decide +kernel) rfl ⟨Nat.le_of_ble_eq_true rfl, Nat.le_of_ble_eq_true rfl⟩ ⟨Nat.le_of_ble_eq_true rfl, Nat.le_of_ble_eq_true rfl⟩ (Nat.le_of_ble_eq_true rfl) hE (fun r_30 sh1 μ5 h_30 => ?_)
  obtain ⟨rfl, rfl, x_30, rfl⟩ := h_30
  refine sx_callV (pc := 33) (As := [.int x_30]) dX4_addSumAndEnd_33 (c_add X Ex hE μ4 k hR hk _) mX4_add lm_X4_19 rfl hR.1 rfl ⟨Nat.le_of_ble_eq_true rfl, Nat.le_of_ble_eq_true rfl⟩ ⟨Nat.le_of_ble_eq_true rfl, Nat.le_of_ble_eq_true rfl⟩ (Nat.le_of_ble_eq_true rfl) hE (fun r_33 sh1 μ6 h_33 => ?_)
  obtain ⟨rfl, rfl, k_33⟩ := h_33
  refine sx_aload_n (pc := 36) dX4_addSumAndEnd_36 rfl rfl ?_
  refine sx_bipush (pc := 37) (v := 13) dX4_addSumAndEnd_37 (by decide) ?_
  refine sx_callV (pc := 39) (As := [.int 13]) dX4_addSumAndEnd_39 (c_add X Ex hE μ6 k hR hk _) mX4_add lm_X4_19 rfl hR.1 rfl ⟨Nat.le_of_ble_eq_true rfl, Nat.le_of_ble_eq_true rfl⟩ ⟨Nat.le_of_ble_eq_true rfl, Nat.le_of_ble_eq_true rfl⟩ (Nat.le_of_ble_eq_true rfl) hE (fun r_39 sh1 μ7 h_39 => ?_)
  obtain ⟨rfl, rfl, k_39⟩ := h_39
  exact sx_vret (pc := 42) dX4_addSumAndEnd_42 rfl (Nat.zero_le _) (Nat.zero_le _) (⟨rfl, rfl, (Ch.trans (Ch.trans (Ch.trans (Ch.trans (Ch.rf) k_15) k_25) k_33) k_39)⟩)
set_option maxHeartbeats 1000000 in
set_option maxRecDepth 20000 in
theorem c_writeWrong (X : xD) (Ex : State → Prop) (hE : xEs X false shA.length Ex) (μ : xM) (k : Nat) (hR : shA[k]? = some (shReply k) ∧ shA[k + 1]? = some (shI 13)) (hk : RK k) : Ct X Ex false yX4_writeWrong kX4_writeWrong (rmN 2) [.ref (X.2 + k)] shA μ (fun r sh' μ' => shA = sh' ∧ r = none ∧ Ch (SR k) μ μ') := by
  refine Ct.of (L0 := [some (.ref (X.2 + k))]) (by decide) rfl (fun h => by cases h) (by simp [Value.category]) (Nat.le_of_ble_eq_true rfl) rfl (fun l => ?_)
  refine sx_aload_n (pc := 0) dX4_writeWrong_0 rfl rfl ?_
  refine sx_iconst (pc := 1) (v := 0) dX4_writeWrong_1 (by decide) ?_
  refine sx_puti (pc := 2) (ci := 4) (j := 1) (ty := .int) dX4_writeWrong_2 rfl hR.1 rfl (by decide) lf_X4_15 rfl (by decide +kernel) rfl rfl (fun μ1 hμ1 => ?_)
  refine sx_aload_n (pc := 5) dX4_writeWrong_5 rfl rfl ?_
  refine sx_bipush (pc := 6) (v := 78) dX4_writeWrong_6 (by decide) ?_
  refine sx_callV (pc := 8) (As := [.int 78]) dX4_writeWrong_8 (c_add X Ex hE μ1 k hR hk _) mX4_add lm_X4_19 rfl hR.1 rfl ⟨Nat.le_of_ble_eq_true rfl, Nat.le_of_ble_eq_true rfl⟩ ⟨Nat.le_of_ble_eq_true rfl, Nat.le_of_ble_eq_true rfl⟩ (Nat.le_of_ble_eq_true rfl) hE (fun r_8 sh1 μ2 h_8 => ?_)
  obtain ⟨rfl, rfl, k_8⟩ := h_8
  refine sx_aload_n (pc := 11) dX4_writeWrong_11 rfl rfl ?_
  refine sx_callV (pc := 12) (As := []) dX4_writeWrong_12 (c_addSumAndEnd X Ex hE μ2 k hR hk) mX4_addSumAndEnd lm_X4_23 rfl hR.1 rfl ⟨Nat.le_of_ble_eq_true rfl, Nat.le_of_ble_eq_true rfl⟩ ⟨Nat.le_of_ble_eq_true rfl, Nat.le_of_ble_eq_true rfl⟩ (Nat.le_of_ble_eq_true rfl) hE (fun r_12 sh1 μ3 h_12 => ?_)
  obtain ⟨rfl, rfl, k_12⟩ := h_12
  exact sx_vret (pc := 15) dX4_writeWrong_15 rfl (Nat.zero_le _) (Nat.zero_le _) (⟨rfl, rfl, (Ch.trans (Ch.trans (Ch.put (Ch.rf) hμ1 (by omega) (LB.len hμ1 hk (by decide))) k_8) k_12)⟩)
set_option maxHeartbeats 1000000 in
set_option maxRecDepth 20000 in
theorem c_addSource (X : xD) (Ex : State → Prop) (hE : xEs X false shA.length Ex) (μ : xM) (k : Nat) (hR : shA[k]? = some (shReply k) ∧ shA[k + 1]? = some (shI 13)) (hk : RK k) : Ct X Ex false yX4_addSource kX4_addSource (rmN 2) [.ref (X.2 + k), .ref (X.2 + 94)] shA μ (fun r sh' μ' => shA = sh' ∧ r = none ∧ Ch (SR k) μ μ') := by
  refine Ct.of (L0 := [some (.ref (X.2 + k)), some (.ref (X.2 + 94))]) (by decide) rfl (fun h => by cases h) (by simp [Value.category]) (Nat.le_of_ble_eq_true rfl) rfl (fun l => ?_)
  refine sx_aload_n (pc := 0) dX4_addSource_0 rfl rfl ?_
  refine sx_aload_n (pc := 1) dX4_addSource_1 rfl rfl ?_
  refine sx_geti (pc := 2) (ci := 3) (j := 0) dX4_addSource_2 rfl s_Me rfl (by decide) lf_X4_39 ?_
  refine sx_callV (pc := 5) (As := [.int (μ 94 0)]) dX4_addSource_5 (c_add X Ex hE μ k hR hk _) mX4_add lm_X4_19 rfl hR.1 rfl ⟨Nat.le_of_ble_eq_true rfl, Nat.le_of_ble_eq_true rfl⟩ ⟨Nat.le_of_ble_eq_true rfl, Nat.le_of_ble_eq_true rfl⟩ (Nat.le_of_ble_eq_true rfl) hE (fun r_5 sh1 μ1 h_5 => ?_)
  obtain ⟨rfl, rfl, k_5⟩ := h_5
  refine sx_aload_n (pc := 8) dX4_addSource_8 rfl rfl ?_
  refine sx_bipush (pc := 9) (v := 48) dX4_addSource_9 (by decide) ?_
  refine sx_aload_n (pc := 11) dX4_addSource_11 rfl rfl ?_
  refine sx_geti (pc := 12) (ci := 3) (j := 1) dX4_addSource_12 rfl s_Me rfl (by decide) lf_X4_44 ?_
  refine sx_iadd (pc := 15) dX4_addSource_15 ?_
  refine sx_callV (pc := 16) (As := [.int (48 + (μ1 94 1))]) dX4_addSource_16 (c_add X Ex hE μ1 k hR hk _) mX4_add lm_X4_19 rfl hR.1 rfl ⟨Nat.le_of_ble_eq_true rfl, Nat.le_of_ble_eq_true rfl⟩ ⟨Nat.le_of_ble_eq_true rfl, Nat.le_of_ble_eq_true rfl⟩ (Nat.le_of_ble_eq_true rfl) hE (fun r_16 sh1 μ2 h_16 => ?_)
  obtain ⟨rfl, rfl, k_16⟩ := h_16
  refine sx_aload_n (pc := 19) dX4_addSource_19 rfl rfl ?_
  refine sx_callV (pc := 20) (As := []) dX4_addSource_20 (c_addSumAndEnd X Ex hE μ2 k hR hk) mX4_addSumAndEnd lm_X4_23 rfl hR.1 rfl ⟨Nat.le_of_ble_eq_true rfl, Nat.le_of_ble_eq_true rfl⟩ ⟨Nat.le_of_ble_eq_true rfl, Nat.le_of_ble_eq_true rfl⟩ (Nat.le_of_ble_eq_true rfl) hE (fun r_20 sh1 μ3 h_20 => ?_)
  obtain ⟨rfl, rfl, k_20⟩ := h_20
  exact sx_vret (pc := 23) dX4_addSource_23 rfl (Nat.zero_le _) (Nat.zero_le _) (⟨rfl, rfl, (Ch.trans (Ch.trans (Ch.trans (Ch.rf) k_5) k_16) k_20)⟩)
set_option maxHeartbeats 1000000 in
set_option maxRecDepth 20000 in
theorem c_writeNo (X : xD) (Ex : State → Prop) (hE : xEs X false shA.length Ex) (μ : xM) (k : Nat) (hR : shA[k]? = some (shReply k) ∧ shA[k + 1]? = some (shI 13)) (hk : RK k) : Ct X Ex false yX4_writeNo kX4_writeNo (rmN 3) [.ref (X.2 + k), .ref (X.2 + 94)] shA μ (fun r sh' μ' => shA = sh' ∧ r = none ∧ Ch (SR k) μ μ') := by
  refine Ct.of (L0 := [some (.ref (X.2 + k)), some (.ref (X.2 + 94))]) (by decide) rfl (fun h => by cases h) (by simp [Value.category]) (Nat.le_of_ble_eq_true rfl) rfl (fun l => ?_)
  refine sx_aload_n (pc := 0) dX4_writeNo_0 rfl rfl ?_
  refine sx_iconst (pc := 1) (v := 0) dX4_writeNo_1 (by decide) ?_
  refine sx_puti (pc := 2) (ci := 4) (j := 1) (ty := .int) dX4_writeNo_2 rfl hR.1 rfl (by decide) lf_X4_15 rfl (by decide +kernel) rfl rfl (fun μ1 hμ1 => ?_)
  refine sx_aload_n (pc := 5) dX4_writeNo_5 rfl rfl ?_
  refine sx_bipush (pc := 6) (v := 88) dX4_writeNo_6 (by decide) ?_
  refine sx_callV (pc := 8) (As := [.int 88]) dX4_writeNo_8 (c_add X Ex hE μ1 k hR hk _) mX4_add lm_X4_19 rfl hR.1 rfl ⟨Nat.le_of_ble_eq_true rfl, Nat.le_of_ble_eq_true rfl⟩ ⟨Nat.le_of_ble_eq_true rfl, Nat.le_of_ble_eq_true rfl⟩ (Nat.le_of_ble_eq_true rfl) hE (fun r_8 sh1 μ2 h_8 => ?_)
  obtain ⟨rfl, rfl, k_8⟩ := h_8
  refine sx_aload_n (pc := 11) dX4_writeNo_11 rfl rfl ?_
  refine sx_aload_n (pc := 12) dX4_writeNo_12 rfl rfl ?_
  refine sx_callV (pc := 13) (As := [.ref (X.2 + 94)]) dX4_writeNo_13 (c_addSource X Ex hE μ2 k hR hk) mX4_addSource lm_X4_26 rfl hR.1 rfl ⟨Nat.le_of_ble_eq_true rfl, Nat.le_of_ble_eq_true rfl⟩ ⟨Nat.le_of_ble_eq_true rfl, Nat.le_of_ble_eq_true rfl⟩ (Nat.le_of_ble_eq_true rfl) hE (fun r_13 sh1 μ3 h_13 => ?_)
  obtain ⟨rfl, rfl, k_13⟩ := h_13
  exact sx_vret (pc := 16) dX4_writeNo_16 rfl (Nat.zero_le _) (Nat.zero_le _) (⟨rfl, rfl, (Ch.trans (Ch.trans (Ch.put (Ch.rf) hμ1 (by omega) (LB.len hμ1 hk (by decide))) k_8) k_13)⟩)
set_option maxHeartbeats 1000000 in
set_option maxRecDepth 20000 in
theorem c_writeError (X : xD) (Ex : State → Prop) (hE : xEs X false shA.length Ex) (μ : xM) (k : Nat) (hR : shA[k]? = some (shReply k) ∧ shA[k + 1]? = some (shI 13)) (hk : RK k) (lt : Int32) : Ct X Ex false yX4_writeError kX4_writeError (rmN 3) [.ref (X.2 + k), .ref (X.2 + 94), .int lt] shA μ (fun r sh' μ' => shA = sh' ∧ r = none ∧ Ch (SR k) μ μ') := by
  refine Ct.of (L0 := [some (.ref (X.2 + k)), some (.ref (X.2 + 94)), some (.int lt)]) (by decide) rfl (fun h => by cases h) (by simp [Value.category]) (Nat.le_of_ble_eq_true rfl) rfl (fun l => ?_)
  refine sx_aload_n (pc := 0) dX4_writeError_0 rfl rfl ?_
  refine sx_iconst (pc := 1) (v := 0) dX4_writeError_1 (by decide) ?_
  refine sx_puti (pc := 2) (ci := 4) (j := 1) (ty := .int) dX4_writeError_2 rfl hR.1 rfl (by decide) lf_X4_15 rfl (by decide +kernel) rfl rfl (fun μ1 hμ1 => ?_)
  refine sx_aload_n (pc := 5) dX4_writeError_5 rfl rfl ?_
  refine sx_bipush (pc := 6) (v := 69) dX4_writeError_6 (by decide) ?_
  refine sx_callV (pc := 8) (As := [.int 69]) dX4_writeError_8 (c_add X Ex hE μ1 k hR hk _) mX4_add lm_X4_19 rfl hR.1 rfl ⟨Nat.le_of_ble_eq_true rfl, Nat.le_of_ble_eq_true rfl⟩ ⟨Nat.le_of_ble_eq_true rfl, Nat.le_of_ble_eq_true rfl⟩ (Nat.le_of_ble_eq_true rfl) hE (fun r_8 sh1 μ2 h_8 => ?_)
  obtain ⟨rfl, rfl, k_8⟩ := h_8
  refine sx_aload_n (pc := 11) dX4_writeError_11 rfl rfl ?_
  refine sx_iload_n (pc := 12) dX4_writeError_12 rfl rfl ?_
  refine sx_callV (pc := 13) (As := [.int lt]) dX4_writeError_13 (c_add X Ex hE μ2 k hR hk _) mX4_add lm_X4_19 rfl hR.1 rfl ⟨Nat.le_of_ble_eq_true rfl, Nat.le_of_ble_eq_true rfl⟩ ⟨Nat.le_of_ble_eq_true rfl, Nat.le_of_ble_eq_true rfl⟩ (Nat.le_of_ble_eq_true rfl) hE (fun r_13 sh1 μ3 h_13 => ?_)
  obtain ⟨rfl, rfl, k_13⟩ := h_13
  refine sx_aload_n (pc := 16) dX4_writeError_16 rfl rfl ?_
  refine sx_aload_n (pc := 17) dX4_writeError_17 rfl rfl ?_
  refine sx_callV (pc := 18) (As := [.ref (X.2 + 94)]) dX4_writeError_18 (c_addSource X Ex hE μ3 k hR hk) mX4_addSource lm_X4_26 rfl hR.1 rfl ⟨Nat.le_of_ble_eq_true rfl, Nat.le_of_ble_eq_true rfl⟩ ⟨Nat.le_of_ble_eq_true rfl, Nat.le_of_ble_eq_true rfl⟩ (Nat.le_of_ble_eq_true rfl) hE (fun r_18 sh1 μ4 h_18 => ?_)
  obtain ⟨rfl, rfl, k_18⟩ := h_18
  exact sx_vret (pc := 21) dX4_writeError_21 rfl (Nat.zero_le _) (Nat.zero_le _) (⟨rfl, rfl, (Ch.trans (Ch.trans (Ch.trans (Ch.put (Ch.rf) hμ1 (by omega) (LB.len hμ1 hk (by decide))) k_8) k_13) k_18)⟩)
set_option maxHeartbeats 1000000 in
set_option maxRecDepth 20000 in
theorem l_dig0 {X : xD} {Ex : State → Prop} {l : Launch} {k : Nat} {μ0 μ : xM} {v : Int32} (hC : Ch (SR k) μ0 μ) : sx l (rmN 1) X Ex false kX4_addDigits shA.length (xZ X false shA.length (fun r sh' μ' => shA = sh' ∧ r = none ∧ Ch (SR k) μ0 μ') 0 0) 3 [some (.ref (X.2 + k)), some (.int v), some (.int 0)] [] shA μ 0 0 := by
  refine sx_iload_n (pc := 3) dX4_addDigits_3 rfl rfl ?_
  refine sx_if_le (pc := 4) (tgt := 38) dX4_addDigits_4 (by decide) (fun c_4 => ?_) (fun c_4 => absurd c_4 (by decide))
  exact sx_vret (pc := 38) dX4_addDigits_38 rfl (Nat.zero_le _) (Nat.zero_le _) (⟨rfl, rfl, hC⟩)
set_option maxHeartbeats 1000000 in
set_option maxRecDepth 20000 in
theorem l_dig1 {X : xD} {Ex : State → Prop} (hE : xEs X false shA.length Ex) {l : Launch} {k : Nat} (hR : shA[k]? = some (shReply k) ∧ shA[k + 1]? = some (shI 13)) (hk : RK k) {μ0 μ : xM} {v : Int32} (hC : Ch (SR k) μ0 μ) : sx l (rmN 1) X Ex false kX4_addDigits shA.length (xZ X false shA.length (fun r sh' μ' => shA = sh' ∧ r = none ∧ Ch (SR k) μ0 μ') 0 0) 3 [some (.ref (X.2 + k)), some (.int v), some (.int 1)] [] shA μ 0 0 := by
  refine sx_iload_n (pc := 3) dX4_addDigits_3 rfl rfl ?_
  refine sx_if_le (pc := 4) (tgt := 38) dX4_addDigits_4 (by decide) (fun c_4 => absurd c_4 (by decide)) (fun c_4 => ?_)
  refine sx_iload_n (pc := 7) dX4_addDigits_7 rfl rfl ?_
  refine sx_iload_n (pc := 8) dX4_addDigits_8 rfl rfl ?_
  refine sx_icmp_ge (pc := 9) (tgt := 17) dX4_addDigits_9 (by decide) (fun c_9 => ?_) (fun c_9 => ?_)
  · have h_9t := c_9
    refine sx_aload_n (pc := 17) dX4_addDigits_17 rfl rfl ?_
    refine sx_bipush (pc := 18) (v := 48) dX4_addDigits_18 (by decide) ?_
    refine sx_iload_n (pc := 20) dX4_addDigits_20 rfl rfl ?_
    refine sx_iload_n (pc := 21) dX4_addDigits_21 rfl rfl ?_
    refine sx_idiv (pc := 22) dX4_addDigits_22 (by decide) ?_
    refine sx_bipush (pc := 23) (v := 10) dX4_addDigits_23 (by decide) ?_
    refine sx_irem (pc := 25) dX4_addDigits_25 (by decide) ?_
    refine sx_iadd (pc := 26) dX4_addDigits_26 ?_
    refine sx_callV (pc := 27) (As := [.int (48 + ((v / 1) - (v / 1) / 10 * 10))]) dX4_addDigits_27 (c_add X Ex hE μ k hR hk _) mX4_add lm_X4_19 rfl hR.1 rfl ⟨Nat.le_of_ble_eq_true rfl, Nat.le_of_ble_eq_true rfl⟩ ⟨Nat.le_of_ble_eq_true rfl, Nat.le_of_ble_eq_true rfl⟩ (Nat.le_of_ble_eq_true rfl) hE (fun r_27 sh1 μ1 h_27 => ?_)
    obtain ⟨rfl, rfl, k_27⟩ := h_27
    refine sx_iload_n (pc := 30) dX4_addDigits_30 rfl rfl ?_
    refine sx_bipush (pc := 31) (v := 10) dX4_addDigits_31 (by decide) ?_
    refine sx_idiv (pc := 33) dX4_addDigits_33 (by decide) ?_
    refine sx_istore_n (pc := 34) (L' := [some (.ref (X.2 + k)), some (.int v), some (.int 0)]) dX4_addDigits_34 rfl (by decide) rfl ?_
    refine sx_goto (pc := 35) (tgt := 3) dX4_addDigits_35 (by decide) ?_
    exact l_dig0 (Ch.trans hC k_27)
  · have h_9f := c_9
    refine sx_iload_n (pc := 12) dX4_addDigits_12 rfl rfl ?_
    refine sx_iconst (pc := 13) (v := 1) dX4_addDigits_13 (by decide) ?_
    refine sx_icmp_ne (pc := 14) (tgt := 30) dX4_addDigits_14 (by decide) (fun c_14 => absurd c_14 (by decide)) (fun c_14 => ?_)
    refine sx_aload_n (pc := 17) dX4_addDigits_17 rfl rfl ?_
    refine sx_bipush (pc := 18) (v := 48) dX4_addDigits_18 (by decide) ?_
    refine sx_iload_n (pc := 20) dX4_addDigits_20 rfl rfl ?_
    refine sx_iload_n (pc := 21) dX4_addDigits_21 rfl rfl ?_
    refine sx_idiv (pc := 22) dX4_addDigits_22 (by decide) ?_
    refine sx_bipush (pc := 23) (v := 10) dX4_addDigits_23 (by decide) ?_
    refine sx_irem (pc := 25) dX4_addDigits_25 (by decide) ?_
    refine sx_iadd (pc := 26) dX4_addDigits_26 ?_
    refine sx_callV (pc := 27) (As := [.int (48 + ((v / 1) - (v / 1) / 10 * 10))]) dX4_addDigits_27 (c_add X Ex hE μ k hR hk _) mX4_add lm_X4_19 rfl hR.1 rfl ⟨Nat.le_of_ble_eq_true rfl, Nat.le_of_ble_eq_true rfl⟩ ⟨Nat.le_of_ble_eq_true rfl, Nat.le_of_ble_eq_true rfl⟩ (Nat.le_of_ble_eq_true rfl) hE (fun r_27 sh1 μ2 h_27 => ?_)
    obtain ⟨rfl, rfl, k_27⟩ := h_27
    refine sx_iload_n (pc := 30) dX4_addDigits_30 rfl rfl ?_
    refine sx_bipush (pc := 31) (v := 10) dX4_addDigits_31 (by decide) ?_
    refine sx_idiv (pc := 33) dX4_addDigits_33 (by decide) ?_
    refine sx_istore_n (pc := 34) (L' := [some (.ref (X.2 + k)), some (.int v), some (.int 0)]) dX4_addDigits_34 rfl (by decide) rfl ?_
    refine sx_goto (pc := 35) (tgt := 3) dX4_addDigits_35 (by decide) ?_
    exact l_dig0 (Ch.trans hC k_27)
set_option maxHeartbeats 1000000 in
set_option maxRecDepth 20000 in
theorem l_dig2 {X : xD} {Ex : State → Prop} (hE : xEs X false shA.length Ex) {l : Launch} {k : Nat} (hR : shA[k]? = some (shReply k) ∧ shA[k + 1]? = some (shI 13)) (hk : RK k) {μ0 μ : xM} {v : Int32} (hC : Ch (SR k) μ0 μ) : sx l (rmN 1) X Ex false kX4_addDigits shA.length (xZ X false shA.length (fun r sh' μ' => shA = sh' ∧ r = none ∧ Ch (SR k) μ0 μ') 0 0) 3 [some (.ref (X.2 + k)), some (.int v), some (.int 10)] [] shA μ 0 0 := by
  refine sx_iload_n (pc := 3) dX4_addDigits_3 rfl rfl ?_
  refine sx_if_le (pc := 4) (tgt := 38) dX4_addDigits_4 (by decide) (fun c_4 => absurd c_4 (by decide)) (fun c_4 => ?_)
  refine sx_iload_n (pc := 7) dX4_addDigits_7 rfl rfl ?_
  refine sx_iload_n (pc := 8) dX4_addDigits_8 rfl rfl ?_
  refine sx_icmp_ge (pc := 9) (tgt := 17) dX4_addDigits_9 (by decide) (fun c_9 => ?_) (fun c_9 => ?_)
  · have h_9t := c_9
    refine sx_aload_n (pc := 17) dX4_addDigits_17 rfl rfl ?_
    refine sx_bipush (pc := 18) (v := 48) dX4_addDigits_18 (by decide) ?_
    refine sx_iload_n (pc := 20) dX4_addDigits_20 rfl rfl ?_
    refine sx_iload_n (pc := 21) dX4_addDigits_21 rfl rfl ?_
    refine sx_idiv (pc := 22) dX4_addDigits_22 (by decide) ?_
    refine sx_bipush (pc := 23) (v := 10) dX4_addDigits_23 (by decide) ?_
    refine sx_irem (pc := 25) dX4_addDigits_25 (by decide) ?_
    refine sx_iadd (pc := 26) dX4_addDigits_26 ?_
    refine sx_callV (pc := 27) (As := [.int (48 + ((v / 10) - (v / 10) / 10 * 10))]) dX4_addDigits_27 (c_add X Ex hE μ k hR hk _) mX4_add lm_X4_19 rfl hR.1 rfl ⟨Nat.le_of_ble_eq_true rfl, Nat.le_of_ble_eq_true rfl⟩ ⟨Nat.le_of_ble_eq_true rfl, Nat.le_of_ble_eq_true rfl⟩ (Nat.le_of_ble_eq_true rfl) hE (fun r_27 sh1 μ1 h_27 => ?_)
    obtain ⟨rfl, rfl, k_27⟩ := h_27
    refine sx_iload_n (pc := 30) dX4_addDigits_30 rfl rfl ?_
    refine sx_bipush (pc := 31) (v := 10) dX4_addDigits_31 (by decide) ?_
    refine sx_idiv (pc := 33) dX4_addDigits_33 (by decide) ?_
    refine sx_istore_n (pc := 34) (L' := [some (.ref (X.2 + k)), some (.int v), some (.int 1)]) dX4_addDigits_34 rfl (by decide) rfl ?_
    refine sx_goto (pc := 35) (tgt := 3) dX4_addDigits_35 (by decide) ?_
    exact l_dig1 hE hR hk (Ch.trans hC k_27)
  · have h_9f := c_9
    refine sx_iload_n (pc := 12) dX4_addDigits_12 rfl rfl ?_
    refine sx_iconst (pc := 13) (v := 1) dX4_addDigits_13 (by decide) ?_
    refine sx_icmp_ne (pc := 14) (tgt := 30) dX4_addDigits_14 (by decide) (fun c_14 => ?_) (fun c_14 => absurd c_14 (by decide))
    refine sx_iload_n (pc := 30) dX4_addDigits_30 rfl rfl ?_
    refine sx_bipush (pc := 31) (v := 10) dX4_addDigits_31 (by decide) ?_
    refine sx_idiv (pc := 33) dX4_addDigits_33 (by decide) ?_
    refine sx_istore_n (pc := 34) (L' := [some (.ref (X.2 + k)), some (.int v), some (.int 1)]) dX4_addDigits_34 rfl (by decide) rfl ?_
    refine sx_goto (pc := 35) (tgt := 3) dX4_addDigits_35 (by decide) ?_
    exact l_dig1 hE hR hk hC
set_option maxHeartbeats 1000000 in
set_option maxRecDepth 20000 in
theorem l_dig3 {X : xD} {Ex : State → Prop} (hE : xEs X false shA.length Ex) {l : Launch} {k : Nat} (hR : shA[k]? = some (shReply k) ∧ shA[k + 1]? = some (shI 13)) (hk : RK k) {μ0 μ : xM} {v : Int32} (hC : Ch (SR k) μ0 μ) : sx l (rmN 1) X Ex false kX4_addDigits shA.length (xZ X false shA.length (fun r sh' μ' => shA = sh' ∧ r = none ∧ Ch (SR k) μ0 μ') 0 0) 3 [some (.ref (X.2 + k)), some (.int v), some (.int 100)] [] shA μ 0 0 := by
  refine sx_iload_n (pc := 3) dX4_addDigits_3 rfl rfl ?_
  refine sx_if_le (pc := 4) (tgt := 38) dX4_addDigits_4 (by decide) (fun c_4 => absurd c_4 (by decide)) (fun c_4 => ?_)
  refine sx_iload_n (pc := 7) dX4_addDigits_7 rfl rfl ?_
  refine sx_iload_n (pc := 8) dX4_addDigits_8 rfl rfl ?_
  refine sx_icmp_ge (pc := 9) (tgt := 17) dX4_addDigits_9 (by decide) (fun c_9 => ?_) (fun c_9 => ?_)
  · have h_9t := c_9
    refine sx_aload_n (pc := 17) dX4_addDigits_17 rfl rfl ?_
    refine sx_bipush (pc := 18) (v := 48) dX4_addDigits_18 (by decide) ?_
    refine sx_iload_n (pc := 20) dX4_addDigits_20 rfl rfl ?_
    refine sx_iload_n (pc := 21) dX4_addDigits_21 rfl rfl ?_
    refine sx_idiv (pc := 22) dX4_addDigits_22 (by decide) ?_
    refine sx_bipush (pc := 23) (v := 10) dX4_addDigits_23 (by decide) ?_
    refine sx_irem (pc := 25) dX4_addDigits_25 (by decide) ?_
    refine sx_iadd (pc := 26) dX4_addDigits_26 ?_
    refine sx_callV (pc := 27) (As := [.int (48 + ((v / 100) - (v / 100) / 10 * 10))]) dX4_addDigits_27 (c_add X Ex hE μ k hR hk _) mX4_add lm_X4_19 rfl hR.1 rfl ⟨Nat.le_of_ble_eq_true rfl, Nat.le_of_ble_eq_true rfl⟩ ⟨Nat.le_of_ble_eq_true rfl, Nat.le_of_ble_eq_true rfl⟩ (Nat.le_of_ble_eq_true rfl) hE (fun r_27 sh1 μ1 h_27 => ?_)
    obtain ⟨rfl, rfl, k_27⟩ := h_27
    refine sx_iload_n (pc := 30) dX4_addDigits_30 rfl rfl ?_
    refine sx_bipush (pc := 31) (v := 10) dX4_addDigits_31 (by decide) ?_
    refine sx_idiv (pc := 33) dX4_addDigits_33 (by decide) ?_
    refine sx_istore_n (pc := 34) (L' := [some (.ref (X.2 + k)), some (.int v), some (.int 10)]) dX4_addDigits_34 rfl (by decide) rfl ?_
    refine sx_goto (pc := 35) (tgt := 3) dX4_addDigits_35 (by decide) ?_
    exact l_dig2 hE hR hk (Ch.trans hC k_27)
  · have h_9f := c_9
    refine sx_iload_n (pc := 12) dX4_addDigits_12 rfl rfl ?_
    refine sx_iconst (pc := 13) (v := 1) dX4_addDigits_13 (by decide) ?_
    refine sx_icmp_ne (pc := 14) (tgt := 30) dX4_addDigits_14 (by decide) (fun c_14 => ?_) (fun c_14 => absurd c_14 (by decide))
    refine sx_iload_n (pc := 30) dX4_addDigits_30 rfl rfl ?_
    refine sx_bipush (pc := 31) (v := 10) dX4_addDigits_31 (by decide) ?_
    refine sx_idiv (pc := 33) dX4_addDigits_33 (by decide) ?_
    refine sx_istore_n (pc := 34) (L' := [some (.ref (X.2 + k)), some (.int v), some (.int 10)]) dX4_addDigits_34 rfl (by decide) rfl ?_
    refine sx_goto (pc := 35) (tgt := 3) dX4_addDigits_35 (by decide) ?_
    exact l_dig2 hE hR hk hC
set_option maxHeartbeats 1000000 in
set_option maxRecDepth 20000 in
theorem l_dig4 {X : xD} {Ex : State → Prop} (hE : xEs X false shA.length Ex) {l : Launch} {k : Nat} (hR : shA[k]? = some (shReply k) ∧ shA[k + 1]? = some (shI 13)) (hk : RK k) {μ0 μ : xM} {v : Int32} (hC : Ch (SR k) μ0 μ) : sx l (rmN 1) X Ex false kX4_addDigits shA.length (xZ X false shA.length (fun r sh' μ' => shA = sh' ∧ r = none ∧ Ch (SR k) μ0 μ') 0 0) 3 [some (.ref (X.2 + k)), some (.int v), some (.int 1000)] [] shA μ 0 0 := by
  refine sx_iload_n (pc := 3) dX4_addDigits_3 rfl rfl ?_
  refine sx_if_le (pc := 4) (tgt := 38) dX4_addDigits_4 (by decide) (fun c_4 => absurd c_4 (by decide)) (fun c_4 => ?_)
  refine sx_iload_n (pc := 7) dX4_addDigits_7 rfl rfl ?_
  refine sx_iload_n (pc := 8) dX4_addDigits_8 rfl rfl ?_
  refine sx_icmp_ge (pc := 9) (tgt := 17) dX4_addDigits_9 (by decide) (fun c_9 => ?_) (fun c_9 => ?_)
  · have h_9t := c_9
    refine sx_aload_n (pc := 17) dX4_addDigits_17 rfl rfl ?_
    refine sx_bipush (pc := 18) (v := 48) dX4_addDigits_18 (by decide) ?_
    refine sx_iload_n (pc := 20) dX4_addDigits_20 rfl rfl ?_
    refine sx_iload_n (pc := 21) dX4_addDigits_21 rfl rfl ?_
    refine sx_idiv (pc := 22) dX4_addDigits_22 (by decide) ?_
    refine sx_bipush (pc := 23) (v := 10) dX4_addDigits_23 (by decide) ?_
    refine sx_irem (pc := 25) dX4_addDigits_25 (by decide) ?_
    refine sx_iadd (pc := 26) dX4_addDigits_26 ?_
    refine sx_callV (pc := 27) (As := [.int (48 + ((v / 1000) - (v / 1000) / 10 * 10))]) dX4_addDigits_27 (c_add X Ex hE μ k hR hk _) mX4_add lm_X4_19 rfl hR.1 rfl ⟨Nat.le_of_ble_eq_true rfl, Nat.le_of_ble_eq_true rfl⟩ ⟨Nat.le_of_ble_eq_true rfl, Nat.le_of_ble_eq_true rfl⟩ (Nat.le_of_ble_eq_true rfl) hE (fun r_27 sh1 μ1 h_27 => ?_)
    obtain ⟨rfl, rfl, k_27⟩ := h_27
    refine sx_iload_n (pc := 30) dX4_addDigits_30 rfl rfl ?_
    refine sx_bipush (pc := 31) (v := 10) dX4_addDigits_31 (by decide) ?_
    refine sx_idiv (pc := 33) dX4_addDigits_33 (by decide) ?_
    refine sx_istore_n (pc := 34) (L' := [some (.ref (X.2 + k)), some (.int v), some (.int 100)]) dX4_addDigits_34 rfl (by decide) rfl ?_
    refine sx_goto (pc := 35) (tgt := 3) dX4_addDigits_35 (by decide) ?_
    exact l_dig3 hE hR hk (Ch.trans hC k_27)
  · have h_9f := c_9
    refine sx_iload_n (pc := 12) dX4_addDigits_12 rfl rfl ?_
    refine sx_iconst (pc := 13) (v := 1) dX4_addDigits_13 (by decide) ?_
    refine sx_icmp_ne (pc := 14) (tgt := 30) dX4_addDigits_14 (by decide) (fun c_14 => ?_) (fun c_14 => absurd c_14 (by decide))
    refine sx_iload_n (pc := 30) dX4_addDigits_30 rfl rfl ?_
    refine sx_bipush (pc := 31) (v := 10) dX4_addDigits_31 (by decide) ?_
    refine sx_idiv (pc := 33) dX4_addDigits_33 (by decide) ?_
    refine sx_istore_n (pc := 34) (L' := [some (.ref (X.2 + k)), some (.int v), some (.int 100)]) dX4_addDigits_34 rfl (by decide) rfl ?_
    refine sx_goto (pc := 35) (tgt := 3) dX4_addDigits_35 (by decide) ?_
    exact l_dig3 hE hR hk hC
set_option maxHeartbeats 1000000 in
set_option maxRecDepth 20000 in
theorem l_dig5 {X : xD} {Ex : State → Prop} (hE : xEs X false shA.length Ex) {l : Launch} {k : Nat} (hR : shA[k]? = some (shReply k) ∧ shA[k + 1]? = some (shI 13)) (hk : RK k) {μ0 μ : xM} {v : Int32} (hC : Ch (SR k) μ0 μ) : sx l (rmN 1) X Ex false kX4_addDigits shA.length (xZ X false shA.length (fun r sh' μ' => shA = sh' ∧ r = none ∧ Ch (SR k) μ0 μ') 0 0) 3 [some (.ref (X.2 + k)), some (.int v), some (.int 10000)] [] shA μ 0 0 := by
  refine sx_iload_n (pc := 3) dX4_addDigits_3 rfl rfl ?_
  refine sx_if_le (pc := 4) (tgt := 38) dX4_addDigits_4 (by decide) (fun c_4 => absurd c_4 (by decide)) (fun c_4 => ?_)
  refine sx_iload_n (pc := 7) dX4_addDigits_7 rfl rfl ?_
  refine sx_iload_n (pc := 8) dX4_addDigits_8 rfl rfl ?_
  refine sx_icmp_ge (pc := 9) (tgt := 17) dX4_addDigits_9 (by decide) (fun c_9 => ?_) (fun c_9 => ?_)
  · have h_9t := c_9
    refine sx_aload_n (pc := 17) dX4_addDigits_17 rfl rfl ?_
    refine sx_bipush (pc := 18) (v := 48) dX4_addDigits_18 (by decide) ?_
    refine sx_iload_n (pc := 20) dX4_addDigits_20 rfl rfl ?_
    refine sx_iload_n (pc := 21) dX4_addDigits_21 rfl rfl ?_
    refine sx_idiv (pc := 22) dX4_addDigits_22 (by decide) ?_
    refine sx_bipush (pc := 23) (v := 10) dX4_addDigits_23 (by decide) ?_
    refine sx_irem (pc := 25) dX4_addDigits_25 (by decide) ?_
    refine sx_iadd (pc := 26) dX4_addDigits_26 ?_
    refine sx_callV (pc := 27) (As := [.int (48 + ((v / 10000) - (v / 10000) / 10 * 10))]) dX4_addDigits_27 (c_add X Ex hE μ k hR hk _) mX4_add lm_X4_19 rfl hR.1 rfl ⟨Nat.le_of_ble_eq_true rfl, Nat.le_of_ble_eq_true rfl⟩ ⟨Nat.le_of_ble_eq_true rfl, Nat.le_of_ble_eq_true rfl⟩ (Nat.le_of_ble_eq_true rfl) hE (fun r_27 sh1 μ1 h_27 => ?_)
    obtain ⟨rfl, rfl, k_27⟩ := h_27
    refine sx_iload_n (pc := 30) dX4_addDigits_30 rfl rfl ?_
    refine sx_bipush (pc := 31) (v := 10) dX4_addDigits_31 (by decide) ?_
    refine sx_idiv (pc := 33) dX4_addDigits_33 (by decide) ?_
    refine sx_istore_n (pc := 34) (L' := [some (.ref (X.2 + k)), some (.int v), some (.int 1000)]) dX4_addDigits_34 rfl (by decide) rfl ?_
    refine sx_goto (pc := 35) (tgt := 3) dX4_addDigits_35 (by decide) ?_
    exact l_dig4 hE hR hk (Ch.trans hC k_27)
  · have h_9f := c_9
    refine sx_iload_n (pc := 12) dX4_addDigits_12 rfl rfl ?_
    refine sx_iconst (pc := 13) (v := 1) dX4_addDigits_13 (by decide) ?_
    refine sx_icmp_ne (pc := 14) (tgt := 30) dX4_addDigits_14 (by decide) (fun c_14 => ?_) (fun c_14 => absurd c_14 (by decide))
    refine sx_iload_n (pc := 30) dX4_addDigits_30 rfl rfl ?_
    refine sx_bipush (pc := 31) (v := 10) dX4_addDigits_31 (by decide) ?_
    refine sx_idiv (pc := 33) dX4_addDigits_33 (by decide) ?_
    refine sx_istore_n (pc := 34) (L' := [some (.ref (X.2 + k)), some (.int v), some (.int 1000)]) dX4_addDigits_34 rfl (by decide) rfl ?_
    refine sx_goto (pc := 35) (tgt := 3) dX4_addDigits_35 (by decide) ?_
    exact l_dig4 hE hR hk hC
set_option maxHeartbeats 1000000 in
set_option maxRecDepth 20000 in
theorem l_dig6 {X : xD} {Ex : State → Prop} (hE : xEs X false shA.length Ex) {l : Launch} {k : Nat} (hR : shA[k]? = some (shReply k) ∧ shA[k + 1]? = some (shI 13)) (hk : RK k) {μ0 μ : xM} {v : Int32} (hC : Ch (SR k) μ0 μ) : sx l (rmN 1) X Ex false kX4_addDigits shA.length (xZ X false shA.length (fun r sh' μ' => shA = sh' ∧ r = none ∧ Ch (SR k) μ0 μ') 0 0) 3 [some (.ref (X.2 + k)), some (.int v), some (.int 100000)] [] shA μ 0 0 := by
  refine sx_iload_n (pc := 3) dX4_addDigits_3 rfl rfl ?_
  refine sx_if_le (pc := 4) (tgt := 38) dX4_addDigits_4 (by decide) (fun c_4 => absurd c_4 (by decide)) (fun c_4 => ?_)
  refine sx_iload_n (pc := 7) dX4_addDigits_7 rfl rfl ?_
  refine sx_iload_n (pc := 8) dX4_addDigits_8 rfl rfl ?_
  refine sx_icmp_ge (pc := 9) (tgt := 17) dX4_addDigits_9 (by decide) (fun c_9 => ?_) (fun c_9 => ?_)
  · have h_9t := c_9
    refine sx_aload_n (pc := 17) dX4_addDigits_17 rfl rfl ?_
    refine sx_bipush (pc := 18) (v := 48) dX4_addDigits_18 (by decide) ?_
    refine sx_iload_n (pc := 20) dX4_addDigits_20 rfl rfl ?_
    refine sx_iload_n (pc := 21) dX4_addDigits_21 rfl rfl ?_
    refine sx_idiv (pc := 22) dX4_addDigits_22 (by decide) ?_
    refine sx_bipush (pc := 23) (v := 10) dX4_addDigits_23 (by decide) ?_
    refine sx_irem (pc := 25) dX4_addDigits_25 (by decide) ?_
    refine sx_iadd (pc := 26) dX4_addDigits_26 ?_
    refine sx_callV (pc := 27) (As := [.int (48 + ((v / 100000) - (v / 100000) / 10 * 10))]) dX4_addDigits_27 (c_add X Ex hE μ k hR hk _) mX4_add lm_X4_19 rfl hR.1 rfl ⟨Nat.le_of_ble_eq_true rfl, Nat.le_of_ble_eq_true rfl⟩ ⟨Nat.le_of_ble_eq_true rfl, Nat.le_of_ble_eq_true rfl⟩ (Nat.le_of_ble_eq_true rfl) hE (fun r_27 sh1 μ1 h_27 => ?_)
    obtain ⟨rfl, rfl, k_27⟩ := h_27
    refine sx_iload_n (pc := 30) dX4_addDigits_30 rfl rfl ?_
    refine sx_bipush (pc := 31) (v := 10) dX4_addDigits_31 (by decide) ?_
    refine sx_idiv (pc := 33) dX4_addDigits_33 (by decide) ?_
    refine sx_istore_n (pc := 34) (L' := [some (.ref (X.2 + k)), some (.int v), some (.int 10000)]) dX4_addDigits_34 rfl (by decide) rfl ?_
    refine sx_goto (pc := 35) (tgt := 3) dX4_addDigits_35 (by decide) ?_
    exact l_dig5 hE hR hk (Ch.trans hC k_27)
  · have h_9f := c_9
    refine sx_iload_n (pc := 12) dX4_addDigits_12 rfl rfl ?_
    refine sx_iconst (pc := 13) (v := 1) dX4_addDigits_13 (by decide) ?_
    refine sx_icmp_ne (pc := 14) (tgt := 30) dX4_addDigits_14 (by decide) (fun c_14 => ?_) (fun c_14 => absurd c_14 (by decide))
    refine sx_iload_n (pc := 30) dX4_addDigits_30 rfl rfl ?_
    refine sx_bipush (pc := 31) (v := 10) dX4_addDigits_31 (by decide) ?_
    refine sx_idiv (pc := 33) dX4_addDigits_33 (by decide) ?_
    refine sx_istore_n (pc := 34) (L' := [some (.ref (X.2 + k)), some (.int v), some (.int 10000)]) dX4_addDigits_34 rfl (by decide) rfl ?_
    refine sx_goto (pc := 35) (tgt := 3) dX4_addDigits_35 (by decide) ?_
    exact l_dig5 hE hR hk hC
set_option maxHeartbeats 1000000 in
set_option maxRecDepth 20000 in
theorem c_addDigits (X : xD) (Ex : State → Prop) (hE : xEs X false shA.length Ex) (μ : xM) (k : Nat) (hR : shA[k]? = some (shReply k) ∧ shA[k + 1]? = some (shI 13)) (hk : RK k) (v : Int32) : Ct X Ex false yX4_addDigits kX4_addDigits (rmN 1) [.ref (X.2 + k), .int v] shA μ (fun r sh' μ' => shA = sh' ∧ r = none ∧ Ch (SR k) μ μ') := by
  refine Ct.of (L0 := [some (.ref (X.2 + k)), some (.int v), none]) (by decide) rfl (fun h => by cases h) (by simp [Value.category]) (Nat.le_of_ble_eq_true rfl) rfl (fun l => ?_)
  refine sx_ldc (pc := 0) dX4_addDigits_0 ld_X4_55 ?_
  refine sx_istore_n (pc := 2) (L' := [some (.ref (X.2 + k)), some (.int v), some (.int 100000)]) dX4_addDigits_2 rfl (by decide) rfl ?_
  exact l_dig6 hE hR hk Ch.rf
set_option maxHeartbeats 1000000 in
set_option maxRecDepth 20000 in
theorem c_writeVerdict (X : xD) (Ex : State → Prop) (hE : xEs X false shA.length Ex) (μ : xM) (k : Nat) (hR : shA[k]? = some (shReply k) ∧ shA[k + 1]? = some (shI 13)) (hk : RK k) (y v : Int32) : Ct X Ex false yX4_writeVerdict kX4_writeVerdict (rmN 3) [.ref (X.2 + k), .ref (X.2 + 94), .int y, .int v] shA μ (fun r sh' μ' => shA = sh' ∧ r = none ∧ Ch (SR k) μ μ') := by
  refine Ct.of (L0 := [some (.ref (X.2 + k)), some (.ref (X.2 + 94)), some (.int y), some (.int v)]) (by decide) rfl (fun h => by cases h) (by simp [Value.category]) (Nat.le_of_ble_eq_true rfl) rfl (fun l => ?_)
  refine sx_aload_n (pc := 0) dX4_writeVerdict_0 rfl rfl ?_
  refine sx_iconst (pc := 1) (v := 0) dX4_writeVerdict_1 (by decide) ?_
  refine sx_puti (pc := 2) (ci := 4) (j := 1) (ty := .int) dX4_writeVerdict_2 rfl hR.1 rfl (by decide) lf_X4_15 rfl (by decide +kernel) rfl rfl (fun μ1 hμ1 => ?_)
  refine sx_aload_n (pc := 5) dX4_writeVerdict_5 rfl rfl ?_
  refine sx_iload_n (pc := 6) dX4_writeVerdict_6 rfl rfl ?_
  refine sx_if_eq (pc := 7) (tgt := 15) dX4_writeVerdict_7 (by decide) (fun c_7 => ?_) (fun c_7 => ?_)
  · have h_7t := c_7
    refine sx_bipush (pc := 15) (v := 88) dX4_writeVerdict_15 (by decide) ?_
    refine sx_callV (pc := 17) (As := [.int 88]) dX4_writeVerdict_17 (c_add X Ex hE μ1 k hR hk _) mX4_add lm_X4_19 rfl hR.1 rfl ⟨Nat.le_of_ble_eq_true rfl, Nat.le_of_ble_eq_true rfl⟩ ⟨Nat.le_of_ble_eq_true rfl, Nat.le_of_ble_eq_true rfl⟩ (Nat.le_of_ble_eq_true rfl) hE (fun r_17 sh1 μ2 h_17 => ?_)
    obtain ⟨rfl, rfl, k_17⟩ := h_17
    refine sx_aload_n (pc := 20) dX4_writeVerdict_20 rfl rfl ?_
    refine sx_iload_n (pc := 21) dX4_writeVerdict_21 rfl rfl ?_
    refine sx_callV (pc := 22) (As := [.int v]) dX4_writeVerdict_22 (c_addDigits X Ex hE μ2 k hR hk _) mX4_addDigits lm_X4_30 rfl hR.1 rfl ⟨Nat.le_of_ble_eq_true rfl, Nat.le_of_ble_eq_true rfl⟩ ⟨Nat.le_of_ble_eq_true rfl, Nat.le_of_ble_eq_true rfl⟩ (Nat.le_of_ble_eq_true rfl) hE (fun r_22 sh1 μ3 h_22 => ?_)
    obtain ⟨rfl, rfl, k_22⟩ := h_22
    refine sx_aload_n (pc := 25) dX4_writeVerdict_25 rfl rfl ?_
    refine sx_aload_n (pc := 26) dX4_writeVerdict_26 rfl rfl ?_
    refine sx_callV (pc := 27) (As := [.ref (X.2 + 94)]) dX4_writeVerdict_27 (c_addSource X Ex hE μ3 k hR hk) mX4_addSource lm_X4_26 rfl hR.1 rfl ⟨Nat.le_of_ble_eq_true rfl, Nat.le_of_ble_eq_true rfl⟩ ⟨Nat.le_of_ble_eq_true rfl, Nat.le_of_ble_eq_true rfl⟩ (Nat.le_of_ble_eq_true rfl) hE (fun r_27 sh1 μ4 h_27 => ?_)
    obtain ⟨rfl, rfl, k_27⟩ := h_27
    exact sx_vret (pc := 30) dX4_writeVerdict_30 rfl (Nat.zero_le _) (Nat.zero_le _) (⟨rfl, rfl, (Ch.trans (Ch.trans (Ch.trans (Ch.put (Ch.rf) hμ1 (by omega) (LB.len hμ1 hk (by decide))) k_17) k_22) k_27)⟩)
  · have h_7f := c_7
    refine sx_bipush (pc := 10) (v := 89) dX4_writeVerdict_10 (by decide) ?_
    refine sx_goto (pc := 12) (tgt := 17) dX4_writeVerdict_12 (by decide) ?_
    refine sx_callV (pc := 17) (As := [.int 89]) dX4_writeVerdict_17 (c_add X Ex hE μ1 k hR hk _) mX4_add lm_X4_19 rfl hR.1 rfl ⟨Nat.le_of_ble_eq_true rfl, Nat.le_of_ble_eq_true rfl⟩ ⟨Nat.le_of_ble_eq_true rfl, Nat.le_of_ble_eq_true rfl⟩ (Nat.le_of_ble_eq_true rfl) hE (fun r_17 sh1 μ5 h_17 => ?_)
    obtain ⟨rfl, rfl, k_17⟩ := h_17
    refine sx_aload_n (pc := 20) dX4_writeVerdict_20 rfl rfl ?_
    refine sx_iload_n (pc := 21) dX4_writeVerdict_21 rfl rfl ?_
    refine sx_callV (pc := 22) (As := [.int v]) dX4_writeVerdict_22 (c_addDigits X Ex hE μ5 k hR hk _) mX4_addDigits lm_X4_30 rfl hR.1 rfl ⟨Nat.le_of_ble_eq_true rfl, Nat.le_of_ble_eq_true rfl⟩ ⟨Nat.le_of_ble_eq_true rfl, Nat.le_of_ble_eq_true rfl⟩ (Nat.le_of_ble_eq_true rfl) hE (fun r_22 sh1 μ6 h_22 => ?_)
    obtain ⟨rfl, rfl, k_22⟩ := h_22
    refine sx_aload_n (pc := 25) dX4_writeVerdict_25 rfl rfl ?_
    refine sx_aload_n (pc := 26) dX4_writeVerdict_26 rfl rfl ?_
    refine sx_callV (pc := 27) (As := [.ref (X.2 + 94)]) dX4_writeVerdict_27 (c_addSource X Ex hE μ6 k hR hk) mX4_addSource lm_X4_26 rfl hR.1 rfl ⟨Nat.le_of_ble_eq_true rfl, Nat.le_of_ble_eq_true rfl⟩ ⟨Nat.le_of_ble_eq_true rfl, Nat.le_of_ble_eq_true rfl⟩ (Nat.le_of_ble_eq_true rfl) hE (fun r_27 sh1 μ7 h_27 => ?_)
    obtain ⟨rfl, rfl, k_27⟩ := h_27
    exact sx_vret (pc := 30) dX4_writeVerdict_30 rfl (Nat.zero_le _) (Nat.zero_le _) (⟨rfl, rfl, (Ch.trans (Ch.trans (Ch.trans (Ch.put (Ch.rf) hμ1 (by omega) (LB.len hμ1 hk (by decide))) k_17) k_22) k_27)⟩)
