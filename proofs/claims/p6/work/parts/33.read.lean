/-! the fields of a kind -/
def fK (k : Int32) : Option Nat := if k = 83 ∨ k = 81 then some 0 else if k = 67 ∨ k = 72 ∨ k = 82 then some 1 else if k = 66 ∨ k = 73 then some 2 else if k = 80 then some 3 else if k = 70 then some 4 else none
theorem fK_none {k : Int32} (h : k.toInt < 66 ∨ 83 < k.toInt) : fK k = none := by
  have hn : ∀ c : Int32, (66 ≤ c.toInt ∧ c.toInt ≤ 83) → k ≠ c := fun c hc e => by rw [e] at h; omega
  have h1 := hn 83 (by decide); have h2 := hn 81 (by decide); have h3 := hn 67 (by decide); have h4 := hn 72 (by decide); have h5 := hn 82 (by decide); have h6 := hn 66 (by decide); have h7 := hn 73 (by decide); have h8 := hn 80 (by decide); have h9 := hn 70 (by decide)
  simp [fK, h1, h2, h3, h4, h5, h6, h7, h8, h9]
theorem fK_lt {k : Int32} {i : Nat} (h : fK k = some i) : i < 5 := by
  unfold fK at h
  split at h
  · cases h; decide
  · split at h
    · cases h; decide
    · split at h
      · cases h; decide
      · split at h
        · cases h; decide
        · split at h
          · cases h; decide
          · cases h
theorem sw18 (w : Int32) : w = 66 ∨ w = 67 ∨ w = 68 ∨ w = 69 ∨ w = 70 ∨ w = 71 ∨ w = 72 ∨ w = 73 ∨ w = 74 ∨ w = 75 ∨ w = 76 ∨ w = 77 ∨ w = 78 ∨ w = 79 ∨ w = 80 ∨ w = 81 ∨ w = 82 ∨ w = 83 ∨ (w.toInt < 66 ∨ 83 < w.toInt) := by
  by_cases h : w.toInt < 66 ∨ 83 < w.toInt
  · simp [h]
  · have e : ∀ c : Int32, w.toInt = c.toInt → w = c := fun c q => Int32.toInt_inj.mp q
    have h0 : w.toInt = 66 ∨ w.toInt = 67 ∨ w.toInt = 68 ∨ w.toInt = 69 ∨ w.toInt = 70 ∨ w.toInt = 71 ∨ w.toInt = 72 ∨ w.toInt = 73 ∨ w.toInt = 74 ∨ w.toInt = 75 ∨ w.toInt = 76 ∨ w.toInt = 77 ∨ w.toInt = 78 ∨ w.toInt = 79 ∨ w.toInt = 80 ∨ w.toInt = 81 ∨ w.toInt = 82 ∨ w.toInt = 83 := by omega
    rcases h0 with q | q | q | q | q | q | q | q | q | q | q | q | q | q | q | q | q | q
    · simp [e 66 q]
    · simp [e 67 q]
    · simp [e 68 q]
    · simp [e 69 q]
    · simp [e 70 q]
    · simp [e 71 q]
    · simp [e 72 q]
    · simp [e 73 q]
    · simp [e 74 q]
    · simp [e 75 q]
    · simp [e 76 q]
    · simp [e 77 q]
    · simp [e 78 q]
    · simp [e 79 q]
    · simp [e 80 q]
    · simp [e 81 q]
    · simp [e 82 q]
    · simp [e 83 q]
theorem sl2 {i : Nat} (hi : i < 5) : sLen.getD i 0 - 0 ≤ 2 := by
  rcases (show i = 0 ∨ i = 1 ∨ i = 2 ∨ i = 3 ∨ i = 4 by omega) with rfl | rfl | rfl | rfl | rfl <;> decide
theorem mmin_nI {a b : Nat} (ha : a < 2 ^ 31) (hb : b < 2 ^ 31) : (if nI b < nI a then nI b else nI a) = nI (min a b) := by
  by_cases h : b < a
  · rw [if_pos (nI_lt h ha), Nat.min_eq_right (by omega)]
  · rw [if_neg (nI_nlt (by omega) hb), Nat.min_eq_left (by omega)]
theorem m1_ne {b : Nat} (h : b < 2 ^ 31) : ¬ nI b = (-1) := fun q => by
  have := nI_toInt h
  rw [q] at this
  have h1 : (-1 : Int32).toInt = -1 := by decide
  omega
def GD (μ : xM) : Prop := ∀ i, fK (μ 94 0) = some i → ((i = 1 ∨ i = 2) → 0 ≤ μ 94 3 ∧ μ 94 3 < 30) ∧ ((i = 1 ∨ i = 3 ∨ i = 4) → 0 ≤ μ 94 2 ∧ μ 94 2 < 30)
set_option maxHeartbeats 1000000 in
set_option maxRecDepth 20000 in
theorem c_fieldsOf (X : xD) (Ex : State → Prop) (hE : xEs X false shA.length Ex) (μ : xM) {sk sv : Nat → Nat} {fm : Option Nat} (hS : ∀ s, Ex s → ExS X sk sv fm s) (kd : Int32) : Ct X Ex false yX3_fieldsOf kX3_fieldsOf (rmN 0) [.int kd] shA μ (fun r sh' μ' => shA = sh' ∧ μ = μ' ∧ ((fK kd = none ∧ r = some .null) ∨ ∃ i, i < 5 ∧ fK kd = some i ∧ r = some (.ref (sk i)))) := by
  refine Ct.of (L0 := [some (.int kd)]) (by decide) rfl (fun h => by cases h) (by simp [Value.category]) (Nat.le_of_ble_eq_true rfl) rfl (fun l => ?_)
  refine sx_iload_n (pc := 0) dX3_fieldsOf_0 rfl rfl ?_
  rcases sw18 kd with rfl | rfl | rfl | rfl | rfl | rfl | rfl | rfl | rfl | rfl | rfl | rfl | rfl | rfl | rfl | rfl | rfl | rfl | w_1
  · refine sx_tableIn (pc := 1) (off := 93) (tgt := 94) dX3_fieldsOf_1 (by decide) (by decide) (by decide) (by decide) ?_
    refine sx_ldcS (pc := 94) dX3_fieldsOf_94 (fun s h => (hS s h).2.1 2 (by decide)) ?_
    exact sx_aret (pc := 96) dX3_fieldsOf_96 rfl (Or.inl ⟨_, rfl⟩) (Or.inr ⟨_, rfl⟩) (Nat.zero_le _) (Nat.zero_le _) (⟨rfl, rfl, Or.inr ⟨2, by decide, by decide, rfl⟩⟩)
  · refine sx_tableIn (pc := 1) (off := 90) (tgt := 91) dX3_fieldsOf_1 (by decide) (by decide) (by decide) (by decide) ?_
    refine sx_ldcS (pc := 91) dX3_fieldsOf_91 (fun s h => (hS s h).2.1 1 (by decide)) ?_
    exact sx_aret (pc := 93) dX3_fieldsOf_93 rfl (Or.inl ⟨_, rfl⟩) (Or.inr ⟨_, rfl⟩) (Nat.zero_le _) (Nat.zero_le _) (⟨rfl, rfl, Or.inr ⟨1, by decide, by decide, rfl⟩⟩)
  · refine sx_tableIn (pc := 1) (off := 102) (tgt := 103) dX3_fieldsOf_1 (by decide) (by decide) (by decide) (by decide) ?_
    refine sx_null (pc := 103) dX3_fieldsOf_103 ?_
    exact sx_aret (pc := 104) dX3_fieldsOf_104 rfl (Or.inl ⟨_, rfl⟩) (Or.inl rfl) (Nat.zero_le _) (Nat.zero_le _) (⟨rfl, rfl, Or.inl ⟨by first | decide | exact fK_none w_1, rfl⟩⟩)
  · refine sx_tableIn (pc := 1) (off := 102) (tgt := 103) dX3_fieldsOf_1 (by decide) (by decide) (by decide) (by decide) ?_
    refine sx_null (pc := 103) dX3_fieldsOf_103 ?_
    exact sx_aret (pc := 104) dX3_fieldsOf_104 rfl (Or.inl ⟨_, rfl⟩) (Or.inl rfl) (Nat.zero_le _) (Nat.zero_le _) (⟨rfl, rfl, Or.inl ⟨by first | decide | exact fK_none w_1, rfl⟩⟩)
  · refine sx_tableIn (pc := 1) (off := 99) (tgt := 100) dX3_fieldsOf_1 (by decide) (by decide) (by decide) (by decide) ?_
    refine sx_ldcS (pc := 100) dX3_fieldsOf_100 (fun s h => (hS s h).2.1 4 (by decide)) ?_
    exact sx_aret (pc := 102) dX3_fieldsOf_102 rfl (Or.inl ⟨_, rfl⟩) (Or.inr ⟨_, rfl⟩) (Nat.zero_le _) (Nat.zero_le _) (⟨rfl, rfl, Or.inr ⟨4, by decide, by decide, rfl⟩⟩)
  · refine sx_tableIn (pc := 1) (off := 102) (tgt := 103) dX3_fieldsOf_1 (by decide) (by decide) (by decide) (by decide) ?_
    refine sx_null (pc := 103) dX3_fieldsOf_103 ?_
    exact sx_aret (pc := 104) dX3_fieldsOf_104 rfl (Or.inl ⟨_, rfl⟩) (Or.inl rfl) (Nat.zero_le _) (Nat.zero_le _) (⟨rfl, rfl, Or.inl ⟨by first | decide | exact fK_none w_1, rfl⟩⟩)
  · refine sx_tableIn (pc := 1) (off := 90) (tgt := 91) dX3_fieldsOf_1 (by decide) (by decide) (by decide) (by decide) ?_
    refine sx_ldcS (pc := 91) dX3_fieldsOf_91 (fun s h => (hS s h).2.1 1 (by decide)) ?_
    exact sx_aret (pc := 93) dX3_fieldsOf_93 rfl (Or.inl ⟨_, rfl⟩) (Or.inr ⟨_, rfl⟩) (Nat.zero_le _) (Nat.zero_le _) (⟨rfl, rfl, Or.inr ⟨1, by decide, by decide, rfl⟩⟩)
  · refine sx_tableIn (pc := 1) (off := 93) (tgt := 94) dX3_fieldsOf_1 (by decide) (by decide) (by decide) (by decide) ?_
    refine sx_ldcS (pc := 94) dX3_fieldsOf_94 (fun s h => (hS s h).2.1 2 (by decide)) ?_
    exact sx_aret (pc := 96) dX3_fieldsOf_96 rfl (Or.inl ⟨_, rfl⟩) (Or.inr ⟨_, rfl⟩) (Nat.zero_le _) (Nat.zero_le _) (⟨rfl, rfl, Or.inr ⟨2, by decide, by decide, rfl⟩⟩)
  · refine sx_tableIn (pc := 1) (off := 102) (tgt := 103) dX3_fieldsOf_1 (by decide) (by decide) (by decide) (by decide) ?_
    refine sx_null (pc := 103) dX3_fieldsOf_103 ?_
    exact sx_aret (pc := 104) dX3_fieldsOf_104 rfl (Or.inl ⟨_, rfl⟩) (Or.inl rfl) (Nat.zero_le _) (Nat.zero_le _) (⟨rfl, rfl, Or.inl ⟨by first | decide | exact fK_none w_1, rfl⟩⟩)
  · refine sx_tableIn (pc := 1) (off := 102) (tgt := 103) dX3_fieldsOf_1 (by decide) (by decide) (by decide) (by decide) ?_
    refine sx_null (pc := 103) dX3_fieldsOf_103 ?_
    exact sx_aret (pc := 104) dX3_fieldsOf_104 rfl (Or.inl ⟨_, rfl⟩) (Or.inl rfl) (Nat.zero_le _) (Nat.zero_le _) (⟨rfl, rfl, Or.inl ⟨by first | decide | exact fK_none w_1, rfl⟩⟩)
  · refine sx_tableIn (pc := 1) (off := 102) (tgt := 103) dX3_fieldsOf_1 (by decide) (by decide) (by decide) (by decide) ?_
    refine sx_null (pc := 103) dX3_fieldsOf_103 ?_
    exact sx_aret (pc := 104) dX3_fieldsOf_104 rfl (Or.inl ⟨_, rfl⟩) (Or.inl rfl) (Nat.zero_le _) (Nat.zero_le _) (⟨rfl, rfl, Or.inl ⟨by first | decide | exact fK_none w_1, rfl⟩⟩)
  · refine sx_tableIn (pc := 1) (off := 102) (tgt := 103) dX3_fieldsOf_1 (by decide) (by decide) (by decide) (by decide) ?_
    refine sx_null (pc := 103) dX3_fieldsOf_103 ?_
    exact sx_aret (pc := 104) dX3_fieldsOf_104 rfl (Or.inl ⟨_, rfl⟩) (Or.inl rfl) (Nat.zero_le _) (Nat.zero_le _) (⟨rfl, rfl, Or.inl ⟨by first | decide | exact fK_none w_1, rfl⟩⟩)
  · refine sx_tableIn (pc := 1) (off := 102) (tgt := 103) dX3_fieldsOf_1 (by decide) (by decide) (by decide) (by decide) ?_
    refine sx_null (pc := 103) dX3_fieldsOf_103 ?_
    exact sx_aret (pc := 104) dX3_fieldsOf_104 rfl (Or.inl ⟨_, rfl⟩) (Or.inl rfl) (Nat.zero_le _) (Nat.zero_le _) (⟨rfl, rfl, Or.inl ⟨by first | decide | exact fK_none w_1, rfl⟩⟩)
  · refine sx_tableIn (pc := 1) (off := 102) (tgt := 103) dX3_fieldsOf_1 (by decide) (by decide) (by decide) (by decide) ?_
    refine sx_null (pc := 103) dX3_fieldsOf_103 ?_
    exact sx_aret (pc := 104) dX3_fieldsOf_104 rfl (Or.inl ⟨_, rfl⟩) (Or.inl rfl) (Nat.zero_le _) (Nat.zero_le _) (⟨rfl, rfl, Or.inl ⟨by first | decide | exact fK_none w_1, rfl⟩⟩)
  · refine sx_tableIn (pc := 1) (off := 96) (tgt := 97) dX3_fieldsOf_1 (by decide) (by decide) (by decide) (by decide) ?_
    refine sx_ldcS (pc := 97) dX3_fieldsOf_97 (fun s h => (hS s h).2.1 3 (by decide)) ?_
    exact sx_aret (pc := 99) dX3_fieldsOf_99 rfl (Or.inl ⟨_, rfl⟩) (Or.inr ⟨_, rfl⟩) (Nat.zero_le _) (Nat.zero_le _) (⟨rfl, rfl, Or.inr ⟨3, by decide, by decide, rfl⟩⟩)
  · refine sx_tableIn (pc := 1) (off := 87) (tgt := 88) dX3_fieldsOf_1 (by decide) (by decide) (by decide) (by decide) ?_
    refine sx_ldcS (pc := 88) dX3_fieldsOf_88 (fun s h => (hS s h).2.1 0 (by decide)) ?_
    exact sx_aret (pc := 90) dX3_fieldsOf_90 rfl (Or.inl ⟨_, rfl⟩) (Or.inr ⟨_, rfl⟩) (Nat.zero_le _) (Nat.zero_le _) (⟨rfl, rfl, Or.inr ⟨0, by decide, by decide, rfl⟩⟩)
  · refine sx_tableIn (pc := 1) (off := 90) (tgt := 91) dX3_fieldsOf_1 (by decide) (by decide) (by decide) (by decide) ?_
    refine sx_ldcS (pc := 91) dX3_fieldsOf_91 (fun s h => (hS s h).2.1 1 (by decide)) ?_
    exact sx_aret (pc := 93) dX3_fieldsOf_93 rfl (Or.inl ⟨_, rfl⟩) (Or.inr ⟨_, rfl⟩) (Nat.zero_le _) (Nat.zero_le _) (⟨rfl, rfl, Or.inr ⟨1, by decide, by decide, rfl⟩⟩)
  · refine sx_tableIn (pc := 1) (off := 87) (tgt := 88) dX3_fieldsOf_1 (by decide) (by decide) (by decide) (by decide) ?_
    refine sx_ldcS (pc := 88) dX3_fieldsOf_88 (fun s h => (hS s h).2.1 0 (by decide)) ?_
    exact sx_aret (pc := 90) dX3_fieldsOf_90 rfl (Or.inl ⟨_, rfl⟩) (Or.inr ⟨_, rfl⟩) (Nat.zero_le _) (Nat.zero_le _) (⟨rfl, rfl, Or.inr ⟨0, by decide, by decide, rfl⟩⟩)
  · refine sx_tableOut (pc := 1) (tgt := 103) dX3_fieldsOf_1 w_1 (by decide) ?_
    refine sx_null (pc := 103) dX3_fieldsOf_103 ?_
    exact sx_aret (pc := 104) dX3_fieldsOf_104 rfl (Or.inl ⟨_, rfl⟩) (Or.inl rfl) (Nat.zero_le _) (Nat.zero_le _) (⟨rfl, rfl, Or.inl ⟨by first | decide | exact fK_none w_1, rfl⟩⟩)
theorem fK_KS {k : Int32} {i : Nat} (h : fK k = some i) : KS k := by
  unfold fK at h
  unfold KS
  by_cases h1 : k = 83 ∨ k = 81
  · rcases h1 with rfl | rfl <;> decide
  by_cases h2 : k = 67 ∨ k = 72 ∨ k = 82
  · rcases h2 with rfl | rfl | rfl <;> decide
  by_cases h3 : k = 66 ∨ k = 73
  · rcases h3 with rfl | rfl <;> decide
  by_cases h4 : k = 80
  · rw [h4]; decide
  by_cases h5 : k = 70
  · rw [h5]; decide
  rw [if_neg h1, if_neg h2, if_neg h3, if_neg h4, if_neg h5] at h
  cases h
theorem fK_not {k : Int32} (h : fK k = none) : ¬ KS k := by
  rintro (rfl | rfl | rfl | rfl | rfl | rfl | rfl | rfl | rfl) <;> exact absurd h (by decide)
theorem fK_c {k : Int32} {i : Nat} (h : fK k = some i) : (hP k ↔ (i = 1 ∨ i = 3 ∨ i = 4)) ∧ (hI k ↔ (i = 1 ∨ i = 2)) ∧ (k = 70 ↔ i = 4) := by
  have hk := fK_KS h
  rcases hk with rfl | rfl | rfl | rfl | rfl | rfl | rfl | rfl | rfl <;> (cases h; decide)
def MF (μ : xM) (t : PT) : Prop := μ 94 0 = t.1 ∧ μ 94 1 = t.2.1 ∧ (hP t.1 → μ 94 2 = t.2.2.1) ∧ (hI t.1 → μ 94 3 = t.2.2.2.1) ∧ (t.1 = 70 → μ 94 4 = t.2.2.2.2 ∧ μ 94 3 = (-1))
def GE (μ : xM) (i : Nat) : Prop := ∀ j, j < sLen.getD i 0 → LC μ ((sByt.getD i []).getD j 0)
theorem GE_gd {μ : xM} {i : Nat} (hK : fK (μ 94 0) = some i) (h : GE μ i) : GD μ := by
  intro i' hi'
  rw [hK] at hi'
  cases hi'
  have hi := fK_lt hK
  rcases (show i = 0 ∨ i = 1 ∨ i = 2 ∨ i = 3 ∨ i = 4 by omega) with rfl | rfl | rfl | rfl | rfl
  · exact ⟨fun q => by omega, fun q => by omega⟩
  · exact ⟨fun _ => h 1 (by decide), fun _ => h 0 (by decide)⟩
  · exact ⟨fun _ => h 0 (by decide), fun q => by omega⟩
  · exact ⟨fun q => by omega, fun _ => h 0 (by decide)⟩
  · exact ⟨fun q => by omega, fun _ => h 0 (by decide)⟩
abbrev bd (t : PT) : Prop := (hP t.1 ∧ 29 < t.2.2.1) ∨ (hI t.1 ∧ 29 < t.2.2.2.1) ∨ (t.1 = 70 ∧ 50000 < t.2.2.2.2)
theorem lt30 {x : Int32} {m : Nat} (e : x = nI m) (hm : m < 100000) : (0 ≤ x ∧ x < 30) ↔ ¬ 29 < x := by
  rw [e, show (30 : Int32) = nI 30 from rfl, show (29 : Int32) = nI 29 from rfl, nI_ltI (by omega) (by omega), nI_ltI (by omega) (by omega)]
  exact ⟨fun z => by omega, fun z => ⟨nI_pos' (by omega), by omega⟩⟩
theorem le5 {x : Int32} {m : Nat} (e : x = nI m) (hm : m < 100000) : (0 ≤ x ∧ x ≤ 50000) ↔ ¬ 50000 < x := by
  rw [e, show (50000 : Int32) = nI 50000 from rfl, nI_leI (by omega) (by omega), nI_ltI (by omega) (by omega)]
  exact ⟨fun z => by omega, fun z => ⟨nI_pos' (by omega), by omega⟩⟩
theorem ge_bd {f : Nat → Int32} {n : Nat} {μ : xM} {t : PT} (hp : prs f n = some t) (hM : MF μ t) {i : Nat} (hK : fK t.1 = some i) : GE μ i ↔ ¬ bd t := by
  obtain ⟨hk, _, ⟨m1, b1, e1⟩, ⟨m2, b2, e2⟩, ⟨m3, b3, e3⟩⟩ := prs_s hp
  obtain ⟨c1, c2, c3⟩ := fK_c hK
  obtain ⟨_, _, f1, f2, f3⟩ := hM
  have g1 : hP t.1 → (LC μ 97 ↔ ¬ 29 < t.2.2.1) := fun h => by rw [← lt30 e1 b1, ← f1 h]; exact Iff.rfl
  have g2 : hI t.1 → (LC μ 98 ↔ ¬ 29 < t.2.2.2.1) := fun h => by rw [← lt30 e2 b2, ← f2 h]; exact Iff.rfl
  have g3 : t.1 = 70 → (LC μ 99 ↔ ¬ 50000 < t.2.2.2.2) := fun h => by rw [← le5 e3 b3, ← (f3 h).1]; exact Iff.rfl
  have hi := fK_lt hK
  unfold bd
  rcases (show i = 0 ∨ i = 1 ∨ i = 2 ∨ i = 3 ∨ i = 4 by omega) with rfl | rfl | rfl | rfl | rfl
  · refine ⟨fun _ z => ?_, fun _ j hj => absurd hj (Nat.not_lt_zero _)⟩
    rcases z with z | z | z
    · have := c1.mp z.1; omega
    · have := c2.mp z.1; omega
    · have := c3.mp z.1; omega
  · have hp1 := c1.mpr (by omega)
    have hi1 := c2.mpr (by omega)
    refine ⟨fun h z => ?_, fun h j hj => ?_⟩
    · rcases z with z | z | z
      · exact (g1 hp1).mp (h 0 (by decide)) z.2
      · exact (g2 hi1).mp (h 1 (by decide)) z.2
      · have := c3.mp z.1; omega
    · have hj2 : j < 2 := hj
      rcases (show j = 0 ∨ j = 1 by omega) with rfl | rfl
      · exact (g1 hp1).mpr (fun z => h (Or.inl ⟨hp1, z⟩))
      · exact (g2 hi1).mpr (fun z => h (Or.inr (Or.inl ⟨hi1, z⟩)))
  · have hi1 := c2.mpr (by omega)
    refine ⟨fun h z => ?_, fun h j hj => ?_⟩
    · rcases z with z | z | z
      · have := c1.mp z.1; omega
      · exact (g2 hi1).mp (h 0 (by decide)) z.2
      · have := c3.mp z.1; omega
    · have hj2 : j < 1 := hj
      rcases (show j = 0 by omega) with rfl
      exact (g2 hi1).mpr (fun z => h (Or.inr (Or.inl ⟨hi1, z⟩)))
  · have hp1 := c1.mpr (by omega)
    refine ⟨fun h z => ?_, fun h j hj => ?_⟩
    · rcases z with z | z | z
      · exact (g1 hp1).mp (h 0 (by decide)) z.2
      · have := c2.mp z.1; omega
      · have := c3.mp z.1; omega
    · have hj2 : j < 1 := hj
      rcases (show j = 0 by omega) with rfl
      exact (g1 hp1).mpr (fun z => h (Or.inl ⟨hp1, z⟩))
  · have hp1 := c1.mpr (by omega)
    have h70 := c3.mpr (by omega)
    refine ⟨fun h z => ?_, fun h j hj => ?_⟩
    · rcases z with z | z | z
      · exact (g1 hp1).mp (h 0 (by decide)) z.2
      · have := c2.mp z.1; omega
      · exact (g3 h70).mp (h 1 (by decide)) z.2
    · have hj2 : j < 2 := hj
      rcases (show j = 0 ∨ j = 1 by omega) with rfl | rfl
      · exact (g1 hp1).mpr (fun z => h (Or.inl ⟨hp1, z⟩))
      · exact (g3 h70).mpr (fun z => h (Or.inr (Or.inr ⟨h70, z⟩)))
set_option maxHeartbeats 1000000 in
set_option maxRecDepth 20000 in
theorem l_rf_end {X : xD} {Ex : State → Prop} (hE : xEs X false shA.length Ex) {l : Launch} {k n a m : Nat} (hs : shA[k]? = some (shI 60)) (hn : n ≤ 60) (ha : a < n) (hm : m = min n (a + 1 + 5)) {lt : Int32} {μ : xM} {f : Nat → Int32} (hf : ∀ j, j < 60 → μ k j = f j) (hlt : f a = lt) (v : Int32) (q : Nat) (hq : a + 1 ≤ q) (hqn : q ≤ n) (hdl : dl f n 5 (a + 1) 0 = (q, v)) : sx l (rmN 1) X Ex false kX3_readField shA.length (xZ X false shA.length (fun r sh' μ' => shA = sh' ∧ ((r = some (.int (-1)) ∧ fl f n a lt = none ∧ μ' = μ) ∨ ∃ b v, fl f n a lt = some (b, v) ∧ r = some (.int (nI b)) ∧ μ' = xup μ 94 (fx lt) v)) 0 0) 77 [some (.ref (X.2 + 94)), some (.int lt), some (.ref (X.2 + k)), some (.int (nI n)), some (.int (nI a)), some (.int (nI (a + 1))), some (.int (nI m)), some (.int v), some (.int (nI q))] [] shA μ 0 0 := by
  refine sx_iload (pc := 77) dX3_readField_77 rfl ?_
  refine sx_iload (pc := 79) dX3_readField_79 rfl ?_
  refine sx_icmp_eq (pc := 81) (tgt := 99) dX3_readField_81 (by decide) (fun c_81 => ?_) (fun c_81 => ?_)
  · have h_81t := c_81
    refine sx_iconst (pc := 99) (v := (-1)) dX3_readField_99 (by decide) ?_
    exact sx_iret (pc := 100) dX3_readField_100 rfl rfl (Nat.zero_le _) (Nat.zero_le _) (⟨rfl, Or.inl ⟨rfl, fl_none hdl (fun z => by first | exact z.2.2.1 ((nI_eq (by omega) (by omega)).mp h_81t) | exact hge z.2.2.2.1 | exact h_96f z.2.2.2.2), rfl⟩⟩)
  · have h_81f := c_81
    refine sx_iload (pc := 84) dX3_readField_84 rfl ?_
    refine sx_iload_n (pc := 86) dX3_readField_86 rfl rfl ?_
    refine sx_icmp_ge (pc := 87) (tgt := 99) dX3_readField_87 (by decide) (fun c_87 => ?_) (fun c_87 => ?_)
    · have h_87t := c_87
      have hge : ¬ q < n := fun z => absurd (nI_lt z (by omega)) (Int32.not_lt.mpr h_87t)
      refine sx_iconst (pc := 99) (v := (-1)) dX3_readField_99 (by decide) ?_
      exact sx_iret (pc := 100) dX3_readField_100 rfl rfl (Nat.zero_le _) (Nat.zero_le _) (⟨rfl, Or.inl ⟨rfl, fl_none hdl (fun z => by first | exact z.2.2.1 ((nI_eq (by omega) (by omega)).mp h_81t) | exact hge z.2.2.2.1 | exact h_96f z.2.2.2.2), rfl⟩⟩)
    · have h_87f := c_87
      have hqlt : q < n := Nat.lt_of_not_le fun z => h_87f (nI_le z (by omega))
      refine sx_aload_n (pc := 90) dX3_readField_90 rfl rfl ?_
      refine sx_iload (pc := 91) dX3_readField_91 rfl ?_
      refine sx_iald (pc := 93) dX3_readField_93 hs (by decide) rfl (vp_in_nI (by omega) (by decide)) ?_
      rw [nI_clamp (by omega), show μ k q = f q from hf q (by omega)]
      refine sx_bipush (pc := 94) (v := 124) dX3_readField_94 (by decide) ?_
      refine sx_icmp_eq (pc := 96) (tgt := 101) dX3_readField_96 (by decide) (fun c_96 => ?_) (fun c_96 => ?_)
      · have h_96t := c_96
        refine sx_aload_n (pc := 101) dX3_readField_101 rfl rfl ?_
        refine sx_iload_n (pc := 102) dX3_readField_102 rfl rfl ?_
        refine sx_iload (pc := 103) dX3_readField_103 rfl ?_
        refine sx_callV (pc := 105) (As := [.int lt, .int v]) dX3_readField_105 (c_keepE X Ex hE μ _ _) mX3_keepField lm_X3_75 rfl s_Me rfl ⟨Nat.le_of_ble_eq_true rfl, Nat.le_of_ble_eq_true rfl⟩ ⟨Nat.le_of_ble_eq_true rfl, Nat.le_of_ble_eq_true rfl⟩ (Nat.le_of_ble_eq_true rfl) hE (fun r_105 sh1 μ1 h_105 => ?_)
        obtain ⟨rfl, rfl, k_105⟩ := h_105
        refine sx_iload (pc := 108) dX3_readField_108 rfl ?_
        refine sx_iconst (pc := 110) (v := 1) dX3_readField_110 (by decide) ?_
        refine sx_iadd (pc := 111) dX3_readField_111 ?_
        rw [nI_1]
        exact sx_iret (pc := 112) dX3_readField_112 rfl rfl (Nat.zero_le _) (Nat.zero_le _) (⟨rfl, Or.inr ⟨q + 1, v, fl_some hdl ⟨ha, hlt, fun z => h_81f (by rw [z]), hqlt, h_96t⟩, rfl, k_105⟩⟩)
      · have h_96f := c_96
        refine sx_iconst (pc := 99) (v := (-1)) dX3_readField_99 (by decide) ?_
        exact sx_iret (pc := 100) dX3_readField_100 rfl rfl (Nat.zero_le _) (Nat.zero_le _) (⟨rfl, Or.inl ⟨rfl, fl_none hdl (fun z => by first | exact z.2.2.1 ((nI_eq (by omega) (by omega)).mp h_81t) | exact hge z.2.2.2.1 | exact h_96f z.2.2.2.2), rfl⟩⟩)
set_option maxHeartbeats 1000000 in
set_option maxRecDepth 20000 in
theorem l_rf {X : xD} {Ex : State → Prop} (hE : xEs X false shA.length Ex) {l : Launch} {k n a m : Nat} (hs : shA[k]? = some (shI 60)) (hn : n ≤ 60) (ha : a < n) (hm : m = min n (a + 1 + 5)) {lt : Int32} {μ : xM} {f : Nat → Int32} (hf : ∀ j, j < 60 → μ k j = f j) (hlt : f a = lt) : ∀ (t q : Nat) (v : Int32), m - q ≤ t → a + 1 ≤ q → q ≤ n → q ≤ a + 6 → dl f n (a + 6 - q) q v = dl f n 5 (a + 1) 0 → sx l (rmN 1) X Ex false kX3_readField shA.length (xZ X false shA.length (fun r sh' μ' => shA = sh' ∧ ((r = some (.int (-1)) ∧ fl f n a lt = none ∧ μ' = μ) ∨ ∃ b v, fl f n a lt = some (b, v) ∧ r = some (.int (nI b)) ∧ μ' = xup μ 94 (fx lt) v)) 0 0) 39 [some (.ref (X.2 + 94)), some (.int lt), some (.ref (X.2 + k)), some (.int (nI n)), some (.int (nI a)), some (.int (nI (a + 1))), some (.int (nI m)), some (.int v), some (.int (nI q))] [] shA μ 0 0 := by
  intro t
  induction t with
  | zero =>
    intro q v ht hq hqn hq6 hdl
    refine sx_iload (pc := 39) dX3_readField_39 rfl ?_
    refine sx_iload (pc := 41) dX3_readField_41 rfl ?_
    refine sx_icmp_ge (pc := 43) (tgt := 77) dX3_readField_43 (by decide) (fun c_43 => ?_) (fun c_43 => absurd (nI_le (a := m) (b := q) (by omega) (by omega)) c_43)
    exact l_rf_end hE hs hn ha hm hf hlt _ _ hq hqn (by rw [← hdl]; exact dl_end (by omega))
  | succ t ih =>
    intro q v ht hq hqn hq6 hdl
    refine sx_iload (pc := 39) dX3_readField_39 rfl ?_
    refine sx_iload (pc := 41) dX3_readField_41 rfl ?_
    refine sx_icmp_ge (pc := 43) (tgt := 77) dX3_readField_43 (by decide) (fun c_43 => ?_) (fun c_43 => ?_)
    · have h_43t := c_43
      have hge : m ≤ q := Nat.le_of_not_lt fun z => absurd (nI_lt z (by omega)) (Int32.not_lt.mpr h_43t)
      exact l_rf_end hE hs hn ha hm hf hlt _ _ hq hqn (by rw [← hdl]; exact dl_end (by omega))
    · have h_43f := c_43
      have hqm : q < m := Nat.lt_of_not_le fun z => h_43f (nI_le z (by omega))
      refine sx_aload_n (pc := 46) dX3_readField_46 rfl rfl ?_
      refine sx_iload (pc := 47) dX3_readField_47 rfl ?_
      refine sx_iald (pc := 49) dX3_readField_49 hs (by decide) rfl (vp_in_nI (by omega) (by decide)) ?_
      rw [nI_clamp (by omega), show μ k q = f q from hf q (by omega)]
      refine sx_callSN (host := "ExchangeWire") (pc := 50) (As := [.int (f q)]) dX3_readField_50 (c_isDigitE X Ex false shA μ _) mX5_isDigit (by decide +kernel) rfl ⟨Nat.le_of_ble_eq_true rfl, Nat.le_of_ble_eq_true rfl⟩ ⟨Nat.le_of_ble_eq_true rfl, Nat.le_of_ble_eq_true rfl⟩ (Nat.le_of_ble_eq_true rfl) hE (fun r_50 sh1 μ1 h_50 => ?_)
      obtain ⟨rfl, rfl, x_50, rfl, hx_50⟩ := h_50
      refine sx_if_eq (pc := 53) (tgt := 77) dX3_readField_53 (by decide) (fun c_53 => ?_) (fun c_53 => ?_)
      · have h_53t := c_53
        exact l_rf_end hE hs hn ha hm hf hlt _ _ hq hqn (by rw [← hdl]; exact dl_no (fun z => dq_f hx_50 h_53t z.2))
      · have h_53f := c_53
        refine sx_iload (pc := 56) dX3_readField_56 rfl ?_
        refine sx_bipush (pc := 58) (v := 10) dX3_readField_58 (by decide) ?_
        refine sx_imul (pc := 60) dX3_readField_60 ?_
        refine sx_aload_n (pc := 61) dX3_readField_61 rfl rfl ?_
        refine sx_iload (pc := 62) dX3_readField_62 rfl ?_
        refine sx_iald (pc := 64) dX3_readField_64 hs (by decide) rfl (vp_in_nI (by omega) (by decide)) ?_
        rw [nI_clamp (by omega), show μ k q = f q from hf q (by omega)]
        refine sx_iadd (pc := 65) dX3_readField_65 ?_
        refine sx_bipush (pc := 66) (v := 48) dX3_readField_66 (by decide) ?_
        refine sx_isub (pc := 68) dX3_readField_68 ?_
        refine sx_istore (pc := 69) (L' := [some (.ref (X.2 + 94)), some (.int lt), some (.ref (X.2 + k)), some (.int (nI n)), some (.int (nI a)), some (.int (nI (a + 1))), some (.int (nI m)), some (.int (((v * 10) + (f q)) - 48)), some (.int (nI q))]) dX3_readField_69 (by decide) rfl ?_
        refine sx_iinc (pc := 71) (v := nI (q + 1)) (L' := [some (.ref (X.2 + 94)), some (.int lt), some (.ref (X.2 + k)), some (.int (nI n)), some (.int (nI a)), some (.int (nI (a + 1))), some (.int (nI m)), some (.int (((v * 10) + (f q)) - 48)), some (.int (nI (q + 1)))]) dX3_readField_71 rfl (nI_1 q) (by decide) rfl ?_
        refine sx_goto (pc := 74) (tgt := 39) dX3_readField_74 (by decide) ?_
        exact ih (q + 1) _ (by omega) (by omega) (by omega) (by omega) (by rw [← hdl, show a + 6 - q = (a + 6 - (q + 1)) + 1 by omega, dl_go ⟨by omega, dq_t hx_50 h_53f⟩])
set_option maxHeartbeats 1000000 in
set_option maxRecDepth 20000 in
theorem c_readField (X : xD) (Ex : State → Prop) (hE : xEs X false shA.length Ex) (μ : xM) (k n a : Nat) (hs : shA[k]? = some (shI 60)) (hn : n ≤ 60) (ha : a ≤ n) (lt : Int32) {f : Nat → Int32} (hf : ∀ j, j < 60 → μ k j = f j) : Ct X Ex false yX3_readField kX3_readField (rmN 1) [.ref (X.2 + 94), .int lt, .ref (X.2 + k), .int (nI n), .int (nI a)] shA μ (fun r sh' μ' => shA = sh' ∧ ((r = some (.int (-1)) ∧ fl f n a lt = none ∧ μ' = μ) ∨ ∃ b v, fl f n a lt = some (b, v) ∧ r = some (.int (nI b)) ∧ μ' = xup μ 94 (fx lt) v)) := by
  refine Ct.of (L0 := [some (.ref (X.2 + 94)), some (.int lt), some (.ref (X.2 + k)), some (.int (nI n)), some (.int (nI a)), none, none, none, none]) (by decide) rfl (fun h => by cases h) (by simp [Value.category]) (Nat.le_of_ble_eq_true rfl) rfl (fun l => ?_)
  refine sx_iload (pc := 0) dX3_readField_0 rfl ?_
  refine sx_iload_n (pc := 2) dX3_readField_2 rfl rfl ?_
  refine sx_icmp_ge (pc := 3) (tgt := 14) dX3_readField_3 (by decide) (fun c_3 => ?_) (fun c_3 => ?_)
  · have h_3t := c_3
    have hge : ¬ a < n := fun z => absurd (nI_lt z (by omega)) (Int32.not_lt.mpr h_3t)
    refine sx_iconst (pc := 14) (v := (-1)) dX3_readField_14 (by decide) ?_
    exact sx_iret (pc := 15) dX3_readField_15 rfl rfl (Nat.zero_le _) (Nat.zero_le _) (⟨rfl, Or.inl ⟨rfl, fl_no (fun z => by first | exact hge z.1 | exact h_11f z.2), rfl⟩⟩)
  · have h_3f := c_3
    have hlt : a < n := Nat.lt_of_not_le fun z => h_3f (nI_le z (by omega))
    refine sx_aload_n (pc := 6) dX3_readField_6 rfl rfl ?_
    refine sx_iload (pc := 7) dX3_readField_7 rfl ?_
    refine sx_iald (pc := 9) dX3_readField_9 hs (by decide) rfl (vp_in_nI (by omega) (by decide)) ?_
    rw [nI_clamp (by omega), show μ k a = f a from hf a (by omega)]
    refine sx_iload_n (pc := 10) dX3_readField_10 rfl rfl ?_
    refine sx_icmp_eq (pc := 11) (tgt := 16) dX3_readField_11 (by decide) (fun c_11 => ?_) (fun c_11 => ?_)
    · have h_11t := c_11
      refine sx_iload (pc := 16) dX3_readField_16 rfl ?_
      refine sx_iconst (pc := 18) (v := 1) dX3_readField_18 (by decide) ?_
      refine sx_iadd (pc := 19) dX3_readField_19 ?_
      rw [nI_1]
      refine sx_istore (pc := 20) (L' := [some (.ref (X.2 + 94)), some (.int lt), some (.ref (X.2 + k)), some (.int (nI n)), some (.int (nI a)), some (.int (nI (a + 1))), none, none, none]) dX3_readField_20 (by decide) rfl ?_
      refine sx_iload_n (pc := 22) dX3_readField_22 rfl rfl ?_
      refine sx_iload (pc := 23) dX3_readField_23 rfl ?_
      refine sx_iconst (pc := 25) (v := 5) dX3_readField_25 (by decide) ?_
      refine sx_iadd (pc := 26) dX3_readField_26 ?_
      refine sx_mmin (pc := 27) dX3_readField_27 lm_X3_69 (Nat.le_of_ble_eq_true rfl) (Nat.le_of_ble_eq_true rfl) ?_
      rw [show (5 : Int32) = nI 5 from rfl, nI_add, mmin_nI (a := n) (b := a + 1 + 5) (by omega) (by omega)]
      refine sx_istore (pc := 30) (L' := [some (.ref (X.2 + 94)), some (.int lt), some (.ref (X.2 + k)), some (.int (nI n)), some (.int (nI a)), some (.int (nI (a + 1))), some (.int (nI (min n (a + 1 + 5)))), none, none]) dX3_readField_30 (by decide) rfl ?_
      refine sx_iconst (pc := 32) (v := 0) dX3_readField_32 (by decide) ?_
      refine sx_istore (pc := 33) (L' := [some (.ref (X.2 + 94)), some (.int lt), some (.ref (X.2 + k)), some (.int (nI n)), some (.int (nI a)), some (.int (nI (a + 1))), some (.int (nI (min n (a + 1 + 5)))), some (.int 0), none]) dX3_readField_33 (by decide) rfl ?_
      refine sx_iload (pc := 35) dX3_readField_35 rfl ?_
      refine sx_istore (pc := 37) (L' := [some (.ref (X.2 + 94)), some (.int lt), some (.ref (X.2 + k)), some (.int (nI n)), some (.int (nI a)), some (.int (nI (a + 1))), some (.int (nI (min n (a + 1 + 5)))), some (.int 0), some (.int (nI (a + 1)))]) dX3_readField_37 (by decide) rfl ?_
      exact l_rf hE hs hn hlt rfl hf h_11t 60 _ _ (by omega) (Nat.le_refl _) (by omega) (by omega) (by rw [show a + 6 - (a + 1) = 5 by omega])
    · have h_11f := c_11
      refine sx_iconst (pc := 14) (v := (-1)) dX3_readField_14 (by decide) ?_
      exact sx_iret (pc := 15) dX3_readField_15 rfl rfl (Nat.zero_le _) (Nat.zero_le _) (⟨rfl, Or.inl ⟨rfl, fl_no (fun z => by first | exact hge z.1 | exact h_11f z.2), rfl⟩⟩)
set_option maxHeartbeats 1000000 in
set_option maxRecDepth 20000 in
theorem l_rd_end {X : xD} {Ex : State → Prop} (hE : xEs X false shA.length Ex) {sk sv : Nat → Nat} {fm : Option Nat} (hS : ∀ s, Ex s → ExS X sk sv fm s) {l : Launch} {k n : Nat} (hs : shA[k]? = some (shI 60)) (hk94 : ¬ SM k) (hn : n ≤ 60) {i : Nat} (hi : i < 5) {μ0 : xM} {f : Nat → Int32} (hf : ∀ j, j < 60 → μ0 k j = f j) {μ : xM} (hC : Ch SM μ0 μ) {a j : Nat} (ha : a ≤ n) (hj : sLen.getD i 0 = j) (hok : fnd f n a → ∃ t, prs f n = some t ∧ MF μ t) (hno : ¬ fnd f n a → prs f n = none) : sx l (rmN 4) X Ex false kX3_read shA.length (xZ X false shA.length (fun r sh' μ' => shA = sh' ∧ Ch SM μ0 μ' ∧ ∃ x : Int32, r = some (.int x) ∧ ((x = 1 ∧ ∃ t, prs f n = some t ∧ MF μ' t) ∨ (x = 0 ∧ prs f n = none))) 0 0) 62 [some (.ref (X.2 + 94)), some (.ref (X.2 + k)), some (.int (nI n)), some (.ref (sk i)), some (.int (nI a)), some (.int (nI j))] [] shA μ 0 0 := by
  have hl3 : sLen.getD i 0 < 3 := by rcases (show i = 0 ∨ i = 1 ∨ i = 2 ∨ i = 3 ∨ i = 4 by omega) with rfl | rfl | rfl | rfl | rfl <;> decide
  have hf2 : ∀ j, j < 60 → μ k j = f j := fun j hj => (congrFun (hC.1 k hk94) j).trans (hf j hj)
  refine sx_iload (pc := 62) dX3_read_62 rfl ?_
  refine sx_aload_n (pc := 64) dX3_read_64 rfl rfl ?_
  refine sx_callO (pc := 65) (As := []) dX3_read_65 (j_length X Ex false shA μ hE hS i hi) mJ0_length_8abf5 lm_X3_38 rfl (fun s h => ((hS s h).1.1 i hi).1) ⟨Nat.le_of_ble_eq_true rfl, Nat.le_of_ble_eq_true rfl⟩ ⟨Nat.le_of_ble_eq_true rfl, Nat.le_of_ble_eq_true rfl⟩ (Nat.le_of_ble_eq_true rfl) hE (fun r_65 sh1 μ1 h_65 => ?_)
  obtain ⟨rfl, rfl, rfl⟩ := h_65
  refine sx_icmp_ge (pc := 68) (tgt := 101) dX3_read_68 (by decide) (fun c_68 => ?_) (fun c_68 => absurd (nI_le (by omega) (by omega)) c_68)
  refine sx_aload_n (pc := 101) dX3_read_101 rfl rfl ?_
  refine sx_iload_n (pc := 102) dX3_read_102 rfl rfl ?_
  refine sx_iload (pc := 103) dX3_read_103 rfl ?_
  refine sx_callS (pc := 105) (As := [.ref (X.2 + k), .int (nI n), .int (nI a)]) dX3_read_105 (c_endsE X Ex hE μ k n a hs hn ha hf2) mX3_endsWithSum lm_X3_52 rfl ⟨Nat.le_of_ble_eq_true rfl, Nat.le_of_ble_eq_true rfl⟩ ⟨Nat.le_of_ble_eq_true rfl, Nat.le_of_ble_eq_true rfl⟩ (Nat.le_of_ble_eq_true rfl) hE (fun r_105 sh1 μ2 h_105 => ?_)
  obtain ⟨rfl, rfl, x_105, rfl, hx_105⟩ := h_105
  exact sx_iret (pc := 108) dX3_read_108 rfl (bool_n (dq_b hx_105)) (Nat.zero_le _) (Nat.zero_le _) (⟨rfl, hC, _, rfl, hx_105.elim (fun z => Or.inl ⟨z.1, hok z.2⟩) (fun z => Or.inr ⟨z.1, hno z.2⟩)⟩)
set_option maxHeartbeats 1000000 in
set_option maxRecDepth 20000 in
theorem l_rd_step {X : xD} {Ex : State → Prop} (hE : xEs X false shA.length Ex) {sk sv : Nat → Nat} {fm : Option Nat} (hS : ∀ s, Ex s → ExS X sk sv fm s) {l : Launch} {k n : Nat} (hs : shA[k]? = some (shI 60)) (hk94 : ¬ SM k) (hn : n ≤ 60) {i : Nat} (hi : i < 5) {μ0 : xM} {f : Nat → Int32} (hf : ∀ j, j < 60 → μ0 k j = f j) {μ : xM} (hC : Ch SM μ0 μ) {a j : Nat} (ha : a ≤ n) (hj : j < sLen.getD i 0) {lt : Int32} (hlt2 : (sByt.getD i []).getD j 0 = lt) (hno : fl f n a lt = none → prs f n = none) (hgo : ∀ b v, fl f n a lt = some (b, v) → b ≤ n → sx l (rmN 4) X Ex false kX3_read shA.length (xZ X false shA.length (fun r sh' μ' => shA = sh' ∧ Ch SM μ0 μ' ∧ ∃ x : Int32, r = some (.int x) ∧ ((x = 1 ∧ ∃ t, prs f n = some t ∧ MF μ' t) ∨ (x = 0 ∧ prs f n = none))) 0 0) 62 [some (.ref (X.2 + 94)), some (.ref (X.2 + k)), some (.int (nI n)), some (.ref (sk i)), some (.int (nI b)), some (.int (nI (j + 1)))] [] shA (xup μ 94 (fx lt) v) 0 0) : sx l (rmN 4) X Ex false kX3_read shA.length (xZ X false shA.length (fun r sh' μ' => shA = sh' ∧ Ch SM μ0 μ' ∧ ∃ x : Int32, r = some (.int x) ∧ ((x = 1 ∧ ∃ t, prs f n = some t ∧ MF μ' t) ∨ (x = 0 ∧ prs f n = none))) 0 0) 62 [some (.ref (X.2 + 94)), some (.ref (X.2 + k)), some (.int (nI n)), some (.ref (sk i)), some (.int (nI a)), some (.int (nI j))] [] shA μ 0 0 := by
  have hl3 : sLen.getD i 0 < 3 := by rcases (show i = 0 ∨ i = 1 ∨ i = 2 ∨ i = 3 ∨ i = 4 by omega) with rfl | rfl | rfl | rfl | rfl <;> decide
  subst hlt2
  have hlt := hj
  have hf2 : ∀ j, j < 60 → μ k j = f j := fun j hj => (congrFun (hC.1 k hk94) j).trans (hf j hj)
  refine sx_iload (pc := 62) dX3_read_62 rfl ?_
  refine sx_aload_n (pc := 64) dX3_read_64 rfl rfl ?_
  refine sx_callO (pc := 65) (As := []) dX3_read_65 (j_length X Ex false shA μ hE hS i hi) mJ0_length_8abf5 lm_X3_38 rfl (fun s h => ((hS s h).1.1 i hi).1) ⟨Nat.le_of_ble_eq_true rfl, Nat.le_of_ble_eq_true rfl⟩ ⟨Nat.le_of_ble_eq_true rfl, Nat.le_of_ble_eq_true rfl⟩ (Nat.le_of_ble_eq_true rfl) hE (fun r_65 sh1 μ1 h_65 => ?_)
  obtain ⟨rfl, rfl, rfl⟩ := h_65
  refine sx_icmp_ge (pc := 68) (tgt := 101) dX3_read_68 (by decide) (fun c_68 => absurd c_68 (by rw [nI_leI (by omega) (by omega)]; omega)) (fun c_68 => ?_)
  refine sx_aload_n (pc := 71) dX3_read_71 rfl rfl ?_
  refine sx_aload_n (pc := 72) dX3_read_72 rfl rfl ?_
  refine sx_iload (pc := 73) dX3_read_73 rfl ?_
  refine sx_callO (pc := 75) (As := [.int (nI j)]) dX3_read_75 (j_charAt X Ex false shA μ hE hS i hi j hlt) mJ0_charAt_5068e lm_X3_44 rfl (fun s h => ((hS s h).1.1 i hi).1) ⟨Nat.le_of_ble_eq_true rfl, Nat.le_of_ble_eq_true rfl⟩ ⟨Nat.le_of_ble_eq_true rfl, Nat.le_of_ble_eq_true rfl⟩ (Nat.le_of_ble_eq_true rfl) hE (fun r_75 sh1 μ2 h_75 => ?_)
  obtain ⟨rfl, rfl, rfl⟩ := h_75
  refine sx_aload_n (pc := 78) dX3_read_78 rfl rfl ?_
  refine sx_iload_n (pc := 79) dX3_read_79 rfl rfl ?_
  refine sx_iload (pc := 80) dX3_read_80 rfl ?_
  refine sx_callV (pc := 82) (As := [.int ((sByt.getD i []).getD j 0), .ref (X.2 + k), .int (nI n), .int (nI a)]) dX3_read_82 (c_readField X Ex hE μ k n a hs hn ha _ hf2) mX3_readField lm_X3_48 rfl s_Me rfl ⟨Nat.le_of_ble_eq_true rfl, Nat.le_of_ble_eq_true rfl⟩ ⟨Nat.le_of_ble_eq_true rfl, Nat.le_of_ble_eq_true rfl⟩ (Nat.le_of_ble_eq_true rfl) hE (fun r_82 sh1 μ3 h_82 => ?_)
  obtain ⟨rfl, h_82⟩ := h_82
  rcases h_82 with ⟨rfl, hfl, rfl⟩ | ⟨b, v, hfl, rfl, rfl⟩
  · skip
    refine sx_istore (pc := 85) (L' := [some (.ref (X.2 + 94)), some (.ref (X.2 + k)), some (.int (nI n)), some (.ref (sk i)), some (.int (-1)), some (.int (nI j))]) dX3_read_85 (by decide) rfl ?_
    refine sx_iload (pc := 87) dX3_read_87 rfl ?_
    refine sx_iconst (pc := 89) (v := (-1)) dX3_read_89 (by decide) ?_
    refine sx_icmp_ne (pc := 90) (tgt := 95) dX3_read_90 (by decide) (fun c_90 => absurd c_90 (by decide)) (fun c_90 => ?_)
    refine sx_iconst (pc := 93) (v := 0) dX3_read_93 (by decide) ?_
    exact sx_iret (pc := 94) dX3_read_94 rfl rfl (Nat.zero_le _) (Nat.zero_le _) (⟨rfl, hC, _, rfl, Or.inr ⟨rfl, hno hfl⟩⟩)
  · skip
    obtain ⟨hb1, hb2, -, -⟩ := fl_b hfl
    refine sx_istore (pc := 85) (L' := [some (.ref (X.2 + 94)), some (.ref (X.2 + k)), some (.int (nI n)), some (.ref (sk i)), some (.int (nI b)), some (.int (nI j))]) dX3_read_85 (by decide) rfl ?_
    refine sx_iload (pc := 87) dX3_read_87 rfl ?_
    refine sx_iconst (pc := 89) (v := (-1)) dX3_read_89 (by decide) ?_
    refine sx_icmp_ne (pc := 90) (tgt := 95) dX3_read_90 (by decide) (fun c_90 => ?_) (fun c_90 => absurd c_90 (m1_ne (b := b) (by omega)))
    refine sx_iinc (pc := 95) (v := nI (j + 1)) (L' := [some (.ref (X.2 + 94)), some (.ref (X.2 + k)), some (.int (nI n)), some (.ref (sk i)), some (.int (nI b)), some (.int (nI (j + 1)))]) dX3_read_95 rfl (nI_1 j) (by decide) rfl ?_
    refine sx_goto (pc := 98) (tgt := 62) dX3_read_98 (by decide) ?_
    exact hgo b v hfl hb2
theorem chm {μ0 μ : xM} {j : Nat} {v : Int32} (h : Ch SM μ0 μ) : Ch SM μ0 (xup μ 94 j v) := Ch.put h rfl rfl (LB.off rfl ⟨by omega, fun _ _ => by omega⟩)
theorem fx_a : fx 97 = 2 := by decide
theorem fx_b : fx 98 = 3 := by decide
theorem fx_c : fx 99 = 4 := by decide
set_option maxHeartbeats 1000000 in
set_option maxRecDepth 20000 in
theorem l_rd {X : xD} {Ex : State → Prop} (hE : xEs X false shA.length Ex) {sk sv : Nat → Nat} {fm : Option Nat} (hS : ∀ s, Ex s → ExS X sk sv fm s) {l : Launch} {k n : Nat} (hs : shA[k]? = some (shI 60)) (hk94 : ¬ SM k) (hn : n ≤ 60) {i : Nat} (hi : i < 5) {μ0 : xM} {f : Nat → Int32} (hf : ∀ j, j < 60 → μ0 k j = f j) {μ : xM} (hC : Ch SM μ0 μ) (hK : fK (f 0) = some i) (hh : 2 ≤ n ∧ KS (f 0) ∧ dgt (f 1)) (h0 : μ 94 0 = f 0) (h1 : μ 94 1 = f 1 - 48) (h3 : μ 94 3 = (-1)) : sx l (rmN 4) X Ex false kX3_read shA.length (xZ X false shA.length (fun r sh' μ' => shA = sh' ∧ Ch SM μ0 μ' ∧ ∃ x : Int32, r = some (.int x) ∧ ((x = 1 ∧ ∃ t, prs f n = some t ∧ MF μ' t) ∨ (x = 0 ∧ prs f n = none))) 0 0) 62 [some (.ref (X.2 + 94)), some (.ref (X.2 + k)), some (.int (nI n)), some (.ref (sk i)), some (.int (nI 2)), some (.int (nI 0))] [] shA μ 0 0 := by
  have c0 := fK_c hK
  rcases (show i = 0 ∨ i = 1 ∨ i = 2 ∨ i = 3 ∨ i = 4 by omega) with rfl | rfl | rfl | rfl | rfl
  · have c1 : ¬ hP (f 0) ∧ ¬ hI (f 0) ∧ ¬ f 0 = 70 := ⟨fun z => absurd (c0.1.mp z) (by decide), fun z => absurd (c0.2.1.mp z) (by decide), fun z => absurd (c0.2.2.mp z) (by decide)⟩
    refine l_rd_end hE hS hs hk94 hn hi hf hC (a := 2) (j := 0) (by omega) rfl (fun e => ⟨_, prs_ok hh (by rw [gA, if_neg c1.1]) (by rw [gB, if_neg c1.2.1]) (by rw [gC, if_neg c1.2.2]) e, ?_⟩) (fun e => prs_n4 hh (by rw [gA, if_neg c1.1]) (by rw [gB, if_neg c1.2.1]) (by rw [gC, if_neg c1.2.2]) e)
    refine ⟨by simp [fx_a, fx_b, fx_c, xup_at, h0], by simp [fx_a, fx_b, fx_c, xup_at, h1], fun z => ?_, fun z => ?_, fun z => ?_⟩
    · exact absurd z c1.1
    · exact absurd z c1.2.1
    · exact absurd z c1.2.2
  · have c1 : hP (f 0) ∧ hI (f 0) ∧ ¬ f 0 = 70 := ⟨c0.1.mpr (by decide), c0.2.1.mpr (by decide), fun z => absurd (c0.2.2.mp z) (by decide)⟩
    refine l_rd_step hE hS hs hk94 hn hi hf hC (a := 2) (j := 0) (by omega) (by decide) (lt := 97) rfl (fun e => prs_n1 hh (by rw [gA, if_pos c1.1]; exact e)) (fun b0 v0 e0 hb0 => ?_)
    refine l_rd_step hE hS hs hk94 hn hi hf (chm hC) (a := b0) (j := 1) (by omega) (by decide) (lt := 98) rfl (fun e => prs_n2 hh (by rw [gA, if_pos c1.1]; exact e0) (by rw [gB, if_pos c1.2.1]; exact e)) (fun b1 v1 e1 hb1 => ?_)
    refine l_rd_end hE hS hs hk94 hn hi hf (chm (chm hC)) (a := b1) (j := 2) (by omega) rfl (fun e => ⟨_, prs_ok hh (by rw [gA, if_pos c1.1]; exact e0) (by rw [gB, if_pos c1.2.1]; exact e1) (by rw [gC, if_neg c1.2.2]) e, ?_⟩) (fun e => prs_n4 hh (by rw [gA, if_pos c1.1]; exact e0) (by rw [gB, if_pos c1.2.1]; exact e1) (by rw [gC, if_neg c1.2.2]) e)
    refine ⟨by simp [fx_a, fx_b, fx_c, xup_at, h0], by simp [fx_a, fx_b, fx_c, xup_at, h1], fun z => ?_, fun z => ?_, fun z => ?_⟩
    · simp [fx_a, fx_b, fx_c, xup_at]
    · simp [fx_a, fx_b, fx_c, xup_at]
    · exact absurd z c1.2.2
  · have c1 : ¬ hP (f 0) ∧ hI (f 0) ∧ ¬ f 0 = 70 := ⟨fun z => absurd (c0.1.mp z) (by decide), c0.2.1.mpr (by decide), fun z => absurd (c0.2.2.mp z) (by decide)⟩
    refine l_rd_step hE hS hs hk94 hn hi hf hC (a := 2) (j := 0) (by omega) (by decide) (lt := 98) rfl (fun e => prs_n2 hh (by rw [gA, if_neg c1.1]) (by rw [gB, if_pos c1.2.1]; exact e)) (fun b0 v0 e0 hb0 => ?_)
    refine l_rd_end hE hS hs hk94 hn hi hf (chm hC) (a := b0) (j := 1) (by omega) rfl (fun e => ⟨_, prs_ok hh (by rw [gA, if_neg c1.1]) (by rw [gB, if_pos c1.2.1]; exact e0) (by rw [gC, if_neg c1.2.2]) e, ?_⟩) (fun e => prs_n4 hh (by rw [gA, if_neg c1.1]) (by rw [gB, if_pos c1.2.1]; exact e0) (by rw [gC, if_neg c1.2.2]) e)
    refine ⟨by simp [fx_a, fx_b, fx_c, xup_at, h0], by simp [fx_a, fx_b, fx_c, xup_at, h1], fun z => ?_, fun z => ?_, fun z => ?_⟩
    · exact absurd z c1.1
    · simp [fx_a, fx_b, fx_c, xup_at]
    · exact absurd z c1.2.2
  · have c1 : hP (f 0) ∧ ¬ hI (f 0) ∧ ¬ f 0 = 70 := ⟨c0.1.mpr (by decide), fun z => absurd (c0.2.1.mp z) (by decide), fun z => absurd (c0.2.2.mp z) (by decide)⟩
    refine l_rd_step hE hS hs hk94 hn hi hf hC (a := 2) (j := 0) (by omega) (by decide) (lt := 97) rfl (fun e => prs_n1 hh (by rw [gA, if_pos c1.1]; exact e)) (fun b0 v0 e0 hb0 => ?_)
    refine l_rd_end hE hS hs hk94 hn hi hf (chm hC) (a := b0) (j := 1) (by omega) rfl (fun e => ⟨_, prs_ok hh (by rw [gA, if_pos c1.1]; exact e0) (by rw [gB, if_neg c1.2.1]) (by rw [gC, if_neg c1.2.2]) e, ?_⟩) (fun e => prs_n4 hh (by rw [gA, if_pos c1.1]; exact e0) (by rw [gB, if_neg c1.2.1]) (by rw [gC, if_neg c1.2.2]) e)
    refine ⟨by simp [fx_a, fx_b, fx_c, xup_at, h0], by simp [fx_a, fx_b, fx_c, xup_at, h1], fun z => ?_, fun z => ?_, fun z => ?_⟩
    · simp [fx_a, fx_b, fx_c, xup_at]
    · exact absurd z c1.2.1
    · exact absurd z c1.2.2
  · have c1 : hP (f 0) ∧ ¬ hI (f 0) ∧ f 0 = 70 := ⟨c0.1.mpr (by decide), fun z => absurd (c0.2.1.mp z) (by decide), c0.2.2.mpr (by decide)⟩
    refine l_rd_step hE hS hs hk94 hn hi hf hC (a := 2) (j := 0) (by omega) (by decide) (lt := 97) rfl (fun e => prs_n1 hh (by rw [gA, if_pos c1.1]; exact e)) (fun b0 v0 e0 hb0 => ?_)
    refine l_rd_step hE hS hs hk94 hn hi hf (chm hC) (a := b0) (j := 1) (by omega) (by decide) (lt := 99) rfl (fun e => prs_n3 hh (by rw [gA, if_pos c1.1]; exact e0) (by rw [gB, if_neg c1.2.1]) (by rw [gC, if_pos c1.2.2]; exact e)) (fun b1 v1 e1 hb1 => ?_)
    refine l_rd_end hE hS hs hk94 hn hi hf (chm (chm hC)) (a := b1) (j := 2) (by omega) rfl (fun e => ⟨_, prs_ok hh (by rw [gA, if_pos c1.1]; exact e0) (by rw [gB, if_neg c1.2.1]) (by rw [gC, if_pos c1.2.2]; exact e1) e, ?_⟩) (fun e => prs_n4 hh (by rw [gA, if_pos c1.1]; exact e0) (by rw [gB, if_neg c1.2.1]) (by rw [gC, if_pos c1.2.2]; exact e1) e)
    refine ⟨by simp [fx_a, fx_b, fx_c, xup_at, h0], by simp [fx_a, fx_b, fx_c, xup_at, h1], fun z => ?_, fun z => ?_, fun z => ?_⟩
    · simp [fx_a, fx_b, fx_c, xup_at]
    · exact absurd z c1.2.1
    · exact ⟨by simp [fx_a, fx_b, fx_c, xup_at], by simp [fx_a, fx_b, fx_c, xup_at, h3]⟩
set_option maxHeartbeats 1000000 in
set_option maxRecDepth 20000 in
theorem c_read (X : xD) (Ex : State → Prop) (hE : xEs X false shA.length Ex) (μ : xM) {sk sv : Nat → Nat} {fm : Option Nat} (hS : ∀ s, Ex s → ExS X sk sv fm s) (k n : Nat) (hs : shA[k]? = some (shI 60)) (hk94 : ¬ SM k) (hn : n ≤ 60) {f : Nat → Int32} (hf : ∀ j, j < 60 → μ k j = f j) : Ct X Ex false yX3_read kX3_read (rmN 4) [.ref (X.2 + 94), .ref (X.2 + k), .int (nI n)] shA μ (fun r sh' μ' => shA = sh' ∧ Ch SM μ μ' ∧ ∃ x : Int32, r = some (.int x) ∧ ((x = 1 ∧ ∃ t, prs f n = some t ∧ MF μ' t) ∨ (x = 0 ∧ prs f n = none))) := by
  refine Ct.of (L0 := [some (.ref (X.2 + 94)), some (.ref (X.2 + k)), some (.int (nI n)), none, none, none]) (by decide) rfl (fun h => by cases h) (by simp [Value.category]) (Nat.le_of_ble_eq_true rfl) rfl (fun l => ?_)
  refine sx_aload_n (pc := 0) dX3_read_0 rfl rfl ?_
  refine sx_callV (pc := 1) (As := []) dX3_read_1 (c_forgetE X Ex hE μ) mX3_forget lm_X3_27 rfl s_Me rfl ⟨Nat.le_of_ble_eq_true rfl, Nat.le_of_ble_eq_true rfl⟩ ⟨Nat.le_of_ble_eq_true rfl, Nat.le_of_ble_eq_true rfl⟩ (Nat.le_of_ble_eq_true rfl) hE (fun r_1 sh1 μ1 h_1 => ?_)
  obtain ⟨rfl, rfl, k_1, e_1, e3_1⟩ := h_1
  refine sx_iload_n (pc := 4) dX3_read_4 rfl rfl ?_
  refine sx_iconst (pc := 5) (v := 2) dX3_read_5 (by decide) ?_
  refine sx_icmp_lt (pc := 6) (tgt := 15) dX3_read_6 (by decide) (fun c_6 => ?_) (fun c_6 => ?_)
  · have h_6t := c_6
    have hlt2 : ¬ 2 ≤ n := fun z => absurd h_6t (by rw [show (2 : Int32) = nI 2 from rfl, nI_ltI (by omega) (by omega)]; omega)
    refine sx_iconst (pc := 15) (v := 0) dX3_read_15 (by decide) ?_
    exact sx_iret (pc := 16) dX3_read_16 rfl rfl (Nat.zero_le _) (Nat.zero_le _) (⟨rfl, (Ch.trans (Ch.rf (S := SM)) k_1), _, rfl, Or.inr ⟨rfl, prs_n0 (fun z => hlt2 z.1)⟩⟩)
  · have h_6f := c_6
    have hn2 : 2 ≤ n := Nat.le_of_not_lt fun z => h_6f (nI_lt (a := n) (b := 2) z (by decide))
    refine sx_iload_n (pc := 9) dX3_read_9 rfl rfl ?_
    refine sx_aload_n (pc := 10) dX3_read_10 rfl rfl ?_
    refine sx_alen (pc := 11) (v := 60) dX3_read_11 hs rfl (by decide) ?_
    refine sx_icmp_le (pc := 12) (tgt := 17) dX3_read_12 (by decide) (fun c_12 => ?_) (fun c_12 => absurd (nI_le (b := 60) hn (by decide)) c_12)
    refine sx_aload_n (pc := 17) dX3_read_17 rfl rfl ?_
    refine sx_iconst (pc := 18) (v := 0) dX3_read_18 (by decide) ?_
    refine sx_iald (pc := 19) dX3_read_19 hs (by decide) rfl (by unfold vp_in; decide) ?_
    rw [show (0 : Int32).toNatClampNeg = 0 from rfl, show μ1 k 0 = f 0 from (congrFun ((Ch.trans (Ch.rf (S := SM)) k_1).1 k hk94) 0).trans (hf 0 (by omega))]
    refine sx_callS (pc := 20) (As := [.int (f 0)]) dX3_read_20 (c_fieldsOf X Ex hE μ1 hS _) mX3_fieldsOf lm_X3_30 rfl ⟨Nat.le_of_ble_eq_true rfl, Nat.le_of_ble_eq_true rfl⟩ ⟨Nat.le_of_ble_eq_true rfl, Nat.le_of_ble_eq_true rfl⟩ (Nat.le_of_ble_eq_true rfl) hE (fun r_20 sh1 μx h_20 => ?_)
    obtain ⟨rfl, rfl, h_20⟩ := h_20
    rcases h_20 with ⟨hK, rfl⟩ | ⟨i, hi, hK, rfl⟩
    · skip
      refine sx_astore_nN (pc := 23) (L' := [some (.ref (X.2 + 94)), some (.ref (X.2 + k)), some (.int (nI n)), some (.null), none, none]) dX3_read_23 rfl (by decide) rfl ?_
      refine sx_aload_nN (pc := 24) dX3_read_24 rfl rfl ?_
      refine sx_ifnullN (pc := 25) (tgt := 37) dX3_read_25 (by decide) ?_
      refine sx_iconst (pc := 37) (v := 0) dX3_read_37 (by decide) ?_
      exact sx_iret (pc := 38) dX3_read_38 rfl rfl (Nat.zero_le _) (Nat.zero_le _) (⟨rfl, (Ch.trans (Ch.rf (S := SM)) k_1), _, rfl, Or.inr ⟨rfl, prs_n0 (fun z => by first | exact fK_not hK z.2.1 | exact dq_f hx_31 h_34f z.2.2)⟩⟩)
    · skip
      refine sx_astore_n (pc := 23) (L' := [some (.ref (X.2 + 94)), some (.ref (X.2 + k)), some (.int (nI n)), some (.ref (sk i)), none, none]) dX3_read_23 rfl (by decide) rfl ?_
      refine sx_aload_n (pc := 24) dX3_read_24 rfl rfl ?_
      refine sx_ifnull (pc := 25) dX3_read_25 ?_
      refine sx_aload_n (pc := 28) dX3_read_28 rfl rfl ?_
      refine sx_iconst (pc := 29) (v := 1) dX3_read_29 (by decide) ?_
      refine sx_iald (pc := 30) dX3_read_30 hs (by decide) rfl (by unfold vp_in; decide) ?_
      rw [show (1 : Int32).toNatClampNeg = 1 from rfl, show μ1 k 1 = f 1 from (congrFun ((Ch.trans (Ch.rf (S := SM)) k_1).1 k hk94) 1).trans (hf 1 (by omega))]
      refine sx_callSN (host := "ExchangeWire") (pc := 31) (As := [.int (f 1)]) dX3_read_31 (c_isDigitE X Ex false shA μ1 _) mX5_isDigit (by decide +kernel) rfl ⟨Nat.le_of_ble_eq_true rfl, Nat.le_of_ble_eq_true rfl⟩ ⟨Nat.le_of_ble_eq_true rfl, Nat.le_of_ble_eq_true rfl⟩ (Nat.le_of_ble_eq_true rfl) hE (fun r_31 sh1 μ2 h_31 => ?_)
      obtain ⟨rfl, rfl, x_31, rfl, hx_31⟩ := h_31
      refine sx_if_ne (pc := 34) (tgt := 39) dX3_read_34 (by decide) (fun c_34 => ?_) (fun c_34 => ?_)
      · have h_34t := c_34
        refine sx_aload_n (pc := 39) dX3_read_39 rfl rfl ?_
        refine sx_aload_n (pc := 40) dX3_read_40 rfl rfl ?_
        refine sx_iconst (pc := 41) (v := 0) dX3_read_41 (by decide) ?_
        refine sx_iald (pc := 42) dX3_read_42 hs (by decide) rfl (by unfold vp_in; decide) ?_
        rw [show (0 : Int32).toNatClampNeg = 0 from rfl, show μ1 k 0 = f 0 from (congrFun ((Ch.trans (Ch.rf (S := SM)) k_1).1 k hk94) 0).trans (hf 0 (by omega))]
        refine sx_puti (pc := 43) (ci := 3) (j := 0) (ty := .int) dX3_read_43 rfl s_Me rfl (by decide) lf_X3_9 rfl (by decide +kernel) rfl rfl (fun μ3 hμ3 => ?_)
        refine sx_aload_n (pc := 46) dX3_read_46 rfl rfl ?_
        refine sx_aload_n (pc := 47) dX3_read_47 rfl rfl ?_
        refine sx_iconst (pc := 48) (v := 1) dX3_read_48 (by decide) ?_
        refine sx_iald (pc := 49) dX3_read_49 hs (by decide) rfl (by unfold vp_in; decide) ?_
        rw [show (1 : Int32).toNatClampNeg = 1 from rfl, show μ3 k 1 = f 1 from (congrFun ((Ch.put (Ch.trans (Ch.rf (S := SM)) k_1) hμ3 (by omega) (LB.off hμ3 ⟨by omega, fun _ _ => by omega⟩)).1 k hk94) 1).trans (hf 1 (by omega))]
        refine sx_bipush (pc := 50) (v := 48) dX3_read_50 (by decide) ?_
        refine sx_isub (pc := 52) dX3_read_52 ?_
        refine sx_puti (pc := 53) (ci := 3) (j := 1) (ty := .int) dX3_read_53 rfl s_Me rfl (by decide) lf_X3_15 rfl (by decide +kernel) rfl rfl (fun μ4 hμ4 => ?_)
        refine sx_iconst (pc := 56) (v := 2) dX3_read_56 (by decide) ?_
        refine sx_istore (pc := 57) (L' := [some (.ref (X.2 + 94)), some (.ref (X.2 + k)), some (.int (nI n)), some (.ref (sk i)), some (.int 2), none]) dX3_read_57 (by decide) rfl ?_
        refine sx_iconst (pc := 59) (v := 0) dX3_read_59 (by decide) ?_
        refine sx_istore (pc := 60) (L' := [some (.ref (X.2 + 94)), some (.ref (X.2 + k)), some (.int (nI n)), some (.ref (sk i)), some (.int 2), some (.int 0)]) dX3_read_60 (by decide) rfl ?_
        exact l_rd hE hS hs hk94 hn hi hf (Ch.put (Ch.put (Ch.trans (Ch.rf (S := SM)) k_1) hμ3 (by omega) (LB.off hμ3 ⟨by omega, fun _ _ => by omega⟩)) hμ4 (by omega) (LB.off hμ4 ⟨by omega, fun _ _ => by omega⟩)) hK ⟨hn2, fK_KS hK, dq_t hx_31 h_34t⟩ (by rw [hμ4, xup_at, if_neg (by omega), hμ3, xup_at, if_pos ⟨rfl, rfl⟩]) (by rw [hμ4, xup_at, if_pos ⟨rfl, rfl⟩]) (by rw [hμ4, xup_at, if_neg (by omega), hμ3, xup_at, if_neg (by omega)]; exact e3_1)
      · have h_34f := c_34
        refine sx_iconst (pc := 37) (v := 0) dX3_read_37 (by decide) ?_
        exact sx_iret (pc := 38) dX3_read_38 rfl rfl (Nat.zero_le _) (Nat.zero_le _) (⟨rfl, (Ch.trans (Ch.rf (S := SM)) k_1), _, rfl, Or.inr ⟨rfl, prs_n0 (fun z => by first | exact fK_not hK z.2.1 | exact dq_f hx_31 h_34f z.2.2)⟩⟩)
theorem ch_ne {i j : Nat} (hi : i < 5) (hj : j < sLen.getD i 0) : (sByt.getD i []).getD j 0 ≠ (-1) ∧ narrow .int (.int ((sByt.getD i []).getD j 0)) = .int ((sByt.getD i []).getD j 0) := by
  rcases (show (i = 1 ∧ j = 0) ∨ (i = 1 ∧ j = 1) ∨ (i = 2 ∧ j = 0) ∨ (i = 3 ∧ j = 0) ∨ (i = 4 ∧ j = 0) ∨ (i = 4 ∧ j = 1) by rcases (show i = 0 ∨ i = 1 ∨ i = 2 ∨ i = 3 ∨ i = 4 by omega) with rfl | rfl | rfl | rfl | rfl <;> simp at hj <;> omega) with ⟨rfl, rfl⟩ | ⟨rfl, rfl⟩ | ⟨rfl, rfl⟩ | ⟨rfl, rfl⟩ | ⟨rfl, rfl⟩ | ⟨rfl, rfl⟩ <;> exact ⟨by decide, rfl⟩
set_option maxHeartbeats 1000000 in
set_option maxRecDepth 20000 in
theorem l_fb {X : xD} {Ex : State → Prop} (hE : xEs X false shA.length Ex) {sk sv : Nat → Nat} {fm : Option Nat} (hS : ∀ s, Ex s → ExS X sk sv fm s) {l : Launch} {i : Nat} (hi : i < 5) {μ : xM} (hK : fK (μ 94 0) = some i) : ∀ (t j : Nat), sLen.getD i 0 - j ≤ t → j ≤ sLen.getD i 0 → (∀ j2, j2 < j → LC μ ((sByt.getD i []).getD j2 0)) → sx l (rmN 4) X Ex false kX3_firstBadField shA.length (xZ X false shA.length (fun r sh' μ' => shA = sh' ∧ μ = μ' ∧ ∃ x : Int32, r = some (.int x) ∧ ∀ i, fK (μ 94 0) = some i → ((x = (-1) ∧ GE μ i) ∨ (x ≠ (-1) ∧ ¬ GE μ i))) 0 0) 16 [some (.ref (X.2 + 94)), some (.ref (sk i)), some (.int (nI j))] [] shA μ 0 0 := by
  have hl3 : sLen.getD i 0 < 3 := by rcases (show i = 0 ∨ i = 1 ∨ i = 2 ∨ i = 3 ∨ i = 4 by omega) with rfl | rfl | rfl | rfl | rfl <;> decide
  intro t
  induction t with
  | zero =>
    intro j ht hj hG
    refine sx_iload_n (pc := 16) dX3_firstBadField_16 rfl rfl ?_
    refine sx_aload_n (pc := 17) dX3_firstBadField_17 rfl rfl ?_
    refine sx_callO (pc := 18) (As := []) dX3_firstBadField_18 (j_length X Ex false shA μ hE hS i hi) mJ0_length_8abf5 lm_X3_38 rfl (fun s h => ((hS s h).1.1 i hi).1) ⟨Nat.le_of_ble_eq_true rfl, Nat.le_of_ble_eq_true rfl⟩ ⟨Nat.le_of_ble_eq_true rfl, Nat.le_of_ble_eq_true rfl⟩ (Nat.le_of_ble_eq_true rfl) hE (fun r_18 sh1 μ1 h_18 => ?_)
    obtain ⟨rfl, rfl, rfl⟩ := h_18
    refine sx_icmp_ge (pc := 21) (tgt := 48) dX3_firstBadField_21 (by decide) (fun c_21 => ?_) (fun c_21 => absurd (nI_le (by omega) (by omega)) c_21)
    refine sx_iconst (pc := 48) (v := (-1)) dX3_firstBadField_48 (by decide) ?_
    exact sx_iret (pc := 49) dX3_firstBadField_49 rfl rfl (Nat.zero_le _) (Nat.zero_le _) (⟨rfl, rfl, _, rfl, fun i2 h2 => by rw [hK] at h2; cases h2; exact Or.inl ⟨rfl, fun j2 h2 => hG j2 (by omega)⟩⟩)
  | succ t ih =>
    intro j ht hj hG
    refine sx_iload_n (pc := 16) dX3_firstBadField_16 rfl rfl ?_
    refine sx_aload_n (pc := 17) dX3_firstBadField_17 rfl rfl ?_
    refine sx_callO (pc := 18) (As := []) dX3_firstBadField_18 (j_length X Ex false shA μ hE hS i hi) mJ0_length_8abf5 lm_X3_38 rfl (fun s h => ((hS s h).1.1 i hi).1) ⟨Nat.le_of_ble_eq_true rfl, Nat.le_of_ble_eq_true rfl⟩ ⟨Nat.le_of_ble_eq_true rfl, Nat.le_of_ble_eq_true rfl⟩ (Nat.le_of_ble_eq_true rfl) hE (fun r_18 sh1 μ1 h_18 => ?_)
    obtain ⟨rfl, rfl, rfl⟩ := h_18
    refine sx_icmp_ge (pc := 21) (tgt := 48) dX3_firstBadField_21 (by decide) (fun c_21 => ?_) (fun c_21 => ?_)
    · have h_21t := c_21
      have hge : sLen.getD i 0 ≤ j := Nat.le_of_not_lt fun z => absurd (nI_lt z (by omega)) (Int32.not_lt.mpr h_21t)
      refine sx_iconst (pc := 48) (v := (-1)) dX3_firstBadField_48 (by decide) ?_
      exact sx_iret (pc := 49) dX3_firstBadField_49 rfl rfl (Nat.zero_le _) (Nat.zero_le _) (⟨rfl, rfl, _, rfl, fun i2 h2 => by rw [hK] at h2; cases h2; exact Or.inl ⟨rfl, fun j2 h2 => hG j2 (by omega)⟩⟩)
    · have h_21f := c_21
      have hlt : j < sLen.getD i 0 := Nat.lt_of_not_le fun z => h_21f (nI_le z (by omega))
      refine sx_aload_n (pc := 24) dX3_firstBadField_24 rfl rfl ?_
      refine sx_aload_n (pc := 25) dX3_firstBadField_25 rfl rfl ?_
      refine sx_iload_n (pc := 26) dX3_firstBadField_26 rfl rfl ?_
      refine sx_callO (pc := 27) (As := [.int (nI j)]) dX3_firstBadField_27 (j_charAt X Ex false shA μ hE hS i hi j hlt) mJ0_charAt_5068e lm_X3_44 rfl (fun s h => ((hS s h).1.1 i hi).1) ⟨Nat.le_of_ble_eq_true rfl, Nat.le_of_ble_eq_true rfl⟩ ⟨Nat.le_of_ble_eq_true rfl, Nat.le_of_ble_eq_true rfl⟩ (Nat.le_of_ble_eq_true rfl) hE (fun r_27 sh1 μ2 h_27 => ?_)
      obtain ⟨rfl, rfl, rfl⟩ := h_27
      refine sx_callV (pc := 30) (As := [.int ((sByt.getD i []).getD j 0)]) dX3_firstBadField_30 (c_goodE X Ex hE μ _) mX3_isGoodField lm_X3_56 rfl s_Me rfl ⟨Nat.le_of_ble_eq_true rfl, Nat.le_of_ble_eq_true rfl⟩ ⟨Nat.le_of_ble_eq_true rfl, Nat.le_of_ble_eq_true rfl⟩ (Nat.le_of_ble_eq_true rfl) hE (fun r_30 sh1 μ3 h_30 => ?_)
      obtain ⟨rfl, rfl, x_30, rfl, hx_30⟩ := h_30
      refine sx_if_ne (pc := 33) (tgt := 42) dX3_firstBadField_33 (by decide) (fun c_33 => ?_) (fun c_33 => ?_)
      · have h_33t := c_33
        refine sx_iinc (pc := 42) (v := nI (j + 1)) (L' := [some (.ref (X.2 + 94)), some (.ref (sk i)), some (.int (nI (j + 1)))]) dX3_firstBadField_42 rfl (nI_1 j) (by decide) rfl ?_
        refine sx_goto (pc := 45) (tgt := 16) dX3_firstBadField_45 (by decide) ?_
        exact ih (j + 1) (by omega) (by omega) (fun j2 h2 => by rcases (show j2 < j ∨ j2 = j by omega) with q | rfl; exact hG j2 q; exact dq_t hx_30 h_33t)
      · have h_33f := c_33
        refine sx_aload_n (pc := 36) dX3_firstBadField_36 rfl rfl ?_
        refine sx_iload_n (pc := 37) dX3_firstBadField_37 rfl rfl ?_
        refine sx_callO (pc := 38) (As := [.int (nI j)]) dX3_firstBadField_38 (j_charAt X Ex false shA μ hE hS i hi j hlt) mJ0_charAt_5068e lm_X3_44 rfl (fun s h => ((hS s h).1.1 i hi).1) ⟨Nat.le_of_ble_eq_true rfl, Nat.le_of_ble_eq_true rfl⟩ ⟨Nat.le_of_ble_eq_true rfl, Nat.le_of_ble_eq_true rfl⟩ (Nat.le_of_ble_eq_true rfl) hE (fun r_38 sh1 μ4 h_38 => ?_)
        obtain ⟨rfl, rfl, rfl⟩ := h_38
        exact sx_iret (pc := 41) dX3_firstBadField_41 rfl (ch_ne hi hlt).2 (Nat.zero_le _) (Nat.zero_le _) (⟨rfl, rfl, _, rfl, fun i2 h2 => by rw [hK] at h2; cases h2; exact Or.inr ⟨(ch_ne hi hlt).1, fun z => dq_f hx_30 h_33f (z j hlt)⟩⟩)
set_option maxHeartbeats 1000000 in
set_option maxRecDepth 20000 in
theorem c_firstBad (X : xD) (Ex : State → Prop) (hE : xEs X false shA.length Ex) (μ : xM) {sk sv : Nat → Nat} {fm : Option Nat} (hS : ∀ s, Ex s → ExS X sk sv fm s) : Ct X Ex false yX3_firstBadField kX3_firstBadField (rmN 4) [.ref (X.2 + 94)] shA μ (fun r sh' μ' => shA = sh' ∧ μ = μ' ∧ ∃ x : Int32, r = some (.int x) ∧ ∀ i, fK (μ 94 0) = some i → ((x = (-1) ∧ GE μ i) ∨ (x ≠ (-1) ∧ ¬ GE μ i))) := by
  refine Ct.of (L0 := [some (.ref (X.2 + 94)), none, none]) (by decide) rfl (fun h => by cases h) (by simp [Value.category]) (Nat.le_of_ble_eq_true rfl) rfl (fun l => ?_)
  refine sx_aload_n (pc := 0) dX3_firstBadField_0 rfl rfl ?_
  refine sx_geti (pc := 1) (ci := 3) (j := 0) dX3_firstBadField_1 rfl s_Me rfl (by decide) lf_X3_9 ?_
  refine sx_callS (pc := 4) (As := [.int (μ 94 0)]) dX3_firstBadField_4 (c_fieldsOf X Ex hE μ hS _) mX3_fieldsOf lm_X3_30 rfl ⟨Nat.le_of_ble_eq_true rfl, Nat.le_of_ble_eq_true rfl⟩ ⟨Nat.le_of_ble_eq_true rfl, Nat.le_of_ble_eq_true rfl⟩ (Nat.le_of_ble_eq_true rfl) hE (fun r_4 sh1 μx h_4 => ?_)
  obtain ⟨rfl, rfl, h_4⟩ := h_4
  rcases h_4 with ⟨hK, rfl⟩ | ⟨i, hi, hK, rfl⟩
  · skip
    refine sx_astore_nN (pc := 7) (L' := [some (.ref (X.2 + 94)), some (.null), none]) dX3_firstBadField_7 rfl (by decide) rfl ?_
    refine sx_aload_nN (pc := 8) dX3_firstBadField_8 rfl rfl ?_
    refine sx_ifnonnullN (pc := 9) dX3_firstBadField_9 ?_
    refine sx_iconst (pc := 12) (v := (-1)) dX3_firstBadField_12 (by decide) ?_
    exact sx_iret (pc := 13) dX3_firstBadField_13 rfl rfl (Nat.zero_le _) (Nat.zero_le _) (⟨rfl, rfl, _, rfl, fun i hi => by rw [hK] at hi; cases hi⟩)
  · skip
    refine sx_astore_n (pc := 7) (L' := [some (.ref (X.2 + 94)), some (.ref (sk i)), none]) dX3_firstBadField_7 rfl (by decide) rfl ?_
    refine sx_aload_n (pc := 8) dX3_firstBadField_8 rfl rfl ?_
    refine sx_ifnonnull (pc := 9) (tgt := 14) dX3_firstBadField_9 (by decide) ?_
    refine sx_iconst (pc := 14) (v := 0) dX3_firstBadField_14 (by decide) ?_
    refine sx_istore_n (pc := 15) (L' := [some (.ref (X.2 + 94)), some (.ref (sk i)), some (.int 0)]) dX3_firstBadField_15 rfl (by decide) rfl ?_
    exact l_fb hE hS hi hK 2 0 (sl2 hi) (Nat.zero_le _) (fun j2 h2 => absurd h2 (Nat.not_lt_zero _))
