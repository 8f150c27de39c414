/-! The shape of all that the law makes: the class's 95 cells, the reference's 21, the law's own. -/
def rmN (r : Nat) : Room := { frames := r, cells := 0, slots := 0, locals := 30 * r }
abbrev rr (k : Nat) : Option (Option Nat) := some (some k)
def shI (n : Nat) : xS := .inr (1, n, none)
def shLine (k : Nat) : xS := .inl (2, [rr (k + 1), none, none, none, none, none, rr (k + 2), rr (k + 4), rr (k + 6), rr (k + 7), rr (k + 8), none])
def shReply (k : Nat) : xS := .inl (4, [rr (k + 1), none])
def shLines (k : Nat) : List xS := [shLine k, shI 60, shReply (k + 2), shI 13, shReply (k + 4), shI 13, shI 20, shI 20, shI 20]
def shC : List xS := [.inl (5, [rr 1, rr 56, rr 92, rr 94, none]), .inr (4, 6, some [some 2, some 11, some 20, some 29, some 38, some 47])] ++ shLines 2 ++ shLines 11 ++ shLines 20 ++ shLines 29 ++ shLines 38 ++ shLines 47
  ++ [.inl (0, [rr 57, rr 58, rr 59, rr 60, rr 91]), shI 30, shI 30, shI 30, .inr (5, 30, some ((List.range 30).map fun i => some (61 + i)))] ++ List.replicate 30 (shI 30) ++ [shI 30, .inl (1, [rr 93, none]), shI 5000, .inl (3, [none, none, none, none, none])]
def shMo : List xS := [.inl (6, [none, rr 96, rr 97, rr 98, rr 99, rr 100, rr 101, rr 102, rr 103, rr 104, rr 105, rr 106, rr 107, rr 108, rr 109, rr 110, rr 111, rr 112, rr 113, rr 114, none, rr 115, none, none, none, none, none, none, none, none]),
  shI 6, .inr (2, 360, none), .inr (3, 6, none), .inr (3, 6, none), shI 6, shI 6, shI 6, .inr (2, 180, none), shI 6, .inr (2, 180, none), shI 6, shI 120, shI 120, shI 120, shI 30, shI 30, shI 30, shI 30, shI 900, shI 5000]
def shA : List xS := shC ++ shMo ++ [.inr (0, 1, none)]
theorem sA_len : shA.length = 117 := by decide +kernel
theorem s_EW : shA[0]? = some (.inl (5, [rr 1, rr 56, rr 92, rr 94, none])) := by decide +kernel
theorem s_lines : shA[1]? = some (.inr (4, 6, some [some 2, some 11, some 20, some 29, some 38, some 47])) := by decide +kernel
theorem s_Line : ∀ d : Nat, d < 6 → shA[2 + 9 * d]? = some (shLine (2 + 9 * d)) := by
  intro d hd
  rcases (show d = 0 ∨ d = 1 ∨ d = 2 ∨ d = 3 ∨ d = 4 ∨ d = 5 by omega) with rfl | rfl | rfl | rfl | rfl | rfl <;> decide +kernel
theorem s_Lsg : ∀ d : Nat, d < 6 → shA[2 + 9 * d + 1]? = some (shI 60) := by
  intro d hd
  rcases (show d = 0 ∨ d = 1 ∨ d = 2 ∨ d = 3 ∨ d = 4 ∨ d = 5 by omega) with rfl | rfl | rfl | rfl | rfl | rfl <;> decide +kernel
theorem s_Lsh : ∀ d : Nat, d < 6 → shA[2 + 9 * d + 2]? = some (shReply (2 + 9 * d + 2)) ∧ shA[2 + 9 * d + 2 + 1]? = some (shI 13) := by
  intro d hd
  rcases (show d = 0 ∨ d = 1 ∨ d = 2 ∨ d = 3 ∨ d = 4 ∨ d = 5 by omega) with rfl | rfl | rfl | rfl | rfl | rfl <;> exact ⟨by decide +kernel, by decide +kernel⟩
theorem s_Lke : ∀ d : Nat, d < 6 → shA[2 + 9 * d + 4]? = some (shReply (2 + 9 * d + 4)) ∧ shA[2 + 9 * d + 4 + 1]? = some (shI 13) := by
  intro d hd
  rcases (show d = 0 ∨ d = 1 ∨ d = 2 ∨ d = 3 ∨ d = 4 ∨ d = 5 by omega) with rfl | rfl | rfl | rfl | rfl | rfl <;> exact ⟨by decide +kernel, by decide +kernel⟩
theorem s_Lrk : ∀ d : Nat, d < 6 → shA[2 + 9 * d + 6]? = some (shI 20) := by
  intro d hd
  rcases (show d = 0 ∨ d = 1 ∨ d = 2 ∨ d = 3 ∨ d = 4 ∨ d = 5 by omega) with rfl | rfl | rfl | rfl | rfl | rfl <;> decide +kernel
theorem s_Lri : ∀ d : Nat, d < 6 → shA[2 + 9 * d + 7]? = some (shI 20) := by
  intro d hd
  rcases (show d = 0 ∨ d = 1 ∨ d = 2 ∨ d = 3 ∨ d = 4 ∨ d = 5 by omega) with rfl | rfl | rfl | rfl | rfl | rfl <;> decide +kernel
theorem s_Lrp : ∀ d : Nat, d < 6 → shA[2 + 9 * d + 8]? = some (shI 20) := by
  intro d hd
  rcases (show d = 0 ∨ d = 1 ∨ d = 2 ∨ d = 3 ∨ d = 4 ∨ d = 5 by omega) with rfl | rfl | rfl | rfl | rfl | rfl <;> decide +kernel
theorem s_Ho : shA[56]? = some (.inl (0, [rr 57, rr 58, rr 59, rr 60, rr 91])) := by decide +kernel
theorem s_debts : shA[57]? = some (shI 30) := by decide +kernel
theorem s_borr : shA[58]? = some (shI 30) := by decide +kernel
theorem s_rene : shA[59]? = some (shI 30) := by decide +kernel
theorem s_queues : shA[60]? = some (.inr (5, 30, some ((List.range 30).map fun i => some (61 + i)))) := by decide +kernel
theorem s_qrow : ∀ i : Nat, i < 30 → shA[61 + i]? = some (shI 30) := by
  intro i hi
  rcases (show i = 0 ∨ i = 1 ∨ i = 2 ∨ i = 3 ∨ i = 4 ∨ i = 5 ∨ i = 6 ∨ i = 7 ∨ i = 8 ∨ i = 9 ∨ i = 10 ∨ i = 11 ∨ i = 12 ∨ i = 13 ∨ i = 14 ∨ i = 15 ∨ i = 16 ∨ i = 17 ∨ i = 18 ∨ i = 19 ∨ i = 20 ∨ i = 21 ∨ i = 22 ∨ i = 23 ∨ i = 24 ∨ i = 25 ∨ i = 26 ∨ i = 27 ∨ i = 28 ∨ i = 29 by omega) with rfl | rfl | rfl | rfl | rfl | rfl | rfl | rfl | rfl | rfl | rfl | rfl | rfl | rfl | rfl | rfl | rfl | rfl | rfl | rfl | rfl | rfl | rfl | rfl | rfl | rfl | rfl | rfl | rfl | rfl <;> decide +kernel
theorem s_qlen : shA[91]? = some (shI 30) := by decide +kernel
theorem s_Jo : shA[92]? = some (.inl (1, [rr 93, none])) := by decide +kernel
theorem s_parts : shA[93]? = some (shI 5000) := by decide +kernel
theorem s_Me : shA[94]? = some (.inl (3, [none, none, none, none, none])) := by decide +kernel
abbrev flMo : List (Option (Option Nat)) := [none, rr 96, rr 97, rr 98, rr 99, rr 100, rr 101, rr 102, rr 103, rr 104, rr 105, rr 106, rr 107, rr 108, rr 109, rr 110, rr 111, rr 112, rr 113, rr 114, none, rr 115, none, none, none, none, none, none, none, none]
theorem s_Mo : shA[95]? = some (.inl (6, flMo)) := by decide +kernel
theorem s_M1 : shA[96]? = some (shI 6) := by decide +kernel
theorem s_M2 : shA[97]? = some (.inr (2, 360, none)) := by decide +kernel
theorem s_M3 : shA[98]? = some (.inr (3, 6, none)) := by decide +kernel
theorem s_M4 : shA[99]? = some (.inr (3, 6, none)) := by decide +kernel
theorem s_M5 : shA[100]? = some (shI 6) := by decide +kernel
theorem s_M6 : shA[101]? = some (shI 6) := by decide +kernel
theorem s_M7 : shA[102]? = some (shI 6) := by decide +kernel
theorem s_M8 : shA[103]? = some (.inr (2, 180, none)) := by decide +kernel
theorem s_M9 : shA[104]? = some (shI 6) := by decide +kernel
theorem s_M10 : shA[105]? = some (.inr (2, 180, none)) := by decide +kernel
theorem s_M11 : shA[106]? = some (shI 6) := by decide +kernel
theorem s_M12 : shA[107]? = some (shI 120) := by decide +kernel
theorem s_M13 : shA[108]? = some (shI 120) := by decide +kernel
theorem s_M14 : shA[109]? = some (shI 120) := by decide +kernel
theorem s_M15 : shA[110]? = some (shI 30) := by decide +kernel
theorem s_M16 : shA[111]? = some (shI 30) := by decide +kernel
theorem s_M17 : shA[112]? = some (shI 30) := by decide +kernel
theorem s_M18 : shA[113]? = some (shI 30) := by decide +kernel
theorem s_M19 : shA[114]? = some (shI 900) := by decide +kernel
theorem s_M21 : shA[115]? = some (shI 5000) := by decide +kernel
theorem s_out : shA[116]? = some (.inr (0, 1, none)) := by decide +kernel
/-- the method's end: the shape stays -/
abbrev Fx (μ : xM) (Q : Option Value → xM → Prop) : Option Value → List xS → xM → Prop := fun r sh' μ' => sh' = shA ∧ Q r μ'
