/-! the house -/
theorem inc30 {x : Int32} (h : 0 ≤ x ∧ x < 30) : 0 ≤ x + 1 ∧ x + 1 ≤ 30 := by
  obtain ⟨j, hj, rfl⟩ := nI_of (Int32.not_lt.mpr h.1)
  have h1 := h.2
  rw [show (30 : Int32) = nI 30 from rfl, nI_ltI (by omega) (by omega)] at h1
  rw [nI_1, show (30 : Int32) = nI 30 from rfl, nI_leI (by omega) (by omega)]
  exact ⟨nI_pos' (by omega), by omega⟩
theorem qlen_nat {μ : xM} (hL : LB μ) {i : Nat} (hi : i < 30) : ∃ q, q ≤ 30 ∧ μ 91 i = nI q := by
  obtain ⟨j, hj, e⟩ := nI_of2 (x := μ 91 i) (M := 30) (n := 30) rfl (Int32.not_lt.mpr (hL.2 i hi).1) (hL.2 i hi).2
  exact ⟨j, hj, e⟩
theorem lk5 (w : Int32) : w = 66 ∨ w = 67 ∨ w = 70 ∨ w = 72 ∨ w = 82 ∨ (¬ w = 66 ∧ ¬ w = 67 ∧ ¬ w = 70 ∧ ¬ w = 72 ∧ ¬ w = 82) := by
  by_cases h1 : w = 66
  · simp [h1]
  by_cases h2 : w = 67
  · simp [h2]
  by_cases h3 : w = 70
  · simp [h3]
  by_cases h4 : w = 72
  · simp [h4]
  by_cases h5 : w = 82
  · simp [h5]
  simp [h1, h2, h3, h4, h5]
theorem sw17 (w : Int32) : w = 66 ∨ w = 67 ∨ w = 68 ∨ w = 69 ∨ w = 70 ∨ w = 71 ∨ w = 72 ∨ w = 73 ∨ w = 74 ∨ w = 75 ∨ w = 76 ∨ w = 77 ∨ w = 78 ∨ w = 79 ∨ w = 80 ∨ w = 81 ∨ w = 82 ∨ (w.toInt < 66 ∨ 82 < w.toInt) := by
  have h := sw18 w
  rcases h with rfl | rfl | rfl | rfl | rfl | rfl | rfl | rfl | rfl | rfl | rfl | rfl | rfl | rfl | rfl | rfl | rfl | rfl | h
  iterate 17 (first | decide | skip)
  · decide
  · have h2 : w.toInt < 66 ∨ 82 < w.toInt := by omega
    simp [h2]
/-! the house as a pure state: owes, lent, renewed, waiting, waits, acts, their rows -/
abbrev HT : Type := (Nat → Int32) × (Nat → Int32) × (Nat → Int32) × (Nat → Int32) × (Nat → Int32) × Int32 × (Nat → Int32)
abbrev vO (h : HT) : Nat → Int32 := h.1
abbrev vL (h : HT) : Nat → Int32 := h.2.1
abbrev vR (h : HT) : Nat → Int32 := h.2.2.1
abbrev vW (h : HT) : Nat → Int32 := h.2.2.2.1
abbrev vQ (h : HT) : Nat → Int32 := h.2.2.2.2.1
abbrev vA (h : HT) : Int32 := h.2.2.2.2.2.1
abbrev vJ (h : HT) : Nat → Int32 := h.2.2.2.2.2.2
def ent (h : HT) (dv n k i p : Int32) : HT := (vO h, vL h, vR h, vW h, vQ h, vA h + 1, if vA h < 1000 then upd (upd (upd (upd (upd (vJ h) (5 * vA h).toNatClampNeg dv) (5 * vA h + 1).toNatClampNeg k) (5 * vA h + 2).toNatClampNeg i) (5 * vA h + 3).toNatClampNeg p) (5 * vA h + 4).toNatClampNeg n else vJ h)
def shf (w : Nat → Int32) (i q : Nat) : Nat → Int32 := fun b => if 30 * i ≤ b ∧ b < 30 * i + q then w (b + 1) else w b
abbrev oC (h : HT) (i p : Nat) : Prop := vL h i = 0 ∧ (vW h i = 0 ∨ vQ h (30 * i) = nI p) ∧ vO h p ≤ 500
def tC (h : HT) (i p : Nat) : HT := (vO h, upd (vL h) i (nI p + 1), upd (vR h) i 0, if vW h i = 0 then vW h else upd (vW h) i (vW h i - 1), if vW h i = 0 then vQ h else shf (vQ h) i ((vW h i).toNatClampNeg - 1), vA h, vJ h)
abbrev oB (h : HT) (i : Nat) : Prop := 0 < vL h i
def tB (h : HT) (i : Nat) : HT := (vO h, upd (vL h) i 0, upd (vR h) i 0, vW h, vQ h, vA h, vJ h)
abbrev oF (h : HT) (p : Nat) (c : Int32) : Prop := c ≤ vO h p
def tF (h : HT) (p : Nat) (c : Int32) : HT := (upd (vO h) p (vO h p - c), vL h, vR h, vW h, vQ h, vA h, vJ h)
abbrev oH (h : HT) (i p : Nat) : Prop := 0 < vL h i ∧ ¬ vL h i = nI p + 1 ∧ ∀ a, a < (vW h i).toNatClampNeg → ¬ vQ h (30 * i + a) = nI p
def tH (h : HT) (i p : Nat) : HT := (vO h, vL h, vR h, upd (vW h) i (vW h i + 1), upd (vQ h) (30 * i + (vW h i).toNatClampNeg) (nI p), vA h, vJ h)
abbrev oR (h : HT) (i p : Nat) : Prop := vL h i = nI p + 1 ∧ vW h i = 0 ∧ vR h i < 2
def tR (h : HT) (i p : Nat) : HT := (vO h, vL h, upd (vR h) i (vR h i + 1), vW h, vQ h, vA h, vJ h)
def vdc (h : HT) (k : Int32) (i p : Nat) (c : Int32) : Prop := if k = 67 then oC h i p else if k = 66 then oB h i else if k = 70 then oF h p c else if k = 72 then oH h i p else if k = 82 then oR h i p else True
def chg (h : HT) (k : Int32) (i p : Nat) (c : Int32) : HT := if k = 67 then tC h i p else if k = 66 then tB h i else if k = 70 then tF h p c else if k = 72 then tH h i p else if k = 82 then tR h i p else h
def sC (h : HT) (dv n : Int32) (i p : Nat) : HT := if oC h i p then ent (tC h i p) dv n 67 (nI i) (nI p) else h
def sB (h : HT) (dv n : Int32) (i : Nat) : HT := if oB h i then ent (tB h i) dv n 66 (nI i) (vL h i - 1) else h
def sF (h : HT) (dv n : Int32) (p : Nat) (c : Int32) : HT := if oF h p c then ent (tF h p c) dv n 70 (-1) (nI p) else h
def sH (h : HT) (dv n : Int32) (i p : Nat) : HT := if oH h i p then ent (tH h i p) dv n 72 (nI i) (nI p) else h
def sR (h : HT) (dv n : Int32) (i p : Nat) : HT := if oR h i p then ent (tR h i p) dv n 82 (nI i) (nI p) else h
def jud (h : HT) (dv n k : Int32) (i p : Nat) (c : Int32) : HT := if k = 67 then sC h dv n i p else if k = 66 then sB h dv n i else if k = 70 then sF h dv n p c else if k = 72 then sH h dv n i p else if k = 82 then sR h dv n i p else h
def WI (f : Nat → Int32) (i q : Nat) : Prop := (∀ a, a < q → 0 ≤ f (30 * i + a) ∧ f (30 * i + a) < 30) ∧ ∀ a b, a < b → b < q → f (30 * i + a) ≠ f (30 * i + b)
def HW (n : Nat) (h : HT) : Prop := (∀ i, i < 30 → (∃ q, q ≤ 30 ∧ vW h i = nI q ∧ WI (vQ h) i q) ∧ ∃ l, l ≤ 30 ∧ vL h i = nI l) ∧ ∃ k, k ≤ n ∧ vA h = nI k
theorem noinj : ∀ (n : Nat) (g : Nat → Nat), (∀ a, a < n + 1 → g a < n) → ∃ a b, a < b ∧ b < n + 1 ∧ g a = g b := by
  intro n
  induction n with
  | zero => intro g h; exact absurd (h 0 (by omega)) (Nat.not_lt_zero _)
  | succ n ih =>
    intro g h
    by_cases hx : ∃ a, a < n + 1 ∧ g a = g (n + 1)
    · obtain ⟨a, ha, e⟩ := hx
      exact ⟨a, n + 1, ha, by omega, e⟩
    · have hne : ∀ a, a < n + 1 → g a ≠ g (n + 1) := fun a ha e => hx ⟨a, ha, e⟩
      have hm := h (n + 1) (by omega)
      obtain ⟨a, b, h1, h2, h3⟩ := ih (fun a => if g (n + 1) < g a then g a - 1 else g a) (fun a ha => by
        have h4 := h a (by omega)
        have h5 := hne a ha
        show (if g (n + 1) < g a then g a - 1 else g a) < n
        split <;> omega)
      refine ⟨a, b, h1, by omega, ?_⟩
      have h4 := hne a (by omega)
      have h5 := hne b h2
      have h3 : (if g (n + 1) < g a then g a - 1 else g a) = (if g (n + 1) < g b then g b - 1 else g b) := h3
      split at h3 <;> split at h3 <;> omega
theorem pig {f : Nat → Int32} {i q : Nat} (h : WI f i q) (hq : q ≤ 30) {p : Nat} (hp : p < 30) (hn : ∀ a, a < q → f (30 * i + a) ≠ nI p) : q < 30 := by
  refine Nat.lt_of_not_le fun h30 => ?_
  have hq30 : q = 30 := by omega
  subst hq30
  have hv : ∀ a, a < 30 → (f (30 * i + a)).toNatClampNeg < 30 ∧ f (30 * i + a) = nI (f (30 * i + a)).toNatClampNeg := fun a ha => by
    have h1 := h.1 a ha
    have h2 := clamp_lt (n := 30) h1.1 h1.2 (by decide)
    obtain ⟨j, hj, e⟩ := nI_of (Int32.not_lt.mpr h1.1)
    rw [e] at h2 ⊢
    rw [nI_clamp hj] at h2 ⊢
    exact ⟨h2, rfl⟩
  obtain ⟨a, b, h1, h2, h3⟩ := noinj 30 (fun a => if a < 30 then (f (30 * i + a)).toNatClampNeg else p) (fun a ha => by
    show (if a < 30 then _ else p) < 30
    split
    · exact (hv a (by assumption)).1
    · exact hp)
  have h3 : (if a < 30 then (f (30 * i + a)).toNatClampNeg else p) = (if b < 30 then (f (30 * i + b)).toNatClampNeg else p) := h3
  rw [if_pos (by omega)] at h3
  by_cases hb : b < 30
  · rw [if_pos hb] at h3
    refine h.2 a b h1 hb ?_
    rw [(hv a (by omega)).2, (hv b hb).2, h3]
  · rw [if_neg hb] at h3
    refine hn a (by omega) ?_
    rw [(hv a (by omega)).2, h3]
theorem HW.mono {n m : Nat} {h : HT} (hw : HW n h) (hm : n ≤ m) : HW m h := by
  obtain ⟨k, h1, h2⟩ := hw.2
  exact ⟨hw.1, k, by omega, h2⟩
theorem hw_ent {n : Nat} {h : HT} (hw : HW n h) (dv m k i p : Int32) : HW (n + 1) (ent h dv m k i p) := by
  obtain ⟨c, h1, h2⟩ := hw.2
  refine ⟨hw.1, c + 1, by omega, ?_⟩
  show vA h + 1 = nI (c + 1)
  rw [h2, nI_1]
theorem upd_at (f : Nat → Int32) (i : Nat) (v : Int32) (j : Nat) : upd f i v j = if j = i then v else f j := by
  by_cases q : j = i
  · rw [q, pk_us, if_pos rfl]
  · rw [pk_un q, if_neg q]
theorem hw_C {n : Nat} {h : HT} (hw : HW n h) {i p : Nat} (hi : i < 30) (hp : p < 30) : HW n (tC h i p) := by
  refine ⟨fun e he => ⟨?_, ?_⟩, hw.2⟩
  · obtain ⟨q, hq, eq, wi⟩ := (hw.1 e he).1
    obtain ⟨q0, hq0, eq0, wi0⟩ := (hw.1 i hi).1
    show ∃ q, q ≤ 30 ∧ (if vW h i = 0 then vW h else upd (vW h) i (vW h i - 1)) e = nI q ∧ WI (if vW h i = 0 then vQ h else shf (vQ h) i ((vW h i).toNatClampNeg - 1)) e q
    by_cases z : vW h i = 0
    · rw [if_pos z, if_pos z]; exact ⟨q, hq, eq, wi⟩
    · rw [if_neg z, if_neg z]
      have q1 : 1 ≤ q0 := Nat.pos_of_ne_zero fun y => z (by rw [eq0, y]; rfl)
      have ec : (vW h i).toNatClampNeg = q0 := by rw [eq0, nI_clamp (by omega)]
      rw [ec]
      by_cases y : e = i
      · subst y
        refine ⟨q0 - 1, by omega, by rw [upd_at, if_pos rfl, eq0, show (1 : Int32) = nI 1 from rfl, pk_sub q1], fun a ha => ?_, fun a b hab hb => ?_⟩
        · unfold shf; rw [if_pos (by omega)]
          exact wi0.1 (a + 1) (by omega)
        · unfold shf; rw [if_pos (by omega), if_pos (by omega)]
          exact wi0.2 (a + 1) (b + 1) (by omega) (by omega)
      · refine ⟨q, hq, by rw [upd_at, if_neg y]; exact eq, fun a ha => ?_, fun a b hab hb => ?_⟩
        · unfold shf; rw [if_neg (by omega)]; exact wi.1 a ha
        · unfold shf; rw [if_neg (by omega), if_neg (by omega)]; exact wi.2 a b hab hb
  · show ∃ l, l ≤ 30 ∧ upd (vL h) i (nI p + 1) e = nI l
    rw [upd_at]
    split
    · exact ⟨p + 1, by omega, by rw [nI_1]⟩
    · exact (hw.1 e he).2
theorem hw_B {n : Nat} {h : HT} (hw : HW n h) (i : Nat) : HW n (tB h i) := by
  refine ⟨fun e he => ⟨(hw.1 e he).1, ?_⟩, hw.2⟩
  show ∃ l, l ≤ 30 ∧ upd (vL h) i 0 e = nI l
  rw [upd_at]
  split
  · exact ⟨0, by omega, rfl⟩
  · exact (hw.1 e he).2
theorem hw_F {n : Nat} {h : HT} (hw : HW n h) (p : Nat) (c : Int32) : HW n (tF h p c) := hw
theorem hw_R {n : Nat} {h : HT} (hw : HW n h) (i p : Nat) : HW n (tR h i p) := hw
theorem hw_H {n : Nat} {h : HT} (hw : HW n h) {i p : Nat} (hi : i < 30) (hp : p < 30) (ho : oH h i p) : HW n (tH h i p) := by
  refine ⟨fun e he => ⟨?_, (hw.1 e he).2⟩, hw.2⟩
  obtain ⟨q, hq, eq, wi⟩ := (hw.1 e he).1
  obtain ⟨q0, hq0, eq0, wi0⟩ := (hw.1 i hi).1
  have ec : (vW h i).toNatClampNeg = q0 := by rw [eq0, nI_clamp (by omega)]
  have hn : ∀ a, a < q0 → vQ h (30 * i + a) ≠ nI p := fun a ha => ho.2.2 a (by rw [ec]; exact ha)
  have h30 := pig wi0 hq0 hp hn
  show ∃ q, q ≤ 30 ∧ upd (vW h) i (vW h i + 1) e = nI q ∧ WI (upd (vQ h) (30 * i + (vW h i).toNatClampNeg) (nI p)) e q
  rw [ec]
  by_cases y : e = i
  · subst y
    refine ⟨q0 + 1, by omega, by rw [upd_at, if_pos rfl, eq0, nI_1], fun a ha => ?_, fun a b hab hb => ?_⟩
    · rw [upd_at]
      split
      · exact ⟨nI_pos' (by omega), nI_lt (b := 30) hp (by decide)⟩
      · exact wi0.1 a (by omega)
    · rw [upd_at, upd_at, if_neg (by omega)]
      split
      · exact hn a (by omega)
      · exact wi0.2 a b hab (by omega)
  · refine ⟨q, hq, by rw [upd_at, if_neg y]; exact eq, fun a ha => ?_, fun a b hab hb => ?_⟩
    · rw [upd_at, if_neg (by omega)]; exact wi.1 a ha
    · rw [upd_at, upd_at, if_neg (by omega), if_neg (by omega)]; exact wi.2 a b hab hb
theorem hw_jud {n : Nat} {h : HT} (hw : HW n h) (dv m k : Int32) {i p : Nat} (hi : hI k → i < 30) (hp : hP k → p < 30) (c : Int32) : HW (n + 1) (jud h dv m k i p c) := by
  unfold jud
  split
  · rename_i e; subst e
    unfold sC
    split
    · exact hw_ent (hw_C hw (hi (by decide)) (hp (by decide))) _ _ _ _ _
    · exact hw.mono (by omega)
  split
  · rename_i e; subst e
    unfold sB
    split
    · exact hw_ent (hw_B hw _) _ _ _ _ _
    · exact hw.mono (by omega)
  split
  · unfold sF
    split
    · exact hw_ent (hw_F hw _ _) _ _ _ _ _
    · exact hw.mono (by omega)
  split
  · rename_i e; subst e
    unfold sH
    split
    · rename_i ho
      exact hw_ent (hw_H hw (hi (by decide)) (hp (by decide)) ho) _ _ _ _ _
    · exact hw.mono (by omega)
  split
  · unfold sR
    split
    · exact hw_ent (hw_R hw _ _) _ _ _ _ _
    · exact hw.mono (by omega)
  · exact hw.mono (by omega)
/-! the class's house against the pure one -/
def Hx (μ : xM) (h : HT) : Prop := ∀ i, i < 30 → μ 57 i = vO h i ∧ μ 58 i + 1 = vL h i ∧ (vL h i ≠ 0 → μ 59 i = vR h i) ∧ μ 91 i = vW h i ∧ ∀ j, j < 30 → μ (61 + i) j = vQ h (30 * i + j)
def Jx (μ : xM) (h : HT) : Prop := μ 92 1 = vA h ∧ ∀ j, j < 5000 → μ 93 j = vJ h j
theorem Hx.same {μ μ' : xM} {h : HT} (hx : Hx μ h) (k : ∀ a, 57 ≤ a → a ≤ 91 → μ' a = μ a) : Hx μ' h := fun i hi => by
  have z := hx i hi
  rw [k 57 (by omega) (by omega), k 58 (by omega) (by omega), k 59 (by omega) (by omega), k 91 (by omega) (by omega), k (61 + i) (by omega) (by omega)]
  exact z
theorem Jx.same {μ μ' : xM} {h : HT} (hx : Jx μ h) (k1 : μ' 92 = μ 92) (k2 : μ' 93 = μ 93) : Jx μ' h := by
  unfold Jx; rw [k1, k2]; exact hx
theorem nI_cl {x : Int32} (h : 0 ≤ x ∧ x < 30) : nI x.toNatClampNeg = x := by
  obtain ⟨j, hj, rfl⟩ := nI_of (Int32.not_lt.mpr h.1)
  rw [nI_clamp hj]
theorem m1_iff {x y : Int32} (h : x + 1 = y) : x = (-1) ↔ y = 0 := by
  subst h
  constructor
  · intro q; rw [q]; decide
  · intro q
    have : x = x + 1 - 1 := by simp
    rw [this, q]; decide
theorem p1_iff {x y z : Int32} (h : x + 1 = y) : x = z ↔ y = z + 1 := by
  subst h
  constructor
  · intro q; rw [q]
  · intro q
    have e1 : x = x + 1 - 1 := by simp
    have e2 : z = z + 1 - 1 := by simp
    rw [e1, q, ← e2]
theorem nz_pos {x : Int32} {l : Nat} (hl : l ≤ 30) (h : x = nI l) : 0 < x ↔ ¬ x = 0 := by
  rw [h, show (0 : Int32) = nI 0 from rfl, nI_ltI (by decide) (by omega), nI_eq (by omega) (by decide)]
  omega
set_option maxHeartbeats 1000000 in
set_option maxRecDepth 20000 in
theorem l_drop_end {X : xD} {Ex : State → Prop} {l : Launch} {it : Int32} (ht : 0 ≤ it ∧ it < 30) {q : Nat} (hq : q ≤ 30) (hq0 : 0 < q) {μ0 : xM} {μ : xM} (hμq : μ 91 it.toNatClampNeg = nI q) (hC : Ch SH μ0 μ) (hO : ∀ a, a ≠ 61 + it.toNatClampNeg → μ a = μ0 a) (hS : ∀ b, μ (61 + it.toNatClampNeg) b = if b + 1 < q then μ0 (61 + it.toNatClampNeg) (b + 1) else μ0 (61 + it.toNatClampNeg) b) (j : Int32) : sx l (rmN 0) X Ex false kX0_dropFirst shA.length (xZ X false shA.length (fun r sh' μ' => shA = sh' ∧ r = none ∧ Ch SH μ0 μ' ∧ (∀ a, a ≠ 91 → a ≠ 61 + it.toNatClampNeg → μ' a = μ0 a) ∧ (∀ b, μ' 91 b = if q ≠ 0 ∧ b = it.toNatClampNeg then nI (q - 1) else μ0 91 b) ∧ ∀ b, μ' (61 + it.toNatClampNeg) b = if b + 1 < q then μ0 (61 + it.toNatClampNeg) (b + 1) else μ0 (61 + it.toNatClampNeg) b) 0 0) 46 [some (.ref (X.2 + 56)), some (.int it), some (.int j)] [] shA μ 0 0 := by
  have hi := clamp_lt (n := 30) ht.1 ht.2 (by decide)
  refine sx_aload_n (pc := 46) dX0_dropFirst_46 rfl rfl ?_
  refine sx_getr (pc := 47) (ci := 0) (j := 4) (r := 91) dX0_dropFirst_47 rfl s_Ho rfl (by decide) lf_X0_26 ?_
  refine sx_iload_n (pc := 50) dX0_dropFirst_50 rfl rfl ?_
  refine sx_dup2 (pc := 51) dX0_dropFirst_51 rfl rfl ?_
  refine sx_iald (pc := 52) dX0_dropFirst_52 s_qlen (by decide) rfl (vp_in_lt (n := 30) ht.1 ht.2 (by decide)) ?_
  refine sx_iconst (pc := 53) (v := 1) dX0_dropFirst_53 (by decide) ?_
  refine sx_isub (pc := 54) dX0_dropFirst_54 ?_
  refine sx_iast (pc := 55) dX0_dropFirst_55 s_qlen (by decide) rfl (vp_in_lt (n := 30) ht.1 ht.2 (by decide)) (fun μ1 hμ1 => ?_)
  exact sx_vret (pc := 56) dX0_dropFirst_56 rfl (Nat.zero_le _) (Nat.zero_le _) (⟨rfl, rfl, (Ch.put hC hμ1 (by omega) (LB.qln hμ1 (fun _ => by rw [hμq, show (1 : Int32) = nI 1 from rfl, pk_sub hq0]; exact ⟨nI_pos' (by omega), nI_le (b := 30) (by omega) (by decide)⟩))), fun a a1 a2 => by rw [hμ1]; funext b; rw [xup_at, if_neg (fun z => a1 z.1)]; exact congrFun (hO a a2) b, fun b => by rw [hμ1, xup_at, hμq, show (1 : Int32) = nI 1 from rfl, pk_sub hq0, hO 91 (by omega)]; by_cases y : b = it.toNatClampNeg; (rw [if_pos ⟨rfl, y⟩, if_pos ⟨by omega, y⟩]); (rw [if_neg (fun z => y z.2), if_neg (fun z => y z.2)]), fun b => by rw [hμ1, xup_at, if_neg (by omega)]; exact hS b⟩)
theorem dsh_step {μ μ0 μ2 : xM} {c j : Nat} (hj : 1 ≤ j) (hS : ∀ b, μ c b = if b + 1 < j then μ0 c (b + 1) else μ0 c b) (e : μ2 = xup μ c (j - 1) (μ c j)) : ∀ b, μ2 c b = if b + 1 < j + 1 then μ0 c (b + 1) else μ0 c b := by
  intro b
  rw [e, xup_at]
  by_cases hb : b = j - 1
  · rw [if_pos ⟨rfl, hb⟩, if_pos (by omega), hS, if_neg (by omega), hb, show j - 1 + 1 = j by omega]
  · rw [if_neg (fun z => hb z.2), hS]
    by_cases h2 : b + 1 < j
    · rw [if_pos h2, if_pos (by omega)]
    · rw [if_neg h2, if_neg (by omega)]
set_option maxHeartbeats 1000000 in
set_option maxRecDepth 20000 in
theorem l_drop {X : xD} {Ex : State → Prop} {l : Launch} {it : Int32} (ht : 0 ≤ it ∧ it < 30) {q : Nat} (hq : q ≤ 30) (hq0 : 0 < q) {μ0 : xM} : ∀ (t j : Nat) (μ : xM), q - j ≤ t → 1 ≤ j → j ≤ q → μ 91 it.toNatClampNeg = nI q → Ch SH μ0 μ → (∀ a, a ≠ 61 + it.toNatClampNeg → μ a = μ0 a) → (∀ b, μ (61 + it.toNatClampNeg) b = if b + 1 < j then μ0 (61 + it.toNatClampNeg) (b + 1) else μ0 (61 + it.toNatClampNeg) b) → sx l (rmN 0) X Ex false kX0_dropFirst shA.length (xZ X false shA.length (fun r sh' μ' => shA = sh' ∧ r = none ∧ Ch SH μ0 μ' ∧ (∀ a, a ≠ 91 → a ≠ 61 + it.toNatClampNeg → μ' a = μ0 a) ∧ (∀ b, μ' 91 b = if q ≠ 0 ∧ b = it.toNatClampNeg then nI (q - 1) else μ0 91 b) ∧ ∀ b, μ' (61 + it.toNatClampNeg) b = if b + 1 < q then μ0 (61 + it.toNatClampNeg) (b + 1) else μ0 (61 + it.toNatClampNeg) b) 0 0) 12 [some (.ref (X.2 + 56)), some (.int it), some (.int (nI j))] [] shA μ 0 0 := by
  have hi := clamp_lt (n := 30) ht.1 ht.2 (by decide)
  intro t
  induction t with
  | zero =>
    intro j μ htt hj1 hj hμq hC hO hS
    refine sx_iload_n (pc := 12) dX0_dropFirst_12 rfl rfl ?_
    refine sx_aload_n (pc := 13) dX0_dropFirst_13 rfl rfl ?_
    refine sx_getr (pc := 14) (ci := 0) (j := 4) (r := 91) dX0_dropFirst_14 rfl s_Ho rfl (by decide) lf_X0_26 ?_
    refine sx_iload_n (pc := 17) dX0_dropFirst_17 rfl rfl ?_
    refine sx_iald (pc := 18) dX0_dropFirst_18 s_qlen (by decide) rfl (vp_in_lt (n := 30) ht.1 ht.2 (by decide)) ?_
    refine sx_icmp_ge (pc := 19) (tgt := 46) dX0_dropFirst_19 (by decide) (fun c_19 => ?_) (fun c_19 => absurd (by rw [hμq]; exact nI_le (by omega) (by omega)) c_19)
    exact l_drop_end ht hq hq0 hμq hC hO (by rw [show q = j by omega]; exact hS) _
  | succ t ih =>
    intro j μ htt hj1 hj hμq hC hO hS
    refine sx_iload_n (pc := 12) dX0_dropFirst_12 rfl rfl ?_
    refine sx_aload_n (pc := 13) dX0_dropFirst_13 rfl rfl ?_
    refine sx_getr (pc := 14) (ci := 0) (j := 4) (r := 91) dX0_dropFirst_14 rfl s_Ho rfl (by decide) lf_X0_26 ?_
    refine sx_iload_n (pc := 17) dX0_dropFirst_17 rfl rfl ?_
    refine sx_iald (pc := 18) dX0_dropFirst_18 s_qlen (by decide) rfl (vp_in_lt (n := 30) ht.1 ht.2 (by decide)) ?_
    refine sx_icmp_ge (pc := 19) (tgt := 46) dX0_dropFirst_19 (by decide) (fun c_19 => ?_) (fun c_19 => ?_)
    · have h_19t := c_19
      have hge : q ≤ j := Nat.le_of_not_lt fun z => absurd (nI_lt z (by omega)) (Int32.not_lt.mpr (by rw [← hμq]; exact h_19t))
      exact l_drop_end ht hq hq0 hμq hC hO (by rw [show q = j by omega]; exact hS) _
    · have h_19f := c_19
      have hlt : j < q := Nat.lt_of_not_le fun z => h_19f (by rw [hμq]; exact nI_le z (by omega))
      refine sx_aload_n (pc := 22) dX0_dropFirst_22 rfl rfl ?_
      refine sx_getr (pc := 23) (ci := 0) (j := 3) (r := 60) dX0_dropFirst_23 rfl s_Ho rfl (by decide) lf_X0_23 ?_
      refine sx_iload_n (pc := 26) dX0_dropFirst_26 rfl rfl ?_
      refine sx_aald (pc := 27) (r := 61 + it.toNatClampNeg) dX0_dropFirst_27 s_queues rfl rfl (vp_in_lt (n := 30) ht.1 ht.2 (by decide)) (el_queues _ hi) ?_
      refine sx_iload_n (pc := 28) dX0_dropFirst_28 rfl rfl ?_
      refine sx_iconst (pc := 29) (v := 1) dX0_dropFirst_29 (by decide) ?_
      refine sx_isub (pc := 30) dX0_dropFirst_30 ?_
      rw [show (1 : Int32) = nI 1 from rfl, pk_sub hj1]
      refine sx_aload_n (pc := 31) dX0_dropFirst_31 rfl rfl ?_
      refine sx_getr (pc := 32) (ci := 0) (j := 3) (r := 60) dX0_dropFirst_32 rfl s_Ho rfl (by decide) lf_X0_23 ?_
      refine sx_iload_n (pc := 35) dX0_dropFirst_35 rfl rfl ?_
      refine sx_aald (pc := 36) (r := 61 + it.toNatClampNeg) dX0_dropFirst_36 s_queues rfl rfl (vp_in_lt (n := 30) ht.1 ht.2 (by decide)) (el_queues _ hi) ?_
      refine sx_iload_n (pc := 37) dX0_dropFirst_37 rfl rfl ?_
      refine sx_iald (pc := 38) dX0_dropFirst_38 (s_qrow _ hi) (by decide) rfl (vp_in_nI (by omega) (by decide)) ?_
      refine sx_iast (pc := 39) dX0_dropFirst_39 (s_qrow _ hi) (by decide) rfl (vp_in_nI (by omega) (by decide)) (fun μ1 hμ1 => ?_)
      refine sx_iinc (pc := 40) (v := nI (j + 1)) (L' := [some (.ref (X.2 + 56)), some (.int it), some (.int (nI (j + 1)))]) dX0_dropFirst_40 rfl (nI_1 j) (by decide) rfl ?_
      refine sx_goto (pc := 43) (tgt := 12) dX0_dropFirst_43 (by decide) ?_
      exact ih (j + 1) _ (by omega) (by omega) (by omega) (by rw [hμ1, xup_at, if_neg (by omega)]; exact hμq) (Ch.put hC hμ1 (by omega) (LB.off hμ1 ⟨by omega, fun _ _ => by omega⟩)) (fun a ha => by rw [hμ1]; funext b; rw [xup_at, if_neg (fun z => ha z.1)]; exact congrFun (hO a ha) b) (dsh_step hj1 hS (by rw [nI_clamp (n := j) (by omega), nI_clamp (n := j - 1) (by omega)] at hμ1; exact hμ1))
set_option maxHeartbeats 1000000 in
set_option maxRecDepth 20000 in
theorem c_drop (X : xD) (Ex : State → Prop) (hE : xEs X false shA.length Ex) (μ : xM) (it : Int32) (ht : 0 ≤ it ∧ it < 30) (q : Nat) (hq : q ≤ 30) (hμq : μ 91 it.toNatClampNeg = nI q) : Ct X Ex false yX0_dropFirst kX0_dropFirst (rmN 0) [.ref (X.2 + 56), .int it] shA μ (fun r sh' μ' => shA = sh' ∧ r = none ∧ Ch SH μ μ' ∧ (∀ a, a ≠ 91 → a ≠ 61 + it.toNatClampNeg → μ' a = μ a) ∧ (∀ b, μ' 91 b = if q ≠ 0 ∧ b = it.toNatClampNeg then nI (q - 1) else μ 91 b) ∧ ∀ b, μ' (61 + it.toNatClampNeg) b = if b + 1 < q then μ (61 + it.toNatClampNeg) (b + 1) else μ (61 + it.toNatClampNeg) b) := by
  refine Ct.of (L0 := [some (.ref (X.2 + 56)), some (.int it), none]) (by decide) rfl (fun h => by cases h) (by simp [Value.category]) (Nat.le_of_ble_eq_true rfl) rfl (fun l => ?_)
  have hi := clamp_lt (n := 30) ht.1 ht.2 (by decide)
  refine sx_aload_n (pc := 0) dX0_dropFirst_0 rfl rfl ?_
  refine sx_getr (pc := 1) (ci := 0) (j := 4) (r := 91) dX0_dropFirst_1 rfl s_Ho rfl (by decide) lf_X0_26 ?_
  refine sx_iload_n (pc := 4) dX0_dropFirst_4 rfl rfl ?_
  refine sx_iald (pc := 5) dX0_dropFirst_5 s_qlen (by decide) rfl (vp_in_lt (n := 30) ht.1 ht.2 (by decide)) ?_
  refine sx_if_ne (pc := 6) (tgt := 10) dX0_dropFirst_6 (by decide) (fun c_6 => ?_) (fun c_6 => ?_)
  · have h_6t := c_6
    have hq0 : 0 < q := Nat.pos_of_ne_zero fun z => h_6t (by rw [hμq, z]; rfl)
    refine sx_iconst (pc := 10) (v := 1) dX0_dropFirst_10 (by decide) ?_
    refine sx_istore_n (pc := 11) (L' := [some (.ref (X.2 + 56)), some (.int it), some (.int 1)]) dX0_dropFirst_11 rfl (by decide) rfl ?_
    exact l_drop ht hq hq0 30 1 _ (by omega) (Nat.le_refl _) hq0 hμq Ch.rf (fun _ _ => rfl) (fun b => by rw [if_neg (by omega)])
  · have h_6f := c_6
    have hqz : q = 0 := (nI_eq (by omega) (by decide)).mp (hμq.symm.trans h_6f)
    exact sx_vret (pc := 9) dX0_dropFirst_9 rfl (Nat.zero_le _) (Nat.zero_le _) (⟨rfl, rfl, (Ch.rf), fun _ _ _ => rfl, fun b => by rw [if_neg (fun z => z.1 hqz)], fun b => by rw [if_neg (by omega)]⟩)
theorem hx_C {μ μ1 μ2 μ3 : xM} {h : HT} {n : Nat} (hX : Hx μ h) (hW : HW n h) {it ps : Int32} (ht : 0 ≤ it ∧ it < 30) (hp : 0 ≤ ps ∧ ps < 30) {q : Nat} (hq : q ≤ 30) (hμq : vW h it.toNatClampNeg = nI q) (d1 : ∀ a, a ≠ 91 → a ≠ 61 + it.toNatClampNeg → μ1 a = μ a) (d2 : ∀ b, μ1 91 b = if q ≠ 0 ∧ b = it.toNatClampNeg then nI (q - 1) else μ 91 b) (d3 : ∀ b, μ1 (61 + it.toNatClampNeg) b = if b + 1 < q then μ (61 + it.toNatClampNeg) (b + 1) else μ (61 + it.toNatClampNeg) b) (e2 : μ2 = xup μ1 58 it.toNatClampNeg ps) (e3 : μ3 = xup μ2 59 it.toNatClampNeg 0) : Hx μ3 (tC h it.toNatClampNeg ps.toNatClampNeg) := by
  have hi := clamp_lt (n := 30) ht.1 ht.2 (by decide)
  have k : ∀ a, a ≠ 58 → a ≠ 59 → μ3 a = μ1 a := fun a a1 a2 => by rw [e3, e2]; funext b; rw [xup_at, if_neg (fun z => a2 z.1), xup_at, if_neg (fun z => a1 z.1)]
  have k58 : ∀ b, μ3 58 b = if b = it.toNatClampNeg then ps else μ 58 b := fun b => by
    rw [e3, xup_at, if_neg (by omega), e2, xup_at, d1 58 (by omega) (by omega)]
    by_cases y : b = it.toNatClampNeg
    · rw [if_pos ⟨rfl, y⟩, if_pos y]
    · rw [if_neg (fun z => y z.2), if_neg y]
  have k59 : ∀ b, μ3 59 b = if b = it.toNatClampNeg then 0 else μ 59 b := fun b => by
    rw [e3, xup_at, e2, xup_at, if_neg (by omega : ¬ ((59 : Nat) = 58 ∧ b = it.toNatClampNeg)), d1 59 (by omega) (by omega)]
    by_cases y : b = it.toNatClampNeg
    · rw [if_pos ⟨rfl, y⟩, if_pos y]
    · rw [if_neg (fun z => y z.2), if_neg y]
  have ec : (vW h it.toNatClampNeg).toNatClampNeg = q := by rw [hμq, nI_clamp (by omega)]
  intro e he
  obtain ⟨x1, x2, x3, x4, x5⟩ := hX e he
  refine ⟨?_, ?_, ?_, ?_, ?_⟩
  · rw [k 57 (by omega) (by omega), d1 57 (by omega) (by omega)]; exact x1
  · show μ3 58 e + 1 = upd (vL h) it.toNatClampNeg (nI ps.toNatClampNeg + 1) e
    rw [k58, upd_at, nI_cl hp]
    split
    · rfl
    · exact x2
  · show upd (vL h) it.toNatClampNeg (nI ps.toNatClampNeg + 1) e ≠ 0 → μ3 59 e = upd (vR h) it.toNatClampNeg 0 e
    rw [k59, upd_at, upd_at]
    split
    · intro _; rfl
    · exact x3
  · show μ3 91 e = (if vW h it.toNatClampNeg = 0 then vW h else upd (vW h) it.toNatClampNeg (vW h it.toNatClampNeg - 1)) e
    rw [k 91 (by omega) (by omega), d2]
    by_cases z : q = 0
    · rw [if_neg (fun y => y.1 z), if_pos (by rw [hμq, z]; rfl)]; exact x4
    · rw [if_neg (show ¬ vW h it.toNatClampNeg = 0 by rw [hμq]; exact fun y => z ((nI_eq (by omega) (by decide)).mp y)), upd_at]
      by_cases y : e = it.toNatClampNeg
      · rw [if_pos ⟨z, y⟩, if_pos y, hμq, show (1 : Int32) = nI 1 from rfl, pk_sub (by omega)]
      · rw [if_neg (fun w => y w.2), if_neg y]; exact x4
  · intro j hj
    show μ3 (61 + e) j = (if vW h it.toNatClampNeg = 0 then vQ h else shf (vQ h) it.toNatClampNeg ((vW h it.toNatClampNeg).toNatClampNeg - 1)) (30 * e + j)
    rw [k (61 + e) (by omega) (by omega), ec]
    by_cases z : q = 0
    · rw [if_pos (by rw [hμq, z]; rfl)]
      by_cases y : e = it.toNatClampNeg
      · rw [y, d3, if_neg (by omega), ← y]; exact x5 j hj
      · rw [d1 (61 + e) (by omega) (by omega)]; exact x5 j hj
    · rw [if_neg (show ¬ vW h it.toNatClampNeg = 0 by rw [hμq]; exact fun y => z ((nI_eq (by omega) (by decide)).mp y))]
      unfold shf
      by_cases y : e = it.toNatClampNeg
      · subst y
        rw [d3]
        by_cases w : j + 1 < q
        · rw [if_pos w, if_pos (by omega), x5 (j + 1) (by omega)]; rfl
        · rw [if_neg w, if_neg (by omega)]; exact x5 j hj
      · rw [d1 (61 + e) (by omega) (by omega), if_neg (by omega)]; exact x5 j hj
theorem hx_B {μ μ1 : xM} {h : HT} (hX : Hx μ h) {i : Nat} (e1 : μ1 = xup μ 58 i (-1)) : Hx μ1 (tB h i) := by
  have k : ∀ a, a ≠ 58 → μ1 a = μ a := fun a a1 => by rw [e1]; funext b; rw [xup_at, if_neg (fun z => a1 z.1)]
  intro e he
  obtain ⟨x1, x2, x3, x4, x5⟩ := hX e he
  refine ⟨by rw [k 57 (by omega)]; exact x1, ?_, ?_, by rw [k 91 (by omega)]; exact x4, by rw [k (61 + e) (by omega)]; exact x5⟩
  · show μ1 58 e + 1 = upd (vL h) i 0 e
    rw [e1, xup_at, upd_at]
    by_cases y : e = i
    · rw [if_pos ⟨rfl, y⟩, if_pos y]; decide
    · rw [if_neg (fun z => y z.2), if_neg y]; exact x2
  · show upd (vL h) i 0 e ≠ 0 → μ1 59 e = upd (vR h) i 0 e
    rw [k 59 (by omega), upd_at, upd_at]
    split
    · intro z; exact absurd rfl z
    · exact x3
theorem hx_F {μ μ1 : xM} {h : HT} (hX : Hx μ h) {p : Nat} (hp : p < 30) {c : Int32} (e1 : μ1 = xup μ 57 p (μ 57 p - c)) : Hx μ1 (tF h p c) := by
  have k : ∀ a, a ≠ 57 → μ1 a = μ a := fun a a1 => by rw [e1]; funext b; rw [xup_at, if_neg (fun z => a1 z.1)]
  intro e he
  obtain ⟨x1, x2, x3, x4, x5⟩ := hX e he
  refine ⟨?_, by rw [k 58 (by omega)]; exact x2, by rw [k 59 (by omega)]; exact x3, by rw [k 91 (by omega)]; exact x4, by rw [k (61 + e) (by omega)]; exact x5⟩
  show μ1 57 e = upd (vO h) p (vO h p - c) e
  rw [e1, xup_at, upd_at, (hX p hp).1]
  by_cases y : e = p
  · rw [if_pos ⟨rfl, y⟩, if_pos y]
  · rw [if_neg (fun z => y z.2), if_neg y]; exact x1
theorem hx_R {μ μ1 : xM} {h : HT} (hX : Hx μ h) {i p : Nat} (hi : i < 30) (hn : vL h i ≠ 0) (e1 : μ1 = xup μ 59 i (μ 59 i + 1)) : Hx μ1 (tR h i p) := by
  have k : ∀ a, a ≠ 59 → μ1 a = μ a := fun a a1 => by rw [e1]; funext b; rw [xup_at, if_neg (fun z => a1 z.1)]
  intro e he
  obtain ⟨x1, x2, x3, x4, x5⟩ := hX e he
  refine ⟨by rw [k 57 (by omega)]; exact x1, by rw [k 58 (by omega)]; exact x2, fun z => ?_, by rw [k 91 (by omega)]; exact x4, by rw [k (61 + e) (by omega)]; exact x5⟩
  show μ1 59 e = upd (vR h) i (vR h i + 1) e
  rw [e1, xup_at, upd_at, (hX i hi).2.2.1 hn]
  by_cases y : e = i
  · rw [if_pos ⟨rfl, y⟩, if_pos y]
  · rw [if_neg (fun z => y z.2), if_neg y]; exact x3 z
theorem hx_H {μ μ1 μ2 : xM} {h : HT} (hX : Hx μ h) {i p q : Nat} (hi : i < 30) (hq : q < 30) (hμq : vW h i = nI q) (e1 : μ1 = xup μ (61 + i) q (nI p)) (e2 : μ2 = xup μ1 91 i (nI q + 1)) : Hx μ2 (tH h i p) := by
  have ec : (vW h i).toNatClampNeg = q := by rw [hμq, nI_clamp (by omega)]
  have k : ∀ a, a ≠ 91 → a ≠ 61 + i → μ2 a = μ a := fun a a1 a2 => by rw [e2, e1]; funext b; rw [xup_at, if_neg (fun z => a1 z.1), xup_at, if_neg (fun z => a2 z.1)]
  intro e he
  obtain ⟨x1, x2, x3, x4, x5⟩ := hX e he
  refine ⟨by rw [k 57 (by omega) (by omega)]; exact x1, by rw [k 58 (by omega) (by omega)]; exact x2, by rw [k 59 (by omega) (by omega)]; exact x3, ?_, fun j hj => ?_⟩
  · show μ2 91 e = upd (vW h) i (vW h i + 1) e
    rw [e2, xup_at, upd_at, hμq]
    by_cases y : e = i
    · rw [if_pos ⟨rfl, y⟩, if_pos y]
    · rw [if_neg (fun z => y z.2), if_neg y, e1, xup_at, if_neg (by omega)]; exact x4
  · show μ2 (61 + e) j = upd (vQ h) (30 * i + (vW h i).toNatClampNeg) (nI p) (30 * e + j)
    rw [ec, upd_at]
    by_cases y : e = i
    · subst y
      rw [e2, xup_at, if_neg (by omega), e1, xup_at]
      by_cases w : j = q
      · rw [if_pos ⟨rfl, w⟩, if_pos (by omega)]
      · rw [if_neg (fun z => w z.2), if_neg (by omega)]; exact x5 j hj
    · rw [k (61 + e) (by omega) (by omega), if_neg (by omega)]; exact x5 j hj
set_option maxHeartbeats 1000000 in
set_option maxRecDepth 20000 in
theorem c_lend (X : xD) (Ex : State → Prop) (hE : xEs X false shA.length Ex) (μ : xM) (ps : Int32) (hp : 0 ≤ ps ∧ ps < 30) (it : Int32) (ht : 0 ≤ it ∧ it < 30) {h : HT} (hX : Hx μ h) {n : Nat} (hW : HW n h) : Ct X Ex false yX0_lend kX0_lend (rmN 1) [.ref (X.2 + 56), .int ps, .int it] shA μ (fun r sh' μ' => shA = sh' ∧ Ch SH μ μ' ∧ ∃ x : Int32, r = some (.int x) ∧ ((x = 1 ∧ oC h it.toNatClampNeg ps.toNatClampNeg ∧ Hx μ' (tC h it.toNatClampNeg ps.toNatClampNeg)) ∨ (x = 0 ∧ ¬ oC h it.toNatClampNeg ps.toNatClampNeg ∧ Hx μ' h))) := by
  refine Ct.of (L0 := [some (.ref (X.2 + 56)), some (.int ps), some (.int it), none]) (by decide) rfl (fun h => by cases h) (by simp [Value.category]) (Nat.le_of_ble_eq_true rfl) rfl (fun l => ?_)
  have hi := clamp_lt (n := 30) ht.1 ht.2 (by decide)
  have hxi := hX _ hi
  have bl := m1_iff hxi.2.1
  obtain ⟨⟨q, hq, hμq0, hwi⟩, ⟨lq, hlq, hle⟩⟩ := hW.1 _ hi
  have hμq : μ 91 it.toNatClampNeg = nI q := hxi.2.2.2.1.trans hμq0
  have hpp := clamp_lt (n := 30) hp.1 hp.2 (by decide)
  have hxp := hX _ hpp
  have bq : μ (61 + it.toNatClampNeg) (0 : Int32).toNatClampNeg = vQ h (30 * it.toNatClampNeg) := hxi.2.2.2.2 0 (by omega)
  refine sx_aload_n (pc := 0) dX0_lend_0 rfl rfl ?_
  refine sx_getr (pc := 1) (ci := 0) (j := 4) (r := 91) dX0_lend_1 rfl s_Ho rfl (by decide) lf_X0_26 ?_
  refine sx_iload_n (pc := 4) dX0_lend_4 rfl rfl ?_
  refine sx_iald (pc := 5) dX0_lend_5 s_qlen (by decide) rfl (vp_in_lt (n := 30) ht.1 ht.2 (by decide)) ?_
  refine sx_if_eq (pc := 6) (tgt := 21) dX0_lend_6 (by decide) (fun c_6 => ?_) (fun c_6 => ?_)
  · have h_6t := c_6
    refine sx_iconst (pc := 21) (v := 1) dX0_lend_21 (by decide) ?_
    refine sx_goto (pc := 22) (tgt := 26) dX0_lend_22 (by decide) ?_
    refine sx_istore_n (pc := 26) (L' := [some (.ref (X.2 + 56)), some (.int ps), some (.int it), some (.int 1)]) dX0_lend_26 rfl (by decide) rfl ?_
    refine sx_aload_n (pc := 27) dX0_lend_27 rfl rfl ?_
    refine sx_getr (pc := 28) (ci := 0) (j := 1) (r := 58) dX0_lend_28 rfl s_Ho rfl (by decide) lf_X0_15 ?_
    refine sx_iload_n (pc := 31) dX0_lend_31 rfl rfl ?_
    refine sx_iald (pc := 32) dX0_lend_32 s_borr (by decide) rfl (vp_in_lt (n := 30) ht.1 ht.2 (by decide)) ?_
    refine sx_iconst (pc := 33) (v := (-1)) dX0_lend_33 (by decide) ?_
    refine sx_icmp_ne (pc := 34) (tgt := 53) dX0_lend_34 (by decide) (fun c_34 => ?_) (fun c_34 => ?_)
    · have h_34t := c_34
      refine sx_iconst (pc := 53) (v := 0) dX0_lend_53 (by decide) ?_
      exact sx_iret (pc := 54) dX0_lend_54 rfl rfl (Nat.zero_le _) (Nat.zero_le _) (⟨rfl, (Ch.rf), _, rfl, Or.inr ⟨rfl, fun z => by first | exact h_34t (bl.mpr z.1) | exact h_50f (by rw [hxp.1]; exact z.2.2) | exact z.2.1.elim (fun w => h_6f (by rw [hxi.2.2.2.1]; exact w)) (fun w => h_18t (by rw [bq, w, nI_cl hp])), hX⟩⟩)
    · have h_34f := c_34
      refine sx_iload_n (pc := 37) dX0_lend_37 rfl rfl ?_
      refine sx_if_eq (pc := 38) (tgt := 53) dX0_lend_38 (by decide) (fun c_38 => absurd c_38 (by decide)) (fun c_38 => ?_)
      refine sx_aload_n (pc := 41) dX0_lend_41 rfl rfl ?_
      refine sx_getr (pc := 42) (ci := 0) (j := 0) (r := 57) dX0_lend_42 rfl s_Ho rfl (by decide) lf_X0_9 ?_
      refine sx_iload_n (pc := 45) dX0_lend_45 rfl rfl ?_
      refine sx_iald (pc := 46) dX0_lend_46 s_debts (by decide) rfl (vp_in_lt (n := 30) hp.1 hp.2 (by decide)) ?_
      refine sx_sipush (pc := 47) (v := 500) dX0_lend_47 (by decide) ?_
      refine sx_icmp_le (pc := 50) (tgt := 55) dX0_lend_50 (by decide) (fun c_50 => ?_) (fun c_50 => ?_)
      · have h_50t := c_50
        refine sx_aload_n (pc := 55) dX0_lend_55 rfl rfl ?_
        refine sx_iload_n (pc := 56) dX0_lend_56 rfl rfl ?_
        refine sx_callV (pc := 57) (As := [.int it]) dX0_lend_57 (c_drop X Ex hE μ _ ht q hq hμq) mX0_dropFirst lm_X0_65 rfl s_Ho rfl ⟨Nat.le_of_ble_eq_true rfl, Nat.le_of_ble_eq_true rfl⟩ ⟨Nat.le_of_ble_eq_true rfl, Nat.le_of_ble_eq_true rfl⟩ (Nat.le_of_ble_eq_true rfl) hE (fun r_57 sh1 μ1 h_57 => ?_)
        obtain ⟨rfl, rfl, k_57, d1, d2, d3⟩ := h_57
        refine sx_aload_n (pc := 60) dX0_lend_60 rfl rfl ?_
        refine sx_getr (pc := 61) (ci := 0) (j := 1) (r := 58) dX0_lend_61 rfl s_Ho rfl (by decide) lf_X0_15 ?_
        refine sx_iload_n (pc := 64) dX0_lend_64 rfl rfl ?_
        refine sx_iload_n (pc := 65) dX0_lend_65 rfl rfl ?_
        refine sx_iast (pc := 66) dX0_lend_66 s_borr (by decide) rfl (vp_in_lt (n := 30) ht.1 ht.2 (by decide)) (fun μ2 hμ2 => ?_)
        refine sx_aload_n (pc := 67) dX0_lend_67 rfl rfl ?_
        refine sx_getr (pc := 68) (ci := 0) (j := 2) (r := 59) dX0_lend_68 rfl s_Ho rfl (by decide) lf_X0_18 ?_
        refine sx_iload_n (pc := 71) dX0_lend_71 rfl rfl ?_
        refine sx_iconst (pc := 72) (v := 0) dX0_lend_72 (by decide) ?_
        refine sx_iast (pc := 73) dX0_lend_73 s_rene (by decide) rfl (vp_in_lt (n := 30) ht.1 ht.2 (by decide)) (fun μ3 hμ3 => ?_)
        refine sx_iconst (pc := 74) (v := 1) dX0_lend_74 (by decide) ?_
        exact sx_iret (pc := 75) dX0_lend_75 rfl rfl (Nat.zero_le _) (Nat.zero_le _) (⟨rfl, (Ch.put (Ch.put (Ch.trans (Ch.rf) k_57) hμ2 (by omega) (LB.off hμ2 ⟨by omega, fun _ _ => by omega⟩)) hμ3 (by omega) (LB.off hμ3 ⟨by omega, fun _ _ => by omega⟩)), _, rfl, Or.inl ⟨rfl, ⟨bl.mp h_34f, by first | exact Or.inl (by rw [← hxi.2.2.2.1]; exact h_6t) | exact Or.inr (by rw [← bq, nI_cl hp]; exact h_18f), by rw [← hxp.1]; exact h_50t⟩, hx_C hX hW ht hp hq hμq0 d1 d2 d3 hμ2 hμ3⟩⟩)
      · have h_50f := c_50
        refine sx_iconst (pc := 53) (v := 0) dX0_lend_53 (by decide) ?_
        exact sx_iret (pc := 54) dX0_lend_54 rfl rfl (Nat.zero_le _) (Nat.zero_le _) (⟨rfl, (Ch.rf), _, rfl, Or.inr ⟨rfl, fun z => by first | exact h_34t (bl.mpr z.1) | exact h_50f (by rw [hxp.1]; exact z.2.2) | exact z.2.1.elim (fun w => h_6f (by rw [hxi.2.2.2.1]; exact w)) (fun w => h_18t (by rw [bq, w, nI_cl hp])), hX⟩⟩)
  · have h_6f := c_6
    refine sx_aload_n (pc := 9) dX0_lend_9 rfl rfl ?_
    refine sx_getr (pc := 10) (ci := 0) (j := 3) (r := 60) dX0_lend_10 rfl s_Ho rfl (by decide) lf_X0_23 ?_
    refine sx_iload_n (pc := 13) dX0_lend_13 rfl rfl ?_
    refine sx_aald (pc := 14) (r := 61 + it.toNatClampNeg) dX0_lend_14 s_queues rfl rfl (vp_in_lt (n := 30) ht.1 ht.2 (by decide)) (el_queues _ hi) ?_
    refine sx_iconst (pc := 15) (v := 0) dX0_lend_15 (by decide) ?_
    refine sx_iald (pc := 16) dX0_lend_16 (s_qrow _ hi) (by decide) rfl (by unfold vp_in; decide) ?_
    refine sx_iload_n (pc := 17) dX0_lend_17 rfl rfl ?_
    refine sx_icmp_ne (pc := 18) (tgt := 25) dX0_lend_18 (by decide) (fun c_18 => ?_) (fun c_18 => ?_)
    · have h_18t := c_18
      refine sx_iconst (pc := 25) (v := 0) dX0_lend_25 (by decide) ?_
      refine sx_istore_n (pc := 26) (L' := [some (.ref (X.2 + 56)), some (.int ps), some (.int it), some (.int 0)]) dX0_lend_26 rfl (by decide) rfl ?_
      refine sx_aload_n (pc := 27) dX0_lend_27 rfl rfl ?_
      refine sx_getr (pc := 28) (ci := 0) (j := 1) (r := 58) dX0_lend_28 rfl s_Ho rfl (by decide) lf_X0_15 ?_
      refine sx_iload_n (pc := 31) dX0_lend_31 rfl rfl ?_
      refine sx_iald (pc := 32) dX0_lend_32 s_borr (by decide) rfl (vp_in_lt (n := 30) ht.1 ht.2 (by decide)) ?_
      refine sx_iconst (pc := 33) (v := (-1)) dX0_lend_33 (by decide) ?_
      refine sx_icmp_ne (pc := 34) (tgt := 53) dX0_lend_34 (by decide) (fun c_34 => ?_) (fun c_34 => ?_)
      · have h_34t := c_34
        refine sx_iconst (pc := 53) (v := 0) dX0_lend_53 (by decide) ?_
        exact sx_iret (pc := 54) dX0_lend_54 rfl rfl (Nat.zero_le _) (Nat.zero_le _) (⟨rfl, (Ch.rf), _, rfl, Or.inr ⟨rfl, fun z => by first | exact h_34t (bl.mpr z.1) | exact h_50f (by rw [hxp.1]; exact z.2.2) | exact z.2.1.elim (fun w => h_6f (by rw [hxi.2.2.2.1]; exact w)) (fun w => h_18t (by rw [bq, w, nI_cl hp])), hX⟩⟩)
      · have h_34f := c_34
        refine sx_iload_n (pc := 37) dX0_lend_37 rfl rfl ?_
        refine sx_if_eq (pc := 38) (tgt := 53) dX0_lend_38 (by decide) (fun c_38 => ?_) (fun c_38 => absurd c_38 (by decide))
        refine sx_iconst (pc := 53) (v := 0) dX0_lend_53 (by decide) ?_
        exact sx_iret (pc := 54) dX0_lend_54 rfl rfl (Nat.zero_le _) (Nat.zero_le _) (⟨rfl, (Ch.rf), _, rfl, Or.inr ⟨rfl, fun z => by first | exact h_34t (bl.mpr z.1) | exact h_50f (by rw [hxp.1]; exact z.2.2) | exact z.2.1.elim (fun w => h_6f (by rw [hxi.2.2.2.1]; exact w)) (fun w => h_18t (by rw [bq, w, nI_cl hp])), hX⟩⟩)
    · have h_18f := c_18
      refine sx_iconst (pc := 21) (v := 1) dX0_lend_21 (by decide) ?_
      refine sx_goto (pc := 22) (tgt := 26) dX0_lend_22 (by decide) ?_
      refine sx_istore_n (pc := 26) (L' := [some (.ref (X.2 + 56)), some (.int ps), some (.int it), some (.int 1)]) dX0_lend_26 rfl (by decide) rfl ?_
      refine sx_aload_n (pc := 27) dX0_lend_27 rfl rfl ?_
      refine sx_getr (pc := 28) (ci := 0) (j := 1) (r := 58) dX0_lend_28 rfl s_Ho rfl (by decide) lf_X0_15 ?_
      refine sx_iload_n (pc := 31) dX0_lend_31 rfl rfl ?_
      refine sx_iald (pc := 32) dX0_lend_32 s_borr (by decide) rfl (vp_in_lt (n := 30) ht.1 ht.2 (by decide)) ?_
      refine sx_iconst (pc := 33) (v := (-1)) dX0_lend_33 (by decide) ?_
      refine sx_icmp_ne (pc := 34) (tgt := 53) dX0_lend_34 (by decide) (fun c_34 => ?_) (fun c_34 => ?_)
      · have h_34t := c_34
        refine sx_iconst (pc := 53) (v := 0) dX0_lend_53 (by decide) ?_
        exact sx_iret (pc := 54) dX0_lend_54 rfl rfl (Nat.zero_le _) (Nat.zero_le _) (⟨rfl, (Ch.rf), _, rfl, Or.inr ⟨rfl, fun z => by first | exact h_34t (bl.mpr z.1) | exact h_50f (by rw [hxp.1]; exact z.2.2) | exact z.2.1.elim (fun w => h_6f (by rw [hxi.2.2.2.1]; exact w)) (fun w => h_18t (by rw [bq, w, nI_cl hp])), hX⟩⟩)
      · have h_34f := c_34
        refine sx_iload_n (pc := 37) dX0_lend_37 rfl rfl ?_
        refine sx_if_eq (pc := 38) (tgt := 53) dX0_lend_38 (by decide) (fun c_38 => absurd c_38 (by decide)) (fun c_38 => ?_)
        refine sx_aload_n (pc := 41) dX0_lend_41 rfl rfl ?_
        refine sx_getr (pc := 42) (ci := 0) (j := 0) (r := 57) dX0_lend_42 rfl s_Ho rfl (by decide) lf_X0_9 ?_
        refine sx_iload_n (pc := 45) dX0_lend_45 rfl rfl ?_
        refine sx_iald (pc := 46) dX0_lend_46 s_debts (by decide) rfl (vp_in_lt (n := 30) hp.1 hp.2 (by decide)) ?_
        refine sx_sipush (pc := 47) (v := 500) dX0_lend_47 (by decide) ?_
        refine sx_icmp_le (pc := 50) (tgt := 55) dX0_lend_50 (by decide) (fun c_50 => ?_) (fun c_50 => ?_)
        · have h_50t := c_50
          refine sx_aload_n (pc := 55) dX0_lend_55 rfl rfl ?_
          refine sx_iload_n (pc := 56) dX0_lend_56 rfl rfl ?_
          refine sx_callV (pc := 57) (As := [.int it]) dX0_lend_57 (c_drop X Ex hE μ _ ht q hq hμq) mX0_dropFirst lm_X0_65 rfl s_Ho rfl ⟨Nat.le_of_ble_eq_true rfl, Nat.le_of_ble_eq_true rfl⟩ ⟨Nat.le_of_ble_eq_true rfl, Nat.le_of_ble_eq_true rfl⟩ (Nat.le_of_ble_eq_true rfl) hE (fun r_57 sh1 μ4 h_57 => ?_)
          obtain ⟨rfl, rfl, k_57, d1, d2, d3⟩ := h_57
          refine sx_aload_n (pc := 60) dX0_lend_60 rfl rfl ?_
          refine sx_getr (pc := 61) (ci := 0) (j := 1) (r := 58) dX0_lend_61 rfl s_Ho rfl (by decide) lf_X0_15 ?_
          refine sx_iload_n (pc := 64) dX0_lend_64 rfl rfl ?_
          refine sx_iload_n (pc := 65) dX0_lend_65 rfl rfl ?_
          refine sx_iast (pc := 66) dX0_lend_66 s_borr (by decide) rfl (vp_in_lt (n := 30) ht.1 ht.2 (by decide)) (fun μ5 hμ5 => ?_)
          refine sx_aload_n (pc := 67) dX0_lend_67 rfl rfl ?_
          refine sx_getr (pc := 68) (ci := 0) (j := 2) (r := 59) dX0_lend_68 rfl s_Ho rfl (by decide) lf_X0_18 ?_
          refine sx_iload_n (pc := 71) dX0_lend_71 rfl rfl ?_
          refine sx_iconst (pc := 72) (v := 0) dX0_lend_72 (by decide) ?_
          refine sx_iast (pc := 73) dX0_lend_73 s_rene (by decide) rfl (vp_in_lt (n := 30) ht.1 ht.2 (by decide)) (fun μ6 hμ6 => ?_)
          refine sx_iconst (pc := 74) (v := 1) dX0_lend_74 (by decide) ?_
          exact sx_iret (pc := 75) dX0_lend_75 rfl rfl (Nat.zero_le _) (Nat.zero_le _) (⟨rfl, (Ch.put (Ch.put (Ch.trans (Ch.rf) k_57) hμ5 (by omega) (LB.off hμ5 ⟨by omega, fun _ _ => by omega⟩)) hμ6 (by omega) (LB.off hμ6 ⟨by omega, fun _ _ => by omega⟩)), _, rfl, Or.inl ⟨rfl, ⟨bl.mp h_34f, by first | exact Or.inl (by rw [← hxi.2.2.2.1]; exact h_6t) | exact Or.inr (by rw [← bq, nI_cl hp]; exact h_18f), by rw [← hxp.1]; exact h_50t⟩, hx_C hX hW ht hp hq hμq0 d1 d2 d3 hμ5 hμ6⟩⟩)
        · have h_50f := c_50
          refine sx_iconst (pc := 53) (v := 0) dX0_lend_53 (by decide) ?_
          exact sx_iret (pc := 54) dX0_lend_54 rfl rfl (Nat.zero_le _) (Nat.zero_le _) (⟨rfl, (Ch.rf), _, rfl, Or.inr ⟨rfl, fun z => by first | exact h_34t (bl.mpr z.1) | exact h_50f (by rw [hxp.1]; exact z.2.2) | exact z.2.1.elim (fun w => h_6f (by rw [hxi.2.2.2.1]; exact w)) (fun w => h_18t (by rw [bq, w, nI_cl hp])), hX⟩⟩)
set_option maxHeartbeats 1000000 in
set_option maxRecDepth 20000 in
theorem c_bring (X : xD) (Ex : State → Prop) (hE : xEs X false shA.length Ex) (μ : xM) (it : Int32) (ht : 0 ≤ it ∧ it < 30) {h : HT} (hX : Hx μ h) {n : Nat} (hW : HW n h) : Ct X Ex false yX0_bringBack kX0_bringBack (rmN 0) [.ref (X.2 + 56), .int it] shA μ (fun r sh' μ' => shA = sh' ∧ Ch SH μ μ' ∧ ∃ x : Int32, r = some (.int x) ∧ ((x = 1 ∧ oB h it.toNatClampNeg ∧ Hx μ' (tB h it.toNatClampNeg)) ∨ (x = 0 ∧ ¬ oB h it.toNatClampNeg ∧ Hx μ' h))) := by
  refine Ct.of (L0 := [some (.ref (X.2 + 56)), some (.int it)]) (by decide) rfl (fun h => by cases h) (by simp [Value.category]) (Nat.le_of_ble_eq_true rfl) rfl (fun l => ?_)
  have hi := clamp_lt (n := 30) ht.1 ht.2 (by decide)
  have hxi := hX _ hi
  have bl := m1_iff hxi.2.1
  obtain ⟨⟨q, hq, hμq0, hwi⟩, ⟨lq, hlq, hle⟩⟩ := hW.1 _ hi
  have hμq : μ 91 it.toNatClampNeg = nI q := hxi.2.2.2.1.trans hμq0
  refine sx_aload_n (pc := 0) dX0_bringBack_0 rfl rfl ?_
  refine sx_getr (pc := 1) (ci := 0) (j := 1) (r := 58) dX0_bringBack_1 rfl s_Ho rfl (by decide) lf_X0_15 ?_
  refine sx_iload_n (pc := 4) dX0_bringBack_4 rfl rfl ?_
  refine sx_iald (pc := 5) dX0_bringBack_5 s_borr (by decide) rfl (vp_in_lt (n := 30) ht.1 ht.2 (by decide)) ?_
  refine sx_iconst (pc := 6) (v := (-1)) dX0_bringBack_6 (by decide) ?_
  refine sx_icmp_ne (pc := 7) (tgt := 12) dX0_bringBack_7 (by decide) (fun c_7 => ?_) (fun c_7 => ?_)
  · have h_7t := c_7
    refine sx_aload_n (pc := 12) dX0_bringBack_12 rfl rfl ?_
    refine sx_getr (pc := 13) (ci := 0) (j := 1) (r := 58) dX0_bringBack_13 rfl s_Ho rfl (by decide) lf_X0_15 ?_
    refine sx_iload_n (pc := 16) dX0_bringBack_16 rfl rfl ?_
    refine sx_iconst (pc := 17) (v := (-1)) dX0_bringBack_17 (by decide) ?_
    refine sx_iast (pc := 18) dX0_bringBack_18 s_borr (by decide) rfl (vp_in_lt (n := 30) ht.1 ht.2 (by decide)) (fun μ1 hμ1 => ?_)
    refine sx_iconst (pc := 19) (v := 1) dX0_bringBack_19 (by decide) ?_
    exact sx_iret (pc := 20) dX0_bringBack_20 rfl rfl (Nat.zero_le _) (Nat.zero_le _) (⟨rfl, (Ch.put (Ch.rf) hμ1 (by omega) (LB.off hμ1 ⟨by omega, fun _ _ => by omega⟩)), _, rfl, Or.inl ⟨rfl, (nz_pos hlq hle).mpr (fun z => h_7t (bl.mpr z)), hx_B hX hμ1⟩⟩)
  · have h_7f := c_7
    refine sx_iconst (pc := 10) (v := 0) dX0_bringBack_10 (by decide) ?_
    exact sx_iret (pc := 11) dX0_bringBack_11 rfl rfl (Nat.zero_le _) (Nat.zero_le _) (⟨rfl, (Ch.rf), _, rfl, Or.inr ⟨rfl, fun z => (nz_pos hlq hle).mp z (bl.mp h_7f), hX⟩⟩)
set_option maxHeartbeats 1000000 in
set_option maxRecDepth 20000 in
theorem c_pay (X : xD) (Ex : State → Prop) (hE : xEs X false shA.length Ex) (μ : xM) (ps : Int32) (hp : 0 ≤ ps ∧ ps < 30) (c : Int32) {h : HT} (hX : Hx μ h) {n : Nat} (hW : HW n h) : Ct X Ex false yX0_pay kX0_pay (rmN 0) [.ref (X.2 + 56), .int ps, .int c] shA μ (fun r sh' μ' => shA = sh' ∧ Ch SH μ μ' ∧ ∃ x : Int32, r = some (.int x) ∧ ((x = 1 ∧ oF h ps.toNatClampNeg c ∧ Hx μ' (tF h ps.toNatClampNeg c)) ∨ (x = 0 ∧ ¬ oF h ps.toNatClampNeg c ∧ Hx μ' h))) := by
  refine Ct.of (L0 := [some (.ref (X.2 + 56)), some (.int ps), some (.int c)]) (by decide) rfl (fun h => by cases h) (by simp [Value.category]) (Nat.le_of_ble_eq_true rfl) rfl (fun l => ?_)
  have hpp := clamp_lt (n := 30) hp.1 hp.2 (by decide)
  have hxp := hX _ hpp
  refine sx_iload_n (pc := 0) dX0_pay_0 rfl rfl ?_
  refine sx_aload_n (pc := 1) dX0_pay_1 rfl rfl ?_
  refine sx_getr (pc := 2) (ci := 0) (j := 0) (r := 57) dX0_pay_2 rfl s_Ho rfl (by decide) lf_X0_9 ?_
  refine sx_iload_n (pc := 5) dX0_pay_5 rfl rfl ?_
  refine sx_iald (pc := 6) dX0_pay_6 s_debts (by decide) rfl (vp_in_lt (n := 30) hp.1 hp.2 (by decide)) ?_
  refine sx_icmp_le (pc := 7) (tgt := 12) dX0_pay_7 (by decide) (fun c_7 => ?_) (fun c_7 => ?_)
  · have h_7t := c_7
    refine sx_aload_n (pc := 12) dX0_pay_12 rfl rfl ?_
    refine sx_getr (pc := 13) (ci := 0) (j := 0) (r := 57) dX0_pay_13 rfl s_Ho rfl (by decide) lf_X0_9 ?_
    refine sx_iload_n (pc := 16) dX0_pay_16 rfl rfl ?_
    refine sx_dup2 (pc := 17) dX0_pay_17 rfl rfl ?_
    refine sx_iald (pc := 18) dX0_pay_18 s_debts (by decide) rfl (vp_in_lt (n := 30) hp.1 hp.2 (by decide)) ?_
    refine sx_iload_n (pc := 19) dX0_pay_19 rfl rfl ?_
    refine sx_isub (pc := 20) dX0_pay_20 ?_
    refine sx_iast (pc := 21) dX0_pay_21 s_debts (by decide) rfl (vp_in_lt (n := 30) hp.1 hp.2 (by decide)) (fun μ1 hμ1 => ?_)
    refine sx_iconst (pc := 22) (v := 1) dX0_pay_22 (by decide) ?_
    exact sx_iret (pc := 23) dX0_pay_23 rfl rfl (Nat.zero_le _) (Nat.zero_le _) (⟨rfl, (Ch.put (Ch.rf) hμ1 (by omega) (LB.off hμ1 ⟨by omega, fun _ _ => by omega⟩)), _, rfl, Or.inl ⟨rfl, (by rw [hxp.1] at h_7t; exact h_7t), hx_F hX hpp hμ1⟩⟩)
  · have h_7f := c_7
    refine sx_iconst (pc := 10) (v := 0) dX0_pay_10 (by decide) ?_
    exact sx_iret (pc := 11) dX0_pay_11 rfl rfl (Nat.zero_le _) (Nat.zero_le _) (⟨rfl, (Ch.rf), _, rfl, Or.inr ⟨rfl, fun z => h_7f (by rw [hxp.1]; exact z), hX⟩⟩)
set_option maxHeartbeats 1000000 in
set_option maxRecDepth 20000 in
theorem l_inq {X : xD} {Ex : State → Prop} {l : Launch} {ps : Int32} {it : Int32} (ht : 0 ≤ it ∧ it < 30) {q : Nat} (hq : q ≤ 30) {μ : xM} (hμq : μ 91 it.toNatClampNeg = nI q) : ∀ (t j : Nat), q - j ≤ t → j ≤ q → (∀ a, a < j → ¬ μ (61 + it.toNatClampNeg) a = ps) → sx l (rmN 0) X Ex false kX0_isInQueue shA.length (xZ X false shA.length (fun r sh' μ' => shA = sh' ∧ μ = μ' ∧ ∃ x : Int32, r = some (.int x) ∧ ((x = 1 ∧ ¬ (∀ a, a < q → ¬ μ (61 + it.toNatClampNeg) a = ps)) ∨ (x = 0 ∧ ∀ a, a < q → ¬ μ (61 + it.toNatClampNeg) a = ps))) 0 0) 2 [some (.ref (X.2 + 56)), some (.int ps), some (.int it), some (.int (nI j))] [] shA μ 0 0 := by
  have hi := clamp_lt (n := 30) ht.1 ht.2 (by decide)
  intro t
  induction t with
  | zero =>
    intro j htt hj hN
    refine sx_iload_n (pc := 2) dX0_isInQueue_2 rfl rfl ?_
    refine sx_aload_n (pc := 3) dX0_isInQueue_3 rfl rfl ?_
    refine sx_getr (pc := 4) (ci := 0) (j := 4) (r := 91) dX0_isInQueue_4 rfl s_Ho rfl (by decide) lf_X0_26 ?_
    refine sx_iload_n (pc := 7) dX0_isInQueue_7 rfl rfl ?_
    refine sx_iald (pc := 8) dX0_isInQueue_8 s_qlen (by decide) rfl (vp_in_lt (n := 30) ht.1 ht.2 (by decide)) ?_
    refine sx_icmp_ge (pc := 9) (tgt := 32) dX0_isInQueue_9 (by decide) (fun c_9 => ?_) (fun c_9 => absurd (by rw [hμq]; exact nI_le (by omega) (by omega)) c_9)
    refine sx_iconst (pc := 32) (v := 0) dX0_isInQueue_32 (by decide) ?_
    exact sx_iret (pc := 33) dX0_isInQueue_33 rfl rfl (Nat.zero_le _) (Nat.zero_le _) (⟨rfl, rfl, _, rfl, Or.inr ⟨rfl, fun a ha => hN a (by omega)⟩⟩)
  | succ t ih =>
    intro j htt hj hN
    refine sx_iload_n (pc := 2) dX0_isInQueue_2 rfl rfl ?_
    refine sx_aload_n (pc := 3) dX0_isInQueue_3 rfl rfl ?_
    refine sx_getr (pc := 4) (ci := 0) (j := 4) (r := 91) dX0_isInQueue_4 rfl s_Ho rfl (by decide) lf_X0_26 ?_
    refine sx_iload_n (pc := 7) dX0_isInQueue_7 rfl rfl ?_
    refine sx_iald (pc := 8) dX0_isInQueue_8 s_qlen (by decide) rfl (vp_in_lt (n := 30) ht.1 ht.2 (by decide)) ?_
    refine sx_icmp_ge (pc := 9) (tgt := 32) dX0_isInQueue_9 (by decide) (fun c_9 => ?_) (fun c_9 => ?_)
    · have h_9t := c_9
      have hge : q ≤ j := Nat.le_of_not_lt fun z => absurd (nI_lt z (by omega)) (Int32.not_lt.mpr (by rw [← hμq]; exact h_9t))
      refine sx_iconst (pc := 32) (v := 0) dX0_isInQueue_32 (by decide) ?_
      exact sx_iret (pc := 33) dX0_isInQueue_33 rfl rfl (Nat.zero_le _) (Nat.zero_le _) (⟨rfl, rfl, _, rfl, Or.inr ⟨rfl, fun a ha => hN a (by omega)⟩⟩)
    · have h_9f := c_9
      have hlt : j < q := Nat.lt_of_not_le fun z => h_9f (by rw [hμq]; exact nI_le z (by omega))
      have hcl := nI_clamp (n := j) (by omega)
      refine sx_aload_n (pc := 12) dX0_isInQueue_12 rfl rfl ?_
      refine sx_getr (pc := 13) (ci := 0) (j := 3) (r := 60) dX0_isInQueue_13 rfl s_Ho rfl (by decide) lf_X0_23 ?_
      refine sx_iload_n (pc := 16) dX0_isInQueue_16 rfl rfl ?_
      refine sx_aald (pc := 17) (r := 61 + it.toNatClampNeg) dX0_isInQueue_17 s_queues rfl rfl (vp_in_lt (n := 30) ht.1 ht.2 (by decide)) (el_queues _ hi) ?_
      refine sx_iload_n (pc := 18) dX0_isInQueue_18 rfl rfl ?_
      refine sx_iald (pc := 19) dX0_isInQueue_19 (s_qrow _ hi) (by decide) rfl (vp_in_nI (by omega) (by decide)) ?_
      refine sx_iload_n (pc := 20) dX0_isInQueue_20 rfl rfl ?_
      refine sx_icmp_ne (pc := 21) (tgt := 26) dX0_isInQueue_21 (by decide) (fun c_21 => ?_) (fun c_21 => ?_)
      · have h_21t := c_21
        refine sx_iinc (pc := 26) (v := nI (j + 1)) (L' := [some (.ref (X.2 + 56)), some (.int ps), some (.int it), some (.int (nI (j + 1)))]) dX0_isInQueue_26 rfl (nI_1 j) (by decide) rfl ?_
        refine sx_goto (pc := 29) (tgt := 2) dX0_isInQueue_29 (by decide) ?_
        exact ih (j + 1) (by omega) (by omega) (fun a ha => by rcases (show a < j ∨ a = j by omega) with z | rfl; exact hN a z; exact (by rw [hcl] at h_21t; exact h_21t))
      · have h_21f := c_21
        refine sx_iconst (pc := 24) (v := 1) dX0_isInQueue_24 (by decide) ?_
        exact sx_iret (pc := 25) dX0_isInQueue_25 rfl rfl (Nat.zero_le _) (Nat.zero_le _) (⟨rfl, rfl, _, rfl, Or.inl ⟨rfl, fun z => z j hlt (by rw [hcl] at h_21f; exact h_21f)⟩⟩)
set_option maxHeartbeats 1000000 in
set_option maxRecDepth 20000 in
theorem c_inq (X : xD) (Ex : State → Prop) (hE : xEs X false shA.length Ex) (μ : xM) (ps : Int32) (it : Int32) (ht : 0 ≤ it ∧ it < 30) (q : Nat) (hq : q ≤ 30) (hμq : μ 91 it.toNatClampNeg = nI q) : Ct X Ex false yX0_isInQueue kX0_isInQueue (rmN 0) [.ref (X.2 + 56), .int ps, .int it] shA μ (fun r sh' μ' => shA = sh' ∧ μ = μ' ∧ ∃ x : Int32, r = some (.int x) ∧ ((x = 1 ∧ ¬ (∀ a, a < q → ¬ μ (61 + it.toNatClampNeg) a = ps)) ∨ (x = 0 ∧ ∀ a, a < q → ¬ μ (61 + it.toNatClampNeg) a = ps))) := by
  refine Ct.of (L0 := [some (.ref (X.2 + 56)), some (.int ps), some (.int it), none]) (by decide) rfl (fun h => by cases h) (by simp [Value.category]) (Nat.le_of_ble_eq_true rfl) rfl (fun l => ?_)
  have hi := clamp_lt (n := 30) ht.1 ht.2 (by decide)
  refine sx_iconst (pc := 0) (v := 0) dX0_isInQueue_0 (by decide) ?_
  refine sx_istore_n (pc := 1) (L' := [some (.ref (X.2 + 56)), some (.int ps), some (.int it), some (.int 0)]) dX0_isInQueue_1 rfl (by decide) rfl ?_
  exact l_inq ht hq hμq 30 0 (by omega) (Nat.zero_le _) (fun a ha => absurd ha (Nat.not_lt_zero _))
set_option maxHeartbeats 1000000 in
set_option maxRecDepth 20000 in
theorem c_queueUp (X : xD) (Ex : State → Prop) (hE : xEs X false shA.length Ex) (μ : xM) (ps : Int32) (hp : 0 ≤ ps ∧ ps < 30) (it : Int32) (ht : 0 ≤ it ∧ it < 30) {h : HT} (hX : Hx μ h) {n : Nat} (hW : HW n h) : Ct X Ex false yX0_queueUp kX0_queueUp (rmN 1) [.ref (X.2 + 56), .int ps, .int it] shA μ (fun r sh' μ' => shA = sh' ∧ Ch SH μ μ' ∧ ∃ x : Int32, r = some (.int x) ∧ ((x = 1 ∧ oH h it.toNatClampNeg ps.toNatClampNeg ∧ Hx μ' (tH h it.toNatClampNeg ps.toNatClampNeg)) ∨ (x = 0 ∧ ¬ oH h it.toNatClampNeg ps.toNatClampNeg ∧ Hx μ' h))) := by
  refine Ct.of (L0 := [some (.ref (X.2 + 56)), some (.int ps), some (.int it), none, none]) (by decide) rfl (fun h => by cases h) (by simp [Value.category]) (Nat.le_of_ble_eq_true rfl) rfl (fun l => ?_)
  have hi := clamp_lt (n := 30) ht.1 ht.2 (by decide)
  have hxi := hX _ hi
  have bl := m1_iff hxi.2.1
  obtain ⟨⟨q, hq, hμq0, hwi⟩, ⟨lq, hlq, hle⟩⟩ := hW.1 _ hi
  have hμq : μ 91 it.toNatClampNeg = nI q := hxi.2.2.2.1.trans hμq0
  have hpp := clamp_lt (n := 30) hp.1 hp.2 (by decide)
  have hxp := hX _ hpp
  have ecq : (vW h it.toNatClampNeg).toNatClampNeg = q := by rw [hμq0, nI_clamp (by omega)]
  have bp := p1_iff (z := ps) hxi.2.1
  have bn : (∀ a, a < q → ¬ μ (61 + it.toNatClampNeg) a = ps) ↔ ∀ a, a < (vW h it.toNatClampNeg).toNatClampNeg → ¬ vQ h (30 * it.toNatClampNeg + a) = nI ps.toNatClampNeg := by rw [ecq, nI_cl hp]; exact ⟨fun z a ha => by rw [← hxi.2.2.2.2 a (by omega)]; exact z a ha, fun z a ha => by rw [hxi.2.2.2.2 a (by omega)]; exact z a ha⟩
  refine sx_aload_n (pc := 0) dX0_queueUp_0 rfl rfl ?_
  refine sx_getr (pc := 1) (ci := 0) (j := 1) (r := 58) dX0_queueUp_1 rfl s_Ho rfl (by decide) lf_X0_15 ?_
  refine sx_iload_n (pc := 4) dX0_queueUp_4 rfl rfl ?_
  refine sx_iald (pc := 5) dX0_queueUp_5 s_borr (by decide) rfl (vp_in_lt (n := 30) ht.1 ht.2 (by decide)) ?_
  refine sx_iconst (pc := 6) (v := (-1)) dX0_queueUp_6 (by decide) ?_
  refine sx_icmp_eq (pc := 7) (tgt := 24) dX0_queueUp_7 (by decide) (fun c_7 => ?_) (fun c_7 => ?_)
  · have h_7t := c_7
    refine sx_iconst (pc := 24) (v := 0) dX0_queueUp_24 (by decide) ?_
    refine sx_istore_n (pc := 25) (L' := [some (.ref (X.2 + 56)), some (.int ps), some (.int it), some (.int 0), none]) dX0_queueUp_25 rfl (by decide) rfl ?_
    refine sx_aload_n (pc := 26) dX0_queueUp_26 rfl rfl ?_
    refine sx_getr (pc := 27) (ci := 0) (j := 4) (r := 91) dX0_queueUp_27 rfl s_Ho rfl (by decide) lf_X0_26 ?_
    refine sx_iload_n (pc := 30) dX0_queueUp_30 rfl rfl ?_
    refine sx_iald (pc := 31) dX0_queueUp_31 s_qlen (by decide) rfl (vp_in_lt (n := 30) ht.1 ht.2 (by decide)) ?_
    refine sx_istore (pc := 32) (L' := [some (.ref (X.2 + 56)), some (.int ps), some (.int it), some (.int 0), some (.int (μ 91 it.toNatClampNeg))]) dX0_queueUp_32 (by decide) rfl ?_
    refine sx_iload_n (pc := 34) dX0_queueUp_34 rfl rfl ?_
    refine sx_if_eq (pc := 35) (tgt := 57) dX0_queueUp_35 (by decide) (fun c_35 => ?_) (fun c_35 => absurd c_35 (by decide))
    refine sx_iconst (pc := 57) (v := 0) dX0_queueUp_57 (by decide) ?_
    exact sx_iret (pc := 58) dX0_queueUp_58 rfl rfl (Nat.zero_le _) (Nat.zero_le _) (⟨rfl, (Ch.rf), _, rfl, Or.inr ⟨rfl, fun z => by first | exact (nz_pos hlq hle).mp z.1 (bl.mp h_7t) | exact z.2.1 (by rw [nI_cl hp]; exact bp.mp h_17t) | exact hin (bn.mpr z.2.2), hX⟩⟩)
  · have h_7f := c_7
    refine sx_aload_n (pc := 10) dX0_queueUp_10 rfl rfl ?_
    refine sx_getr (pc := 11) (ci := 0) (j := 1) (r := 58) dX0_queueUp_11 rfl s_Ho rfl (by decide) lf_X0_15 ?_
    refine sx_iload_n (pc := 14) dX0_queueUp_14 rfl rfl ?_
    refine sx_iald (pc := 15) dX0_queueUp_15 s_borr (by decide) rfl (vp_in_lt (n := 30) ht.1 ht.2 (by decide)) ?_
    refine sx_iload_n (pc := 16) dX0_queueUp_16 rfl rfl ?_
    refine sx_icmp_eq (pc := 17) (tgt := 24) dX0_queueUp_17 (by decide) (fun c_17 => ?_) (fun c_17 => ?_)
    · have h_17t := c_17
      refine sx_iconst (pc := 24) (v := 0) dX0_queueUp_24 (by decide) ?_
      refine sx_istore_n (pc := 25) (L' := [some (.ref (X.2 + 56)), some (.int ps), some (.int it), some (.int 0), none]) dX0_queueUp_25 rfl (by decide) rfl ?_
      refine sx_aload_n (pc := 26) dX0_queueUp_26 rfl rfl ?_
      refine sx_getr (pc := 27) (ci := 0) (j := 4) (r := 91) dX0_queueUp_27 rfl s_Ho rfl (by decide) lf_X0_26 ?_
      refine sx_iload_n (pc := 30) dX0_queueUp_30 rfl rfl ?_
      refine sx_iald (pc := 31) dX0_queueUp_31 s_qlen (by decide) rfl (vp_in_lt (n := 30) ht.1 ht.2 (by decide)) ?_
      refine sx_istore (pc := 32) (L' := [some (.ref (X.2 + 56)), some (.int ps), some (.int it), some (.int 0), some (.int (μ 91 it.toNatClampNeg))]) dX0_queueUp_32 (by decide) rfl ?_
      refine sx_iload_n (pc := 34) dX0_queueUp_34 rfl rfl ?_
      refine sx_if_eq (pc := 35) (tgt := 57) dX0_queueUp_35 (by decide) (fun c_35 => ?_) (fun c_35 => absurd c_35 (by decide))
      refine sx_iconst (pc := 57) (v := 0) dX0_queueUp_57 (by decide) ?_
      exact sx_iret (pc := 58) dX0_queueUp_58 rfl rfl (Nat.zero_le _) (Nat.zero_le _) (⟨rfl, (Ch.rf), _, rfl, Or.inr ⟨rfl, fun z => by first | exact (nz_pos hlq hle).mp z.1 (bl.mp h_7t) | exact z.2.1 (by rw [nI_cl hp]; exact bp.mp h_17t) | exact hin (bn.mpr z.2.2), hX⟩⟩)
    · have h_17f := c_17
      refine sx_iconst (pc := 20) (v := 1) dX0_queueUp_20 (by decide) ?_
      refine sx_goto (pc := 21) (tgt := 25) dX0_queueUp_21 (by decide) ?_
      refine sx_istore_n (pc := 25) (L' := [some (.ref (X.2 + 56)), some (.int ps), some (.int it), some (.int 1), none]) dX0_queueUp_25 rfl (by decide) rfl ?_
      refine sx_aload_n (pc := 26) dX0_queueUp_26 rfl rfl ?_
      refine sx_getr (pc := 27) (ci := 0) (j := 4) (r := 91) dX0_queueUp_27 rfl s_Ho rfl (by decide) lf_X0_26 ?_
      refine sx_iload_n (pc := 30) dX0_queueUp_30 rfl rfl ?_
      refine sx_iald (pc := 31) dX0_queueUp_31 s_qlen (by decide) rfl (vp_in_lt (n := 30) ht.1 ht.2 (by decide)) ?_
      refine sx_istore (pc := 32) (L' := [some (.ref (X.2 + 56)), some (.int ps), some (.int it), some (.int 1), some (.int (μ 91 it.toNatClampNeg))]) dX0_queueUp_32 (by decide) rfl ?_
      refine sx_iload_n (pc := 34) dX0_queueUp_34 rfl rfl ?_
      refine sx_if_eq (pc := 35) (tgt := 57) dX0_queueUp_35 (by decide) (fun c_35 => absurd c_35 (by decide)) (fun c_35 => ?_)
      refine sx_aload_n (pc := 38) dX0_queueUp_38 rfl rfl ?_
      refine sx_iload_n (pc := 39) dX0_queueUp_39 rfl rfl ?_
      refine sx_iload_n (pc := 40) dX0_queueUp_40 rfl rfl ?_
      refine sx_callV (pc := 41) (As := [.int ps, .int it]) dX0_queueUp_41 (c_inq X Ex hE μ _ _ ht q hq hμq) mX0_isInQueue lm_X0_69 rfl s_Ho rfl ⟨Nat.le_of_ble_eq_true rfl, Nat.le_of_ble_eq_true rfl⟩ ⟨Nat.le_of_ble_eq_true rfl, Nat.le_of_ble_eq_true rfl⟩ (Nat.le_of_ble_eq_true rfl) hE (fun r_41 sh1 μ1 h_41 => ?_)
      obtain ⟨rfl, rfl, x_41, rfl, hx_41⟩ := h_41
      refine sx_if_ne (pc := 44) (tgt := 57) dX0_queueUp_44 (by decide) (fun c_44 => ?_) (fun c_44 => ?_)
      · have h_44t := c_44
        have hin := hx_41.elim (fun z => z.2) (fun z => absurd z.1 h_44t)
        refine sx_iconst (pc := 57) (v := 0) dX0_queueUp_57 (by decide) ?_
        exact sx_iret (pc := 58) dX0_queueUp_58 rfl rfl (Nat.zero_le _) (Nat.zero_le _) (⟨rfl, (Ch.rf), _, rfl, Or.inr ⟨rfl, fun z => by first | exact (nz_pos hlq hle).mp z.1 (bl.mp h_7t) | exact z.2.1 (by rw [nI_cl hp]; exact bp.mp h_17t) | exact hin (bn.mpr z.2.2), hX⟩⟩)
      · have h_44f := c_44
        have hin := hx_41.elim (fun z => absurd (z.1.symm.trans h_44f) (by decide)) (fun z => z.2)
        have hq30 := pig hwi hq hpp (fun a ha => by have := bn.mp hin; rw [ecq] at this; exact this a ha)
        refine sx_iload (pc := 47) dX0_queueUp_47 rfl ?_
        refine sx_bipush (pc := 49) (v := 30) dX0_queueUp_49 (by decide) ?_
        refine sx_callSN (host := "ExchangeWire") (pc := 51) (As := [.int (μ 91 it.toNatClampNeg), .int 30]) dX0_queueUp_51 (c_isBelow X Ex false shA μ _ _) mX5_isBelow (by decide +kernel) rfl ⟨Nat.le_of_ble_eq_true rfl, Nat.le_of_ble_eq_true rfl⟩ ⟨Nat.le_of_ble_eq_true rfl, Nat.le_of_ble_eq_true rfl⟩ (Nat.le_of_ble_eq_true rfl) hE (fun r_51 sh1 μ2 h_51 => ?_)
        obtain ⟨rfl, rfl, x_51, rfl, hx_51⟩ := h_51
        refine sx_if_ne (pc := 54) (tgt := 59) dX0_queueUp_54 (by decide) (fun c_54 => ?_) (fun c_54 => absurd (show 0 ≤ μ 91 it.toNatClampNeg ∧ μ 91 it.toNatClampNeg < 30 by rw [hμq]; exact ⟨nI_pos' (by omega), nI_lt (b := 30) hq30 (by decide)⟩) (isB_f hx_51 c_54))
        refine sx_aload_n (pc := 59) dX0_queueUp_59 rfl rfl ?_
        refine sx_getr (pc := 60) (ci := 0) (j := 3) (r := 60) dX0_queueUp_60 rfl s_Ho rfl (by decide) lf_X0_23 ?_
        refine sx_iload_n (pc := 63) dX0_queueUp_63 rfl rfl ?_
        refine sx_aald (pc := 64) (r := 61 + it.toNatClampNeg) dX0_queueUp_64 s_queues rfl rfl (vp_in_lt (n := 30) ht.1 ht.2 (by decide)) (el_queues _ hi) ?_
        refine sx_iload (pc := 65) dX0_queueUp_65 rfl ?_
        refine sx_iload_n (pc := 67) dX0_queueUp_67 rfl rfl ?_
        refine sx_iast (pc := 68) dX0_queueUp_68 (s_qrow _ hi) (by decide) rfl (by rw [hμq]; exact vp_in_nI (by omega) (by decide)) (fun μ3 hμ3 => ?_)
        refine sx_aload_n (pc := 69) dX0_queueUp_69 rfl rfl ?_
        refine sx_getr (pc := 70) (ci := 0) (j := 4) (r := 91) dX0_queueUp_70 rfl s_Ho rfl (by decide) lf_X0_26 ?_
        refine sx_iload_n (pc := 73) dX0_queueUp_73 rfl rfl ?_
        refine sx_iload (pc := 74) dX0_queueUp_74 rfl ?_
        refine sx_iconst (pc := 76) (v := 1) dX0_queueUp_76 (by decide) ?_
        refine sx_iadd (pc := 77) dX0_queueUp_77 ?_
        refine sx_iast (pc := 78) dX0_queueUp_78 s_qlen (by decide) rfl (vp_in_lt (n := 30) ht.1 ht.2 (by decide)) (fun μ4 hμ4 => ?_)
        refine sx_iconst (pc := 79) (v := 1) dX0_queueUp_79 (by decide) ?_
        exact sx_iret (pc := 80) dX0_queueUp_80 rfl rfl (Nat.zero_le _) (Nat.zero_le _) (⟨rfl, (Ch.put (Ch.put (Ch.rf) hμ3 (by omega) (LB.off hμ3 ⟨by omega, fun _ _ => by omega⟩)) hμ4 (by omega) (LB.qln hμ4 (fun _ => by rw [hμq]; exact inc30 ⟨nI_pos' (by omega), nI_lt (b := 30) hq30 (by decide)⟩))), _, rfl, Or.inl ⟨rfl, ⟨(nz_pos hlq hle).mpr (fun z => h_7f (bl.mpr z)), fun z => h_17f (bp.mpr (by rw [nI_cl hp] at z; exact z)), bn.mp hin⟩, hx_H hX (μ1 := μ3) hi hq30 hμq0 (by rw [nI_cl hp]; have z1 := hμ3; rw [hμq, nI_clamp (n := q) (by omega)] at z1; exact z1) (by have z2 := hμ4; rw [hμq] at z2; exact z2)⟩⟩)
theorem le0 {x : Int32} {q : Nat} (hq : q ≤ 30) (h : x = nI q) (hn : ¬ 0 < x) : x = 0 := by
  rw [h, show (0 : Int32) = nI 0 from rfl, nI_ltI (by decide) (by omega)] at hn
  rw [h, show q = 0 by omega]; rfl
set_option maxHeartbeats 1000000 in
set_option maxRecDepth 20000 in
theorem c_renew (X : xD) (Ex : State → Prop) (hE : xEs X false shA.length Ex) (μ : xM) (ps : Int32) (hp : 0 ≤ ps ∧ ps < 30) (it : Int32) (ht : 0 ≤ it ∧ it < 30) {h : HT} (hX : Hx μ h) {n : Nat} (hW : HW n h) : Ct X Ex false yX0_renew kX0_renew (rmN 0) [.ref (X.2 + 56), .int ps, .int it] shA μ (fun r sh' μ' => shA = sh' ∧ Ch SH μ μ' ∧ ∃ x : Int32, r = some (.int x) ∧ ((x = 1 ∧ oR h it.toNatClampNeg ps.toNatClampNeg ∧ Hx μ' (tR h it.toNatClampNeg ps.toNatClampNeg)) ∨ (x = 0 ∧ ¬ oR h it.toNatClampNeg ps.toNatClampNeg ∧ Hx μ' h))) := by
  refine Ct.of (L0 := [some (.ref (X.2 + 56)), some (.int ps), some (.int it), none]) (by decide) rfl (fun h => by cases h) (by simp [Value.category]) (Nat.le_of_ble_eq_true rfl) rfl (fun l => ?_)
  have hi := clamp_lt (n := 30) ht.1 ht.2 (by decide)
  have hxi := hX _ hi
  have bl := m1_iff hxi.2.1
  obtain ⟨⟨q, hq, hμq0, hwi⟩, ⟨lq, hlq, hle⟩⟩ := hW.1 _ hi
  have hμq : μ 91 it.toNatClampNeg = nI q := hxi.2.2.2.1.trans hμq0
  have hpp := clamp_lt (n := 30) hp.1 hp.2 (by decide)
  have hxp := hX _ hpp
  have bp := p1_iff (z := ps) hxi.2.1
  have ln0 : vL h it.toNatClampNeg = nI ps.toNatClampNeg + 1 → vL h it.toNatClampNeg ≠ 0 := fun z w => by rw [z, nI_1, show (0 : Int32) = nI 0 from rfl, nI_eq (by omega) (by decide)] at w; omega
  refine sx_aload_n (pc := 0) dX0_renew_0 rfl rfl ?_
  refine sx_getr (pc := 1) (ci := 0) (j := 1) (r := 58) dX0_renew_1 rfl s_Ho rfl (by decide) lf_X0_15 ?_
  refine sx_iload_n (pc := 4) dX0_renew_4 rfl rfl ?_
  refine sx_iald (pc := 5) dX0_renew_5 s_borr (by decide) rfl (vp_in_lt (n := 30) ht.1 ht.2 (by decide)) ?_
  refine sx_iload_n (pc := 6) dX0_renew_6 rfl rfl ?_
  refine sx_icmp_ne (pc := 7) (tgt := 14) dX0_renew_7 (by decide) (fun c_7 => ?_) (fun c_7 => ?_)
  · have h_7t := c_7
    refine sx_iconst (pc := 14) (v := 0) dX0_renew_14 (by decide) ?_
    refine sx_istore_n (pc := 15) (L' := [some (.ref (X.2 + 56)), some (.int ps), some (.int it), some (.int 0)]) dX0_renew_15 rfl (by decide) rfl ?_
    refine sx_iload_n (pc := 16) dX0_renew_16 rfl rfl ?_
    refine sx_if_eq (pc := 17) (tgt := 39) dX0_renew_17 (by decide) (fun c_17 => ?_) (fun c_17 => absurd c_17 (by decide))
    refine sx_iconst (pc := 39) (v := 0) dX0_renew_39 (by decide) ?_
    exact sx_iret (pc := 40) dX0_renew_40 rfl rfl (Nat.zero_le _) (Nat.zero_le _) (⟨rfl, (Ch.rf), _, rfl, Or.inr ⟨rfl, fun z => by first | exact h_7t (bp.mpr (by rw [← nI_cl hp]; exact z.1)) | (rw [hxi.2.2.2.1, z.2.1] at h_26t; exact absurd h_26t (by decide)) | exact h_36f (by rw [hxi.2.2.1 (ln0 z.1)]; exact z.2.2), hX⟩⟩)
  · have h_7f := c_7
    refine sx_iconst (pc := 10) (v := 1) dX0_renew_10 (by decide) ?_
    refine sx_goto (pc := 11) (tgt := 15) dX0_renew_11 (by decide) ?_
    refine sx_istore_n (pc := 15) (L' := [some (.ref (X.2 + 56)), some (.int ps), some (.int it), some (.int 1)]) dX0_renew_15 rfl (by decide) rfl ?_
    refine sx_iload_n (pc := 16) dX0_renew_16 rfl rfl ?_
    refine sx_if_eq (pc := 17) (tgt := 39) dX0_renew_17 (by decide) (fun c_17 => absurd c_17 (by decide)) (fun c_17 => ?_)
    refine sx_aload_n (pc := 20) dX0_renew_20 rfl rfl ?_
    refine sx_getr (pc := 21) (ci := 0) (j := 4) (r := 91) dX0_renew_21 rfl s_Ho rfl (by decide) lf_X0_26 ?_
    refine sx_iload_n (pc := 24) dX0_renew_24 rfl rfl ?_
    refine sx_iald (pc := 25) dX0_renew_25 s_qlen (by decide) rfl (vp_in_lt (n := 30) ht.1 ht.2 (by decide)) ?_
    refine sx_if_gt (pc := 26) (tgt := 39) dX0_renew_26 (by decide) (fun c_26 => ?_) (fun c_26 => ?_)
    · have h_26t := c_26
      refine sx_iconst (pc := 39) (v := 0) dX0_renew_39 (by decide) ?_
      exact sx_iret (pc := 40) dX0_renew_40 rfl rfl (Nat.zero_le _) (Nat.zero_le _) (⟨rfl, (Ch.rf), _, rfl, Or.inr ⟨rfl, fun z => by first | exact h_7t (bp.mpr (by rw [← nI_cl hp]; exact z.1)) | (rw [hxi.2.2.2.1, z.2.1] at h_26t; exact absurd h_26t (by decide)) | exact h_36f (by rw [hxi.2.2.1 (ln0 z.1)]; exact z.2.2), hX⟩⟩)
    · have h_26f := c_26
      refine sx_aload_n (pc := 29) dX0_renew_29 rfl rfl ?_
      refine sx_getr (pc := 30) (ci := 0) (j := 2) (r := 59) dX0_renew_30 rfl s_Ho rfl (by decide) lf_X0_18 ?_
      refine sx_iload_n (pc := 33) dX0_renew_33 rfl rfl ?_
      refine sx_iald (pc := 34) dX0_renew_34 s_rene (by decide) rfl (vp_in_lt (n := 30) ht.1 ht.2 (by decide)) ?_
      refine sx_iconst (pc := 35) (v := 2) dX0_renew_35 (by decide) ?_
      refine sx_icmp_lt (pc := 36) (tgt := 41) dX0_renew_36 (by decide) (fun c_36 => ?_) (fun c_36 => ?_)
      · have h_36t := c_36
        refine sx_aload_n (pc := 41) dX0_renew_41 rfl rfl ?_
        refine sx_getr (pc := 42) (ci := 0) (j := 2) (r := 59) dX0_renew_42 rfl s_Ho rfl (by decide) lf_X0_18 ?_
        refine sx_iload_n (pc := 45) dX0_renew_45 rfl rfl ?_
        refine sx_dup2 (pc := 46) dX0_renew_46 rfl rfl ?_
        refine sx_iald (pc := 47) dX0_renew_47 s_rene (by decide) rfl (vp_in_lt (n := 30) ht.1 ht.2 (by decide)) ?_
        refine sx_iconst (pc := 48) (v := 1) dX0_renew_48 (by decide) ?_
        refine sx_iadd (pc := 49) dX0_renew_49 ?_
        refine sx_iast (pc := 50) dX0_renew_50 s_rene (by decide) rfl (vp_in_lt (n := 30) ht.1 ht.2 (by decide)) (fun μ1 hμ1 => ?_)
        refine sx_iconst (pc := 51) (v := 1) dX0_renew_51 (by decide) ?_
        exact sx_iret (pc := 52) dX0_renew_52 rfl rfl (Nat.zero_le _) (Nat.zero_le _) (by have z1 : vL h it.toNatClampNeg = nI ps.toNatClampNeg + 1 := (by rw [nI_cl hp]; exact bp.mp h_7f); exact ⟨rfl, (Ch.put (Ch.rf) hμ1 (by omega) (LB.off hμ1 ⟨by omega, fun _ _ => by omega⟩)), _, rfl, Or.inl ⟨rfl, ⟨z1, le0 hq hμq0 (by rw [← hxi.2.2.2.1]; exact h_26f), by rw [← hxi.2.2.1 (ln0 z1)]; exact h_36t⟩, hx_R hX hi (ln0 z1) hμ1⟩⟩)
      · have h_36f := c_36
        refine sx_iconst (pc := 39) (v := 0) dX0_renew_39 (by decide) ?_
        exact sx_iret (pc := 40) dX0_renew_40 rfl rfl (Nat.zero_le _) (Nat.zero_le _) (⟨rfl, (Ch.rf), _, rfl, Or.inr ⟨rfl, fun z => by first | exact h_7t (bp.mpr (by rw [← nI_cl hp]; exact z.1)) | (rw [hxi.2.2.2.1, z.2.1] at h_26t; exact absurd h_26t (by decide)) | exact h_36f (by rw [hxi.2.2.1 (ln0 z.1)]; exact z.2.2), hX⟩⟩)
set_option maxHeartbeats 1000000 in
set_option maxRecDepth 20000 in
theorem l_items {X : xD} {Ex : State → Prop} {l : Launch} {ps : Int32} {μ : xM} : ∀ (t j : Nat) (v : Int32), 30 - j ≤ t → j ≤ 30 → sx l (rmN 0) X Ex false kX0_itemsOf shA.length (xZ X false shA.length (fun r sh' μ' => shA = sh' ∧ μ = μ' ∧ ∃ x : Int32, r = some (.int x)) 0 0) 4 [some (.ref (X.2 + 56)), some (.int ps), some (.int v), some (.int (nI j))] [] shA μ 0 0 := by
  intro t
  induction t with
  | zero =>
    intro j v htt hj
    refine sx_iload_n (pc := 4) dX0_itemsOf_4 rfl rfl ?_
    refine sx_bipush (pc := 5) (v := 30) dX0_itemsOf_5 (by decide) ?_
    refine sx_icmp_ge (pc := 7) (tgt := 29) dX0_itemsOf_7 (by decide) (fun c_7 => ?_) (fun c_7 => absurd (nI_le (a := 30) (b := j) (by omega) (by omega)) c_7)
    refine sx_iload_n (pc := 29) dX0_itemsOf_29 rfl rfl ?_
    exact sx_iret (pc := 30) dX0_itemsOf_30 rfl rfl (Nat.zero_le _) (Nat.zero_le _) (⟨rfl, rfl, _, rfl⟩)
  | succ t ih =>
    intro j v htt hj
    refine sx_iload_n (pc := 4) dX0_itemsOf_4 rfl rfl ?_
    refine sx_bipush (pc := 5) (v := 30) dX0_itemsOf_5 (by decide) ?_
    refine sx_icmp_ge (pc := 7) (tgt := 29) dX0_itemsOf_7 (by decide) (fun c_7 => ?_) (fun c_7 => ?_)
    · have h_7t := c_7
      refine sx_iload_n (pc := 29) dX0_itemsOf_29 rfl rfl ?_
      exact sx_iret (pc := 30) dX0_itemsOf_30 rfl rfl (Nat.zero_le _) (Nat.zero_le _) (⟨rfl, rfl, _, rfl⟩)
    · have h_7f := c_7
      have hlt : j < 30 := Nat.lt_of_not_le fun z => h_7f (nI_le (a := 30) z (by omega))
      refine sx_aload_n (pc := 10) dX0_itemsOf_10 rfl rfl ?_
      refine sx_getr (pc := 11) (ci := 0) (j := 1) (r := 58) dX0_itemsOf_11 rfl s_Ho rfl (by decide) lf_X0_15 ?_
      refine sx_iload_n (pc := 14) dX0_itemsOf_14 rfl rfl ?_
      refine sx_iald (pc := 15) dX0_itemsOf_15 s_borr (by decide) rfl (vp_in_nI (by omega) (by decide)) ?_
      refine sx_iload_n (pc := 16) dX0_itemsOf_16 rfl rfl ?_
      refine sx_icmp_ne (pc := 17) (tgt := 23) dX0_itemsOf_17 (by decide) (fun c_17 => ?_) (fun c_17 => ?_)
      · have h_17t := c_17
        refine sx_iinc (pc := 23) (v := nI (j + 1)) (L' := [some (.ref (X.2 + 56)), some (.int ps), some (.int v), some (.int (nI (j + 1)))]) dX0_itemsOf_23 rfl (nI_1 j) (by decide) rfl ?_
        refine sx_goto (pc := 26) (tgt := 4) dX0_itemsOf_26 (by decide) ?_
        exact ih (j + 1) _ (by omega) (by omega)
      · have h_17f := c_17
        refine sx_iinc (pc := 20) (v := v + 1) (L' := [some (.ref (X.2 + 56)), some (.int ps), some (.int (v + 1)), some (.int (nI j))]) dX0_itemsOf_20 rfl rfl (by decide) rfl ?_
        refine sx_iinc (pc := 23) (v := nI (j + 1)) (L' := [some (.ref (X.2 + 56)), some (.int ps), some (.int (v + 1)), some (.int (nI (j + 1)))]) dX0_itemsOf_23 rfl (nI_1 j) (by decide) rfl ?_
        refine sx_goto (pc := 26) (tgt := 4) dX0_itemsOf_26 (by decide) ?_
        exact ih (j + 1) _ (by omega) (by omega)
set_option maxHeartbeats 1000000 in
set_option maxRecDepth 20000 in
theorem c_items (X : xD) (Ex : State → Prop) (hE : xEs X false shA.length Ex) (μ : xM) (ps : Int32) : Ct X Ex false yX0_itemsOf kX0_itemsOf (rmN 0) [.ref (X.2 + 56), .int ps] shA μ (fun r sh' μ' => shA = sh' ∧ μ = μ' ∧ ∃ x : Int32, r = some (.int x)) := by
  refine Ct.of (L0 := [some (.ref (X.2 + 56)), some (.int ps), none, none]) (by decide) rfl (fun h => by cases h) (by simp [Value.category]) (Nat.le_of_ble_eq_true rfl) rfl (fun l => ?_)
  refine sx_iconst (pc := 0) (v := 0) dX0_itemsOf_0 (by decide) ?_
  refine sx_istore_n (pc := 1) (L' := [some (.ref (X.2 + 56)), some (.int ps), some (.int 0), none]) dX0_itemsOf_1 rfl (by decide) rfl ?_
  refine sx_iconst (pc := 2) (v := 0) dX0_itemsOf_2 (by decide) ?_
  refine sx_istore_n (pc := 3) (L' := [some (.ref (X.2 + 56)), some (.int ps), some (.int 0), some (.int 0)]) dX0_itemsOf_3 rfl (by decide) rfl ?_
  exact l_items 30 0 0 (by omega) (Nat.zero_le _)
section VDC
variable (h : HT) (i p : Nat) (c : Int32)
theorem vdc_C : vdc h 67 i p c = oC h i p := by rw [vdc, if_pos rfl]
theorem vdc_B : vdc h 66 i p c = oB h i := by rw [vdc, if_neg (by decide), if_pos rfl]
theorem vdc_F : vdc h 70 i p c = oF h p c := by rw [vdc, if_neg (by decide), if_neg (by decide), if_pos rfl]
theorem vdc_H : vdc h 72 i p c = oH h i p := by rw [vdc, if_neg (by decide), if_neg (by decide), if_neg (by decide), if_pos rfl]
theorem vdc_R : vdc h 82 i p c = oR h i p := by rw [vdc, if_neg (by decide), if_neg (by decide), if_neg (by decide), if_neg (by decide), if_pos rfl]
theorem chg_C : chg h 67 i p c = tC h i p := by rw [chg, if_pos rfl]
theorem chg_B : chg h 66 i p c = tB h i := by rw [chg, if_neg (by decide), if_pos rfl]
theorem chg_F : chg h 70 i p c = tF h p c := by rw [chg, if_neg (by decide), if_neg (by decide), if_pos rfl]
theorem chg_H : chg h 72 i p c = tH h i p := by rw [chg, if_neg (by decide), if_neg (by decide), if_neg (by decide), if_pos rfl]
theorem chg_R : chg h 82 i p c = tR h i p := by rw [chg, if_neg (by decide), if_neg (by decide), if_neg (by decide), if_neg (by decide), if_pos rfl]
theorem vdc_o {k : Int32} (w : ¬ k = 66 ∧ ¬ k = 67 ∧ ¬ k = 70 ∧ ¬ k = 72 ∧ ¬ k = 82) : vdc h k i p c = True := by rw [vdc, if_neg w.2.1, if_neg w.1, if_neg w.2.2.1, if_neg w.2.2.2.1, if_neg w.2.2.2.2]
theorem chg_o {k : Int32} (w : ¬ k = 66 ∧ ¬ k = 67 ∧ ¬ k = 70 ∧ ¬ k = 72 ∧ ¬ k = 82) : chg h k i p c = h := by rw [chg, if_neg w.2.1, if_neg w.1, if_neg w.2.2.1, if_neg w.2.2.2.1, if_neg w.2.2.2.2]
end VDC
theorem dq_bb {x : Int32} {A B C D : Prop} (h : (x = 1 ∧ A ∧ B) ∨ (x = 0 ∧ C ∧ D)) : x = 0 ∨ x = 1 := by
  rcases h with h | h
  · exact Or.inr h.1
  · exact Or.inl h.1
set_option maxHeartbeats 1000000 in
set_option maxRecDepth 20000 in
theorem c_decide (X : xD) (Ex : State → Prop) (hE : xEs X false shA.length Ex) (μ : xM) (hG : GD μ) (hL : LB μ) {h : HT} (hX : Hx μ h) {n : Nat} (hW : HW n h) : Ct X Ex false yX0_decide kX0_decide (rmN 2) [.ref (X.2 + 56), .ref (X.2 + 94)] shA μ (fun r sh' μ' => shA = sh' ∧ Ch SH μ μ' ∧ ∃ x : Int32, r = some (.int x) ∧ ((x = 1 ∧ vdc h (μ 94 0) (μ 94 3).toNatClampNeg (μ 94 2).toNatClampNeg (μ 94 4) ∧ Hx μ' (chg h (μ 94 0) (μ 94 3).toNatClampNeg (μ 94 2).toNatClampNeg (μ 94 4))) ∨ (x = 0 ∧ ¬ vdc h (μ 94 0) (μ 94 3).toNatClampNeg (μ 94 2).toNatClampNeg (μ 94 4) ∧ Hx μ' h))) := by
  refine Ct.of (L0 := [some (.ref (X.2 + 56)), some (.ref (X.2 + 94))]) (by decide) rfl (fun h => by cases h) (by simp [Value.category]) (Nat.le_of_ble_eq_true rfl) rfl (fun l => ?_)
  refine sx_aload_n (pc := 0) dX0_decide_0 rfl rfl ?_
  refine sx_geti (pc := 1) (ci := 3) (j := 0) dX0_decide_1 rfl s_Me rfl (by decide) lf_X0_29 ?_
  generalize hkd : μ 94 0 = kd
  rcases lk5 kd with rfl | rfl | rfl | rfl | rfl | w_4
  · refine sx_lookup (pc := 4) (off := 65) (tgt := 69) dX0_decide_4 (by decide) (by decide) (by decide) ?_
    refine sx_aload_n (pc := 69) dX0_decide_69 rfl rfl ?_
    refine sx_aload_n (pc := 70) dX0_decide_70 rfl rfl ?_
    refine sx_geti (pc := 71) (ci := 3) (j := 3) dX0_decide_71 rfl s_Me rfl (by decide) lf_X0_38 ?_
    refine sx_callV (pc := 74) (As := [.int (μ 94 3)]) dX0_decide_74 (c_bring X Ex hE μ _ ((hG 2 (by rw [hkd]; decide)).1 (by decide)) hX hW) mX0_bringBack lm_X0_45 rfl s_Ho rfl ⟨Nat.le_of_ble_eq_true rfl, Nat.le_of_ble_eq_true rfl⟩ ⟨Nat.le_of_ble_eq_true rfl, Nat.le_of_ble_eq_true rfl⟩ (Nat.le_of_ble_eq_true rfl) hE (fun r_74 sh1 μ1 h_74 => ?_)
    obtain ⟨rfl, k_74, x_74, rfl, hx_74⟩ := h_74
    exact sx_iret (pc := 77) dX0_decide_77 rfl (bool_n (dq_bb hx_74)) (Nat.zero_le _) (Nat.zero_le _) (⟨rfl, (Ch.trans (Ch.rf) k_74), _, rfl, by rw [vdc_B, chg_B]; exact hx_74⟩)
  · refine sx_lookup (pc := 4) (off := 52) (tgt := 56) dX0_decide_4 (by decide) (by decide) (by decide) ?_
    refine sx_aload_n (pc := 56) dX0_decide_56 rfl rfl ?_
    refine sx_aload_n (pc := 57) dX0_decide_57 rfl rfl ?_
    refine sx_geti (pc := 58) (ci := 3) (j := 2) dX0_decide_58 rfl s_Me rfl (by decide) lf_X0_35 ?_
    refine sx_aload_n (pc := 61) dX0_decide_61 rfl rfl ?_
    refine sx_geti (pc := 62) (ci := 3) (j := 3) dX0_decide_62 rfl s_Me rfl (by decide) lf_X0_38 ?_
    refine sx_callV (pc := 65) (As := [.int (μ 94 2), .int (μ 94 3)]) dX0_decide_65 (c_lend X Ex hE μ _ ((hG 1 (by rw [hkd]; decide)).2 (by decide)) _ ((hG 1 (by rw [hkd]; decide)).1 (by decide)) hX hW) mX0_lend lm_X0_41 rfl s_Ho rfl ⟨Nat.le_of_ble_eq_true rfl, Nat.le_of_ble_eq_true rfl⟩ ⟨Nat.le_of_ble_eq_true rfl, Nat.le_of_ble_eq_true rfl⟩ (Nat.le_of_ble_eq_true rfl) hE (fun r_65 sh1 μ2 h_65 => ?_)
    obtain ⟨rfl, k_65, x_65, rfl, hx_65⟩ := h_65
    exact sx_iret (pc := 68) dX0_decide_68 rfl (bool_n (dq_bb hx_65)) (Nat.zero_le _) (Nat.zero_le _) (⟨rfl, (Ch.trans (Ch.rf) k_65), _, rfl, by rw [vdc_C, chg_C]; exact hx_65⟩)
  · refine sx_lookup (pc := 4) (off := 74) (tgt := 78) dX0_decide_4 (by decide) (by decide) (by decide) ?_
    refine sx_aload_n (pc := 78) dX0_decide_78 rfl rfl ?_
    refine sx_aload_n (pc := 79) dX0_decide_79 rfl rfl ?_
    refine sx_geti (pc := 80) (ci := 3) (j := 2) dX0_decide_80 rfl s_Me rfl (by decide) lf_X0_35 ?_
    refine sx_aload_n (pc := 83) dX0_decide_83 rfl rfl ?_
    refine sx_geti (pc := 84) (ci := 3) (j := 4) dX0_decide_84 rfl s_Me rfl (by decide) lf_X0_49 ?_
    refine sx_callV (pc := 87) (As := [.int (μ 94 2), .int (μ 94 4)]) dX0_decide_87 (c_pay X Ex hE μ _ ((hG 4 (by rw [hkd]; decide)).2 (by decide)) _ hX hW) mX0_pay lm_X0_52 rfl s_Ho rfl ⟨Nat.le_of_ble_eq_true rfl, Nat.le_of_ble_eq_true rfl⟩ ⟨Nat.le_of_ble_eq_true rfl, Nat.le_of_ble_eq_true rfl⟩ (Nat.le_of_ble_eq_true rfl) hE (fun r_87 sh1 μ3 h_87 => ?_)
    obtain ⟨rfl, k_87, x_87, rfl, hx_87⟩ := h_87
    exact sx_iret (pc := 90) dX0_decide_90 rfl (bool_n (dq_bb hx_87)) (Nat.zero_le _) (Nat.zero_le _) (⟨rfl, (Ch.trans (Ch.rf) k_87), _, rfl, by rw [vdc_F, chg_F]; exact hx_87⟩)
  · refine sx_lookup (pc := 4) (off := 87) (tgt := 91) dX0_decide_4 (by decide) (by decide) (by decide) ?_
    refine sx_aload_n (pc := 91) dX0_decide_91 rfl rfl ?_
    refine sx_aload_n (pc := 92) dX0_decide_92 rfl rfl ?_
    refine sx_geti (pc := 93) (ci := 3) (j := 2) dX0_decide_93 rfl s_Me rfl (by decide) lf_X0_35 ?_
    refine sx_aload_n (pc := 96) dX0_decide_96 rfl rfl ?_
    refine sx_geti (pc := 97) (ci := 3) (j := 3) dX0_decide_97 rfl s_Me rfl (by decide) lf_X0_38 ?_
    refine sx_callV (pc := 100) (As := [.int (μ 94 2), .int (μ 94 3)]) dX0_decide_100 (c_queueUp X Ex hE μ _ ((hG 1 (by rw [hkd]; decide)).2 (by decide)) _ ((hG 1 (by rw [hkd]; decide)).1 (by decide)) hX hW) mX0_queueUp lm_X0_55 rfl s_Ho rfl ⟨Nat.le_of_ble_eq_true rfl, Nat.le_of_ble_eq_true rfl⟩ ⟨Nat.le_of_ble_eq_true rfl, Nat.le_of_ble_eq_true rfl⟩ (Nat.le_of_ble_eq_true rfl) hE (fun r_100 sh1 μ4 h_100 => ?_)
    obtain ⟨rfl, k_100, x_100, rfl, hx_100⟩ := h_100
    exact sx_iret (pc := 103) dX0_decide_103 rfl (bool_n (dq_bb hx_100)) (Nat.zero_le _) (Nat.zero_le _) (⟨rfl, (Ch.trans (Ch.rf) k_100), _, rfl, by rw [vdc_H, chg_H]; exact hx_100⟩)
  · refine sx_lookup (pc := 4) (off := 100) (tgt := 104) dX0_decide_4 (by decide) (by decide) (by decide) ?_
    refine sx_aload_n (pc := 104) dX0_decide_104 rfl rfl ?_
    refine sx_aload_n (pc := 105) dX0_decide_105 rfl rfl ?_
    refine sx_geti (pc := 106) (ci := 3) (j := 2) dX0_decide_106 rfl s_Me rfl (by decide) lf_X0_35 ?_
    refine sx_aload_n (pc := 109) dX0_decide_109 rfl rfl ?_
    refine sx_geti (pc := 110) (ci := 3) (j := 3) dX0_decide_110 rfl s_Me rfl (by decide) lf_X0_38 ?_
    refine sx_callV (pc := 113) (As := [.int (μ 94 2), .int (μ 94 3)]) dX0_decide_113 (c_renew X Ex hE μ _ ((hG 1 (by rw [hkd]; decide)).2 (by decide)) _ ((hG 1 (by rw [hkd]; decide)).1 (by decide)) hX hW) mX0_renew lm_X0_58 rfl s_Ho rfl ⟨Nat.le_of_ble_eq_true rfl, Nat.le_of_ble_eq_true rfl⟩ ⟨Nat.le_of_ble_eq_true rfl, Nat.le_of_ble_eq_true rfl⟩ (Nat.le_of_ble_eq_true rfl) hE (fun r_113 sh1 μ5 h_113 => ?_)
    obtain ⟨rfl, k_113, x_113, rfl, hx_113⟩ := h_113
    exact sx_iret (pc := 116) dX0_decide_116 rfl (bool_n (dq_bb hx_113)) (Nat.zero_le _) (Nat.zero_le _) (⟨rfl, (Ch.trans (Ch.rf) k_113), _, rfl, by rw [vdc_R, chg_R]; exact hx_113⟩)
  · refine sx_lookup (pc := 4) (off := 113) (tgt := 117) dX0_decide_4 (by decide) (by show Op.lookupswitch.offset [(66, 65), (67, 52), (70, 74), (72, 87), (82, 100)] 113 _ = _; rw [lv_osw (k := 66) (a := 66) w_4.1 (by decide), lv_osw (k := 67) (a := 67) w_4.2.1 (by decide), lv_osw (k := 70) (a := 70) w_4.2.2.1 (by decide), lv_osw (k := 72) (a := 72) w_4.2.2.2.1 (by decide), lv_osw (k := 82) (a := 82) w_4.2.2.2.2 (by decide)]; rfl) (by decide) ?_
    refine sx_iconst (pc := 117) (v := 1) dX0_decide_117 (by decide) ?_
    exact sx_iret (pc := 118) dX0_decide_118 rfl rfl (Nat.zero_le _) (Nat.zero_le _) (⟨rfl, (Ch.rf), _, rfl, Or.inl ⟨rfl, by rw [vdc_o _ _ _ _ w_4]; trivial, by rw [chg_o _ _ _ _ w_4]; exact hX⟩⟩)
set_option maxHeartbeats 1000000 in
set_option maxRecDepth 20000 in
theorem c_figure (X : xD) (Ex : State → Prop) (hE : xEs X false shA.length Ex) (μ : xM) (hG : GD μ) : Ct X Ex false yX0_figureFor kX0_figureFor (rmN 1) [.ref (X.2 + 56), .ref (X.2 + 94)] shA μ (fun r sh' μ' => shA = sh' ∧ μ = μ' ∧ ∃ x : Int32, r = some (.int x)) := by
  refine Ct.of (L0 := [some (.ref (X.2 + 56)), some (.ref (X.2 + 94))]) (by decide) rfl (fun h => by cases h) (by simp [Value.category]) (Nat.le_of_ble_eq_true rfl) rfl (fun l => ?_)
  refine sx_aload_n (pc := 0) dX0_figureFor_0 rfl rfl ?_
  refine sx_geti (pc := 1) (ci := 3) (j := 0) dX0_figureFor_1 rfl s_Me rfl (by decide) lf_X0_29 ?_
  generalize hkd : μ 94 0 = kd
  rcases sw17 kd with rfl | rfl | rfl | rfl | rfl | rfl | rfl | rfl | rfl | rfl | rfl | rfl | rfl | rfl | rfl | rfl | rfl | w_4
  · refine sx_tableIn (pc := 4) (off := 93) (tgt := 97) dX0_figureFor_4 (by decide) (by decide) (by decide) (by decide) ?_
    refine sx_aload_n (pc := 97) dX0_figureFor_97 rfl rfl ?_
    refine sx_getr (pc := 98) (ci := 0) (j := 4) (r := 91) dX0_figureFor_98 rfl s_Ho rfl (by decide) lf_X0_26 ?_
    refine sx_aload_n (pc := 101) dX0_figureFor_101 rfl rfl ?_
    refine sx_geti (pc := 102) (ci := 3) (j := 3) dX0_figureFor_102 rfl s_Me rfl (by decide) lf_X0_38 ?_
    refine sx_iald (pc := 105) dX0_figureFor_105 s_qlen (by decide) rfl (by first | exact (vp_in_lt (n := 30) ((hG 2 (by rw [hkd]; decide)).1 (by decide)).1 ((hG 2 (by rw [hkd]; decide)).1 (by decide)).2 (by decide)) | exact (vp_in_lt (n := 30) ((hG 1 (by rw [hkd]; decide)).1 (by decide)).1 ((hG 1 (by rw [hkd]; decide)).1 (by decide)).2 (by decide))) ?_
    exact sx_iret (pc := 106) dX0_figureFor_106 rfl rfl (Nat.zero_le _) (Nat.zero_le _) (⟨rfl, rfl, _, rfl⟩)
  · refine sx_tableIn (pc := 4) (off := 84) (tgt := 88) dX0_figureFor_4 (by decide) (by decide) (by decide) (by decide) ?_
    refine sx_aload_n (pc := 88) dX0_figureFor_88 rfl rfl ?_
    refine sx_aload_n (pc := 89) dX0_figureFor_89 rfl rfl ?_
    refine sx_geti (pc := 90) (ci := 3) (j := 2) dX0_figureFor_90 rfl s_Me rfl (by decide) lf_X0_35 ?_
    refine sx_callV (pc := 93) (As := [.int (μ 94 2)]) dX0_figureFor_93 (c_items X Ex hE μ _) mX0_itemsOf lm_X0_61 rfl s_Ho rfl ⟨Nat.le_of_ble_eq_true rfl, Nat.le_of_ble_eq_true rfl⟩ ⟨Nat.le_of_ble_eq_true rfl, Nat.le_of_ble_eq_true rfl⟩ (Nat.le_of_ble_eq_true rfl) hE (fun r_93 sh1 μ1 h_93 => ?_)
    obtain ⟨rfl, rfl, x_93, rfl⟩ := h_93
    exact sx_iret (pc := 96) dX0_figureFor_96 rfl rfl (Nat.zero_le _) (Nat.zero_le _) (⟨rfl, rfl, _, rfl⟩)
  · refine sx_tableIn (pc := 4) (off := 152) (tgt := 156) dX0_figureFor_4 (by decide) (by decide) (by decide) (by decide) ?_
    refine sx_iconst (pc := 156) (v := 0) dX0_figureFor_156 (by decide) ?_
    exact sx_iret (pc := 157) dX0_figureFor_157 rfl rfl (Nat.zero_le _) (Nat.zero_le _) (⟨rfl, rfl, _, rfl⟩)
  · refine sx_tableIn (pc := 4) (off := 152) (tgt := 156) dX0_figureFor_4 (by decide) (by decide) (by decide) (by decide) ?_
    refine sx_iconst (pc := 156) (v := 0) dX0_figureFor_156 (by decide) ?_
    exact sx_iret (pc := 157) dX0_figureFor_157 rfl rfl (Nat.zero_le _) (Nat.zero_le _) (⟨rfl, rfl, _, rfl⟩)
  · refine sx_tableIn (pc := 4) (off := 103) (tgt := 107) dX0_figureFor_4 (by decide) (by decide) (by decide) (by decide) ?_
    refine sx_aload_n (pc := 107) dX0_figureFor_107 rfl rfl ?_
    refine sx_getr (pc := 108) (ci := 0) (j := 0) (r := 57) dX0_figureFor_108 rfl s_Ho rfl (by decide) lf_X0_9 ?_
    refine sx_aload_n (pc := 111) dX0_figureFor_111 rfl rfl ?_
    refine sx_geti (pc := 112) (ci := 3) (j := 2) dX0_figureFor_112 rfl s_Me rfl (by decide) lf_X0_35 ?_
    refine sx_iald (pc := 115) dX0_figureFor_115 s_debts (by decide) rfl (by first | exact (vp_in_lt (n := 30) ((hG 3 (by rw [hkd]; decide)).2 (by decide)).1 ((hG 3 (by rw [hkd]; decide)).2 (by decide)).2 (by decide)) | exact (vp_in_lt (n := 30) ((hG 4 (by rw [hkd]; decide)).2 (by decide)).1 ((hG 4 (by rw [hkd]; decide)).2 (by decide)).2 (by decide))) ?_
    exact sx_iret (pc := 116) dX0_figureFor_116 rfl rfl (Nat.zero_le _) (Nat.zero_le _) (⟨rfl, rfl, _, rfl⟩)
  · refine sx_tableIn (pc := 4) (off := 152) (tgt := 156) dX0_figureFor_4 (by decide) (by decide) (by decide) (by decide) ?_
    refine sx_iconst (pc := 156) (v := 0) dX0_figureFor_156 (by decide) ?_
    exact sx_iret (pc := 157) dX0_figureFor_157 rfl rfl (Nat.zero_le _) (Nat.zero_le _) (⟨rfl, rfl, _, rfl⟩)
  · refine sx_tableIn (pc := 4) (off := 93) (tgt := 97) dX0_figureFor_4 (by decide) (by decide) (by decide) (by decide) ?_
    refine sx_aload_n (pc := 97) dX0_figureFor_97 rfl rfl ?_
    refine sx_getr (pc := 98) (ci := 0) (j := 4) (r := 91) dX0_figureFor_98 rfl s_Ho rfl (by decide) lf_X0_26 ?_
    refine sx_aload_n (pc := 101) dX0_figureFor_101 rfl rfl ?_
    refine sx_geti (pc := 102) (ci := 3) (j := 3) dX0_figureFor_102 rfl s_Me rfl (by decide) lf_X0_38 ?_
    refine sx_iald (pc := 105) dX0_figureFor_105 s_qlen (by decide) rfl (by first | exact (vp_in_lt (n := 30) ((hG 2 (by rw [hkd]; decide)).1 (by decide)).1 ((hG 2 (by rw [hkd]; decide)).1 (by decide)).2 (by decide)) | exact (vp_in_lt (n := 30) ((hG 1 (by rw [hkd]; decide)).1 (by decide)).1 ((hG 1 (by rw [hkd]; decide)).1 (by decide)).2 (by decide))) ?_
    exact sx_iret (pc := 106) dX0_figureFor_106 rfl rfl (Nat.zero_le _) (Nat.zero_le _) (⟨rfl, rfl, _, rfl⟩)
  · refine sx_tableIn (pc := 4) (off := 113) (tgt := 117) dX0_figureFor_4 (by decide) (by decide) (by decide) (by decide) ?_
    refine sx_aload_n (pc := 117) dX0_figureFor_117 rfl rfl ?_
    refine sx_getr (pc := 118) (ci := 0) (j := 1) (r := 58) dX0_figureFor_118 rfl s_Ho rfl (by decide) lf_X0_15 ?_
    refine sx_aload_n (pc := 121) dX0_figureFor_121 rfl rfl ?_
    refine sx_geti (pc := 122) (ci := 3) (j := 3) dX0_figureFor_122 rfl s_Me rfl (by decide) lf_X0_38 ?_
    refine sx_iald (pc := 125) dX0_figureFor_125 s_borr (by decide) rfl (vp_in_lt (n := 30) ((hG 2 (by rw [hkd]; decide)).1 (by decide)).1 ((hG 2 (by rw [hkd]; decide)).1 (by decide)).2 (by decide)) ?_
    refine sx_iconst (pc := 126) (v := (-1)) dX0_figureFor_126 (by decide) ?_
    refine sx_icmp_ne (pc := 127) (tgt := 134) dX0_figureFor_127 (by decide) (fun c_127 => ?_) (fun c_127 => ?_)
    · have h_127t := c_127
      refine sx_aload_n (pc := 134) dX0_figureFor_134 rfl rfl ?_
      refine sx_getr (pc := 135) (ci := 0) (j := 1) (r := 58) dX0_figureFor_135 rfl s_Ho rfl (by decide) lf_X0_15 ?_
      refine sx_aload_n (pc := 138) dX0_figureFor_138 rfl rfl ?_
      refine sx_geti (pc := 139) (ci := 3) (j := 3) dX0_figureFor_139 rfl s_Me rfl (by decide) lf_X0_38 ?_
      refine sx_iald (pc := 142) dX0_figureFor_142 s_borr (by decide) rfl (vp_in_lt (n := 30) ((hG 2 (by rw [hkd]; decide)).1 (by decide)).1 ((hG 2 (by rw [hkd]; decide)).1 (by decide)).2 (by decide)) ?_
      refine sx_iconst (pc := 143) (v := 1) dX0_figureFor_143 (by decide) ?_
      refine sx_iadd (pc := 144) dX0_figureFor_144 ?_
      exact sx_iret (pc := 145) dX0_figureFor_145 rfl rfl (Nat.zero_le _) (Nat.zero_le _) (⟨rfl, rfl, _, rfl⟩)
    · have h_127f := c_127
      refine sx_iconst (pc := 130) (v := 0) dX0_figureFor_130 (by decide) ?_
      refine sx_goto (pc := 131) (tgt := 145) dX0_figureFor_131 (by decide) ?_
      exact sx_iret (pc := 145) dX0_figureFor_145 rfl rfl (Nat.zero_le _) (Nat.zero_le _) (⟨rfl, rfl, _, rfl⟩)
  · refine sx_tableIn (pc := 4) (off := 152) (tgt := 156) dX0_figureFor_4 (by decide) (by decide) (by decide) (by decide) ?_
    refine sx_iconst (pc := 156) (v := 0) dX0_figureFor_156 (by decide) ?_
    exact sx_iret (pc := 157) dX0_figureFor_157 rfl rfl (Nat.zero_le _) (Nat.zero_le _) (⟨rfl, rfl, _, rfl⟩)
  · refine sx_tableIn (pc := 4) (off := 152) (tgt := 156) dX0_figureFor_4 (by decide) (by decide) (by decide) (by decide) ?_
    refine sx_iconst (pc := 156) (v := 0) dX0_figureFor_156 (by decide) ?_
    exact sx_iret (pc := 157) dX0_figureFor_157 rfl rfl (Nat.zero_le _) (Nat.zero_le _) (⟨rfl, rfl, _, rfl⟩)
  · refine sx_tableIn (pc := 4) (off := 152) (tgt := 156) dX0_figureFor_4 (by decide) (by decide) (by decide) (by decide) ?_
    refine sx_iconst (pc := 156) (v := 0) dX0_figureFor_156 (by decide) ?_
    exact sx_iret (pc := 157) dX0_figureFor_157 rfl rfl (Nat.zero_le _) (Nat.zero_le _) (⟨rfl, rfl, _, rfl⟩)
  · refine sx_tableIn (pc := 4) (off := 152) (tgt := 156) dX0_figureFor_4 (by decide) (by decide) (by decide) (by decide) ?_
    refine sx_iconst (pc := 156) (v := 0) dX0_figureFor_156 (by decide) ?_
    exact sx_iret (pc := 157) dX0_figureFor_157 rfl rfl (Nat.zero_le _) (Nat.zero_le _) (⟨rfl, rfl, _, rfl⟩)
  · refine sx_tableIn (pc := 4) (off := 152) (tgt := 156) dX0_figureFor_4 (by decide) (by decide) (by decide) (by decide) ?_
    refine sx_iconst (pc := 156) (v := 0) dX0_figureFor_156 (by decide) ?_
    exact sx_iret (pc := 157) dX0_figureFor_157 rfl rfl (Nat.zero_le _) (Nat.zero_le _) (⟨rfl, rfl, _, rfl⟩)
  · refine sx_tableIn (pc := 4) (off := 152) (tgt := 156) dX0_figureFor_4 (by decide) (by decide) (by decide) (by decide) ?_
    refine sx_iconst (pc := 156) (v := 0) dX0_figureFor_156 (by decide) ?_
    exact sx_iret (pc := 157) dX0_figureFor_157 rfl rfl (Nat.zero_le _) (Nat.zero_le _) (⟨rfl, rfl, _, rfl⟩)
  · refine sx_tableIn (pc := 4) (off := 103) (tgt := 107) dX0_figureFor_4 (by decide) (by decide) (by decide) (by decide) ?_
    refine sx_aload_n (pc := 107) dX0_figureFor_107 rfl rfl ?_
    refine sx_getr (pc := 108) (ci := 0) (j := 0) (r := 57) dX0_figureFor_108 rfl s_Ho rfl (by decide) lf_X0_9 ?_
    refine sx_aload_n (pc := 111) dX0_figureFor_111 rfl rfl ?_
    refine sx_geti (pc := 112) (ci := 3) (j := 2) dX0_figureFor_112 rfl s_Me rfl (by decide) lf_X0_35 ?_
    refine sx_iald (pc := 115) dX0_figureFor_115 s_debts (by decide) rfl (by first | exact (vp_in_lt (n := 30) ((hG 3 (by rw [hkd]; decide)).2 (by decide)).1 ((hG 3 (by rw [hkd]; decide)).2 (by decide)).2 (by decide)) | exact (vp_in_lt (n := 30) ((hG 4 (by rw [hkd]; decide)).2 (by decide)).1 ((hG 4 (by rw [hkd]; decide)).2 (by decide)).2 (by decide))) ?_
    exact sx_iret (pc := 116) dX0_figureFor_116 rfl rfl (Nat.zero_le _) (Nat.zero_le _) (⟨rfl, rfl, _, rfl⟩)
  · refine sx_tableIn (pc := 4) (off := 152) (tgt := 156) dX0_figureFor_4 (by decide) (by decide) (by decide) (by decide) ?_
    refine sx_iconst (pc := 156) (v := 0) dX0_figureFor_156 (by decide) ?_
    exact sx_iret (pc := 157) dX0_figureFor_157 rfl rfl (Nat.zero_le _) (Nat.zero_le _) (⟨rfl, rfl, _, rfl⟩)
  · refine sx_tableIn (pc := 4) (off := 142) (tgt := 146) dX0_figureFor_4 (by decide) (by decide) (by decide) (by decide) ?_
    refine sx_aload_n (pc := 146) dX0_figureFor_146 rfl rfl ?_
    refine sx_getr (pc := 147) (ci := 0) (j := 2) (r := 59) dX0_figureFor_147 rfl s_Ho rfl (by decide) lf_X0_18 ?_
    refine sx_aload_n (pc := 150) dX0_figureFor_150 rfl rfl ?_
    refine sx_geti (pc := 151) (ci := 3) (j := 3) dX0_figureFor_151 rfl s_Me rfl (by decide) lf_X0_38 ?_
    refine sx_iald (pc := 154) dX0_figureFor_154 s_rene (by decide) rfl (vp_in_lt (n := 30) ((hG 1 (by rw [hkd]; decide)).1 (by decide)).1 ((hG 1 (by rw [hkd]; decide)).1 (by decide)).2 (by decide)) ?_
    exact sx_iret (pc := 155) dX0_figureFor_155 rfl rfl (Nat.zero_le _) (Nat.zero_le _) (⟨rfl, rfl, _, rfl⟩)
  · refine sx_tableOut (pc := 4) (tgt := 156) dX0_figureFor_4 w_4 (by decide) ?_
    refine sx_iconst (pc := 156) (v := 0) dX0_figureFor_156 (by decide) ?_
    exact sx_iret (pc := 157) dX0_figureFor_157 rfl rfl (Nat.zero_le _) (Nat.zero_le _) (⟨rfl, rfl, _, rfl⟩)
theorem jix {c : Int32} (h : 0 ≤ c ∧ c < 1000) (t : Nat) (ht : t < 5) : vp_in (if t = 0 then c * 5 else c * 5 + nI t) 5000 := by
  obtain ⟨j, hj, rfl⟩ := nI_of (Int32.not_lt.mpr h.1)
  have h1 := h.2
  rw [show (1000 : Int32) = nI 1000 from rfl, nI_ltI (by omega) (by omega)] at h1
  rw [show (5 : Int32) = nI 5 from rfl, pk_mul]
  by_cases h0 : t = 0
  · rw [if_pos h0]; exact vp_in_nI (by omega) (by decide)
  · rw [if_neg h0, nI_add]; exact vp_in_nI (by omega) (by decide)
theorem upd_c {N : Nat} {f g : Nat → Int32} {a b : Nat} {v w : Int32} (h : ∀ j, j < N → f j = g j) (ha : a = b) (hv : v = w) : ∀ j, j < N → upd f a v j = upd g b w j := fun j hj => by
  rw [ha, hv, upd_at, upd_at]
  split
  · rfl
  · exact h j hj
theorem jx_ent {μ m1 m2 m3 m4 m5 m6 : xM} {h : HT} (hJ : Jx μ h) (hlt : vA h < 1000) {dv n k i p : Int32} (e1 : m1 = xup μ 93 (μ 92 1 * 5).toNatClampNeg dv) (e2 : m2 = xup m1 93 (μ 92 1 * 5 + 1).toNatClampNeg k) (e3 : m3 = xup m2 93 (μ 92 1 * 5 + 2).toNatClampNeg i) (e4 : m4 = xup m3 93 (μ 92 1 * 5 + 3).toNatClampNeg p) (e5 : m5 = xup m4 93 (μ 92 1 * 5 + 4).toNatClampNeg n) (e6 : m6 = xup m5 92 1 (m5 92 1 + 1)) : Jx m6 (ent h dv n k i p) := by
  have c : μ 92 1 * 5 = 5 * vA h := by rw [hJ.1, Int32.mul_comm]
  rw [c] at e1 e2 e3 e4 e5
  have u1 : m1 93 = upd (μ 93) (5 * vA h).toNatClampNeg dv := by rw [e1]; rfl
  have u2 : m2 93 = upd (m1 93) (5 * vA h + 1).toNatClampNeg k := by rw [e2]; rfl
  have u3 : m3 93 = upd (m2 93) (5 * vA h + 2).toNatClampNeg i := by rw [e3]; rfl
  have u4 : m4 93 = upd (m3 93) (5 * vA h + 3).toNatClampNeg p := by rw [e4]; rfl
  have u5 : m5 93 = upd (m4 93) (5 * vA h + 4).toNatClampNeg n := by rw [e5]; rfl
  have u6 : m6 93 = m5 93 := by rw [e6]; rfl
  have u0 : m5 92 1 = μ 92 1 := by rw [e5, xup_at, if_neg (by omega), e4, xup_at, if_neg (by omega), e3, xup_at, if_neg (by omega), e2, xup_at, if_neg (by omega), e1, xup_at, if_neg (by omega)]
  refine ⟨?_, ?_⟩
  · show m6 92 1 = vA h + 1
    rw [e6, xup_at, if_pos ⟨rfl, rfl⟩, u0, hJ.1]
  · show ∀ j, j < 5000 → m6 93 j = (if vA h < 1000 then upd (upd (upd (upd (upd (vJ h) (5 * vA h).toNatClampNeg dv) (5 * vA h + 1).toNatClampNeg k) (5 * vA h + 2).toNatClampNeg i) (5 * vA h + 3).toNatClampNeg p) (5 * vA h + 4).toNatClampNeg n else vJ h) j
    rw [if_pos hlt, u6, u5, u4, u3, u2, u1]
    exact upd_c (upd_c (upd_c (upd_c (upd_c hJ.2 rfl rfl) rfl rfl) rfl rfl) rfl rfl) rfl rfl
theorem jx_full {μ m1 : xM} {h : HT} (hJ : Jx μ h) (hlt : ¬ vA h < 1000) {dv n k i p : Int32} (e1 : m1 = xup μ 92 1 (μ 92 1 + 1)) : Jx m1 (ent h dv n k i p) := by
  refine ⟨?_, ?_⟩
  · show m1 92 1 = vA h + 1
    rw [e1, xup_at, if_pos ⟨rfl, rfl⟩, hJ.1]
  · show ∀ j, j < 5000 → m1 93 j = (if vA h < 1000 then _ else vJ h) j
    rw [if_neg hlt, show m1 93 = μ 93 by rw [e1]; rfl]
    exact hJ.2
set_option maxHeartbeats 1000000 in
set_option maxRecDepth 20000 in
theorem c_jadd (X : xD) (Ex : State → Prop) (hE : xEs X false shA.length Ex) (μ : xM) (dv : Int32) {h : HT} (hJ : Jx μ h) (hA0 : 0 ≤ vA h) : Ct X Ex false yX1_add kX1_add (rmN 1) [.ref (X.2 + 92), .int dv, .ref (X.2 + 94)] shA μ (fun r sh' μ' => shA = sh' ∧ r = none ∧ Ch SJ μ μ' ∧ Jx μ' (ent h dv (μ 94 1) (μ 94 0) (μ 94 3) (μ 94 2))) := by
  refine Ct.of (L0 := [some (.ref (X.2 + 92)), some (.int dv), some (.ref (X.2 + 94)), none]) (by decide) rfl (fun h => by cases h) (by simp [Value.category]) (Nat.le_of_ble_eq_true rfl) rfl (fun l => ?_)
  refine sx_aload_n (pc := 0) dX1_add_0 rfl rfl ?_
  refine sx_geti (pc := 1) (ci := 1) (j := 1) dX1_add_1 rfl s_Jo rfl (by decide) lf_X1_15 ?_
  refine sx_sipush (pc := 4) (v := 1000) dX1_add_4 (by decide) ?_
  refine sx_callSN (host := "ExchangeWire") (pc := 7) (As := [.int (μ 92 1), .int 1000]) dX1_add_7 (c_isBelow X Ex false shA μ _ _) mX5_isBelow (by decide +kernel) rfl ⟨Nat.le_of_ble_eq_true rfl, Nat.le_of_ble_eq_true rfl⟩ ⟨Nat.le_of_ble_eq_true rfl, Nat.le_of_ble_eq_true rfl⟩ (Nat.le_of_ble_eq_true rfl) hE (fun r_7 sh1 μ1 h_7 => ?_)
  obtain ⟨rfl, rfl, x_7, rfl, hx_7⟩ := h_7
  refine sx_if_eq (pc := 10) (tgt := 75) dX1_add_10 (by decide) (fun c_10 => ?_) (fun c_10 => ?_)
  · have h_10t := c_10
    refine sx_aload_n (pc := 75) dX1_add_75 rfl rfl ?_
    refine sx_dup (pc := 76) dX1_add_76 rfl ?_
    refine sx_geti (pc := 77) (ci := 1) (j := 1) dX1_add_77 rfl s_Jo rfl (by decide) lf_X1_15 ?_
    refine sx_iconst (pc := 80) (v := 1) dX1_add_80 (by decide) ?_
    refine sx_iadd (pc := 81) dX1_add_81 ?_
    refine sx_puti (pc := 82) (ci := 1) (j := 1) (ty := .int) dX1_add_82 rfl s_Jo rfl (by decide) lf_X1_15 rfl (by decide +kernel) rfl rfl (fun μ2 hμ2 => ?_)
    exact sx_vret (pc := 85) dX1_add_85 rfl (Nat.zero_le _) (Nat.zero_le _) (by first | (exact ⟨rfl, rfl, (Ch.put (Ch.rf) hμ2 (by omega) (LB.off hμ2 ⟨by omega, fun _ _ => by omega⟩)), jx_ent hJ (by rw [← hJ.1]; exact (isB_t hx_7 h_10f).2) hμ2⟩) | (exact ⟨rfl, rfl, (Ch.put (Ch.rf) hμ2 (by omega) (LB.off hμ2 ⟨by omega, fun _ _ => by omega⟩)), jx_full hJ (fun z => isB_f hx_7 h_10t ⟨by rw [hJ.1]; exact hA0, by rw [hJ.1]; exact z⟩) hμ2⟩))
  · have h_10f := c_10
    refine sx_aload_n (pc := 13) dX1_add_13 rfl rfl ?_
    refine sx_geti (pc := 14) (ci := 1) (j := 1) dX1_add_14 rfl s_Jo rfl (by decide) lf_X1_15 ?_
    refine sx_iconst (pc := 17) (v := 5) dX1_add_17 (by decide) ?_
    refine sx_imul (pc := 18) dX1_add_18 ?_
    refine sx_istore_n (pc := 19) (L' := [some (.ref (X.2 + 92)), some (.int dv), some (.ref (X.2 + 94)), some (.int ((μ 92 1) * 5))]) dX1_add_19 rfl (by decide) rfl ?_
    refine sx_aload_n (pc := 20) dX1_add_20 rfl rfl ?_
    refine sx_getr (pc := 21) (ci := 1) (j := 0) (r := 93) dX1_add_21 rfl s_Jo rfl (by decide) lf_X1_11 ?_
    refine sx_iload_n (pc := 24) dX1_add_24 rfl rfl ?_
    refine sx_iload_n (pc := 25) dX1_add_25 rfl rfl ?_
    refine sx_iast (pc := 26) dX1_add_26 s_parts (by decide) rfl (jix (isB_t hx_7 h_10f) 0 (by decide)) (fun μ3 hμ3 => ?_)
    refine sx_aload_n (pc := 27) dX1_add_27 rfl rfl ?_
    refine sx_getr (pc := 28) (ci := 1) (j := 0) (r := 93) dX1_add_28 rfl s_Jo rfl (by decide) lf_X1_11 ?_
    refine sx_iload_n (pc := 31) dX1_add_31 rfl rfl ?_
    refine sx_iconst (pc := 32) (v := 1) dX1_add_32 (by decide) ?_
    refine sx_iadd (pc := 33) dX1_add_33 ?_
    refine sx_aload_n (pc := 34) dX1_add_34 rfl rfl ?_
    refine sx_geti (pc := 35) (ci := 3) (j := 0) dX1_add_35 rfl s_Me rfl (by decide) lf_X1_23 ?_
    rw [show μ3 94 0 = μ 94 0 from congrFun (((Ch.put (Ch.rf) hμ3 (by omega) (LB.off hμ3 ⟨by omega, fun _ _ => by omega⟩)) : Ch SJ μ μ3).1 94 (by show ¬ (94 = 92 ∨ 94 = 93); omega)) 0]
    refine sx_iast (pc := 38) dX1_add_38 s_parts (by decide) rfl (jix (isB_t hx_7 h_10f) 1 (by decide)) (fun μ4 hμ4 => ?_)
    refine sx_aload_n (pc := 39) dX1_add_39 rfl rfl ?_
    refine sx_getr (pc := 40) (ci := 1) (j := 0) (r := 93) dX1_add_40 rfl s_Jo rfl (by decide) lf_X1_11 ?_
    refine sx_iload_n (pc := 43) dX1_add_43 rfl rfl ?_
    refine sx_iconst (pc := 44) (v := 2) dX1_add_44 (by decide) ?_
    refine sx_iadd (pc := 45) dX1_add_45 ?_
    refine sx_aload_n (pc := 46) dX1_add_46 rfl rfl ?_
    refine sx_geti (pc := 47) (ci := 3) (j := 3) dX1_add_47 rfl s_Me rfl (by decide) lf_X1_28 ?_
    rw [show μ4 94 3 = μ 94 3 from congrFun (((Ch.put (Ch.put (Ch.rf) hμ3 (by omega) (LB.off hμ3 ⟨by omega, fun _ _ => by omega⟩)) hμ4 (by omega) (LB.off hμ4 ⟨by omega, fun _ _ => by omega⟩)) : Ch SJ μ μ4).1 94 (by show ¬ (94 = 92 ∨ 94 = 93); omega)) 3]
    refine sx_iast (pc := 50) dX1_add_50 s_parts (by decide) rfl (jix (isB_t hx_7 h_10f) 2 (by decide)) (fun μ5 hμ5 => ?_)
    refine sx_aload_n (pc := 51) dX1_add_51 rfl rfl ?_
    refine sx_getr (pc := 52) (ci := 1) (j := 0) (r := 93) dX1_add_52 rfl s_Jo rfl (by decide) lf_X1_11 ?_
    refine sx_iload_n (pc := 55) dX1_add_55 rfl rfl ?_
    refine sx_iconst (pc := 56) (v := 3) dX1_add_56 (by decide) ?_
    refine sx_iadd (pc := 57) dX1_add_57 ?_
    refine sx_aload_n (pc := 58) dX1_add_58 rfl rfl ?_
    refine sx_geti (pc := 59) (ci := 3) (j := 2) dX1_add_59 rfl s_Me rfl (by decide) lf_X1_31 ?_
    rw [show μ5 94 2 = μ 94 2 from congrFun (((Ch.put (Ch.put (Ch.put (Ch.rf) hμ3 (by omega) (LB.off hμ3 ⟨by omega, fun _ _ => by omega⟩)) hμ4 (by omega) (LB.off hμ4 ⟨by omega, fun _ _ => by omega⟩)) hμ5 (by omega) (LB.off hμ5 ⟨by omega, fun _ _ => by omega⟩)) : Ch SJ μ μ5).1 94 (by show ¬ (94 = 92 ∨ 94 = 93); omega)) 2]
    refine sx_iast (pc := 62) dX1_add_62 s_parts (by decide) rfl (jix (isB_t hx_7 h_10f) 3 (by decide)) (fun μ6 hμ6 => ?_)
    refine sx_aload_n (pc := 63) dX1_add_63 rfl rfl ?_
    refine sx_getr (pc := 64) (ci := 1) (j := 0) (r := 93) dX1_add_64 rfl s_Jo rfl (by decide) lf_X1_11 ?_
    refine sx_iload_n (pc := 67) dX1_add_67 rfl rfl ?_
    refine sx_iconst (pc := 68) (v := 4) dX1_add_68 (by decide) ?_
    refine sx_iadd (pc := 69) dX1_add_69 ?_
    refine sx_aload_n (pc := 70) dX1_add_70 rfl rfl ?_
    refine sx_geti (pc := 71) (ci := 3) (j := 1) dX1_add_71 rfl s_Me rfl (by decide) lf_X1_34 ?_
    rw [show μ6 94 1 = μ 94 1 from congrFun (((Ch.put (Ch.put (Ch.put (Ch.put (Ch.rf) hμ3 (by omega) (LB.off hμ3 ⟨by omega, fun _ _ => by omega⟩)) hμ4 (by omega) (LB.off hμ4 ⟨by omega, fun _ _ => by omega⟩)) hμ5 (by omega) (LB.off hμ5 ⟨by omega, fun _ _ => by omega⟩)) hμ6 (by omega) (LB.off hμ6 ⟨by omega, fun _ _ => by omega⟩)) : Ch SJ μ μ6).1 94 (by show ¬ (94 = 92 ∨ 94 = 93); omega)) 1]
    refine sx_iast (pc := 74) dX1_add_74 s_parts (by decide) rfl (jix (isB_t hx_7 h_10f) 4 (by decide)) (fun μ7 hμ7 => ?_)
    refine sx_aload_n (pc := 75) dX1_add_75 rfl rfl ?_
    refine sx_dup (pc := 76) dX1_add_76 rfl ?_
    refine sx_geti (pc := 77) (ci := 1) (j := 1) dX1_add_77 rfl s_Jo rfl (by decide) lf_X1_15 ?_
    refine sx_iconst (pc := 80) (v := 1) dX1_add_80 (by decide) ?_
    refine sx_iadd (pc := 81) dX1_add_81 ?_
    refine sx_puti (pc := 82) (ci := 1) (j := 1) (ty := .int) dX1_add_82 rfl s_Jo rfl (by decide) lf_X1_15 rfl (by decide +kernel) rfl rfl (fun μ8 hμ8 => ?_)
    exact sx_vret (pc := 85) dX1_add_85 rfl (Nat.zero_le _) (Nat.zero_le _) (by first | (exact ⟨rfl, rfl, (Ch.put (Ch.put (Ch.put (Ch.put (Ch.put (Ch.put (Ch.rf) hμ3 (by omega) (LB.off hμ3 ⟨by omega, fun _ _ => by omega⟩)) hμ4 (by omega) (LB.off hμ4 ⟨by omega, fun _ _ => by omega⟩)) hμ5 (by omega) (LB.off hμ5 ⟨by omega, fun _ _ => by omega⟩)) hμ6 (by omega) (LB.off hμ6 ⟨by omega, fun _ _ => by omega⟩)) hμ7 (by omega) (LB.off hμ7 ⟨by omega, fun _ _ => by omega⟩)) hμ8 (by omega) (LB.off hμ8 ⟨by omega, fun _ _ => by omega⟩)), jx_ent hJ (by rw [← hJ.1]; exact (isB_t hx_7 h_10f).2) hμ3 hμ4 hμ5 hμ6 hμ7 hμ8⟩) | (exact ⟨rfl, rfl, (Ch.put (Ch.put (Ch.put (Ch.put (Ch.put (Ch.put (Ch.rf) hμ3 (by omega) (LB.off hμ3 ⟨by omega, fun _ _ => by omega⟩)) hμ4 (by omega) (LB.off hμ4 ⟨by omega, fun _ _ => by omega⟩)) hμ5 (by omega) (LB.off hμ5 ⟨by omega, fun _ _ => by omega⟩)) hμ6 (by omega) (LB.off hμ6 ⟨by omega, fun _ _ => by omega⟩)) hμ7 (by omega) (LB.off hμ7 ⟨by omega, fun _ _ => by omega⟩)) hμ8 (by omega) (LB.off hμ8 ⟨by omega, fun _ _ => by omega⟩)), jx_full hJ (fun z => isB_f hx_7 h_10t ⟨by rw [hJ.1]; exact hA0, by rw [hJ.1]; exact z⟩) hμ8⟩))
