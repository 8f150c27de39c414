/-! what a message says, as a function of its signs -/
theorem dq_t {x : Int32} {A : Prop} (h : (x = 1 ∧ A) ∨ (x = 0 ∧ ¬ A)) (hx : ¬ x = 0) : A := by
  rcases h with h | h
  · exact h.2
  · exact absurd h.1 hx
theorem dq_f {x : Int32} {A : Prop} (h : (x = 1 ∧ A) ∨ (x = 0 ∧ ¬ A)) (hx : x = 0) : ¬ A := by
  rcases h with h | h
  · rw [h.1] at hx; exact absurd hx (by decide)
  · exact h.2
theorem dq_b {x : Int32} {A : Prop} (h : (x = 1 ∧ A) ∨ (x = 0 ∧ ¬ A)) : x = 0 ∨ x = 1 := by
  rcases h with h | h
  · exact Or.inr h.1
  · exact Or.inl h.1
abbrev dgt (x : Int32) : Prop := 48 ≤ x ∧ x ≤ 57
abbrev KS (k : Int32) : Prop := k = 83 ∨ k = 67 ∨ k = 66 ∨ k = 80 ∨ k = 73 ∨ k = 70 ∨ k = 72 ∨ k = 82 ∨ k = 81
abbrev hP (k : Int32) : Prop := k = 67 ∨ k = 80 ∨ k = 70 ∨ k = 72 ∨ k = 82
abbrev hI (k : Int32) : Prop := k = 67 ∨ k = 66 ∨ k = 73 ∨ k = 72 ∨ k = 82
def dl (f : Nat → Int32) (n : Nat) : Nat → Nat → Int32 → Nat × Int32
  | 0, p, v => (p, v)
  | t + 1, p, v => if p < n ∧ dgt (f p) then dl f n t (p + 1) (v * 10 + f p - 48) else (p, v)
theorem dl_go {f : Nat → Int32} {n t p : Nat} {v : Int32} (h : p < n ∧ dgt (f p)) : dl f n (t + 1) p v = dl f n t (p + 1) (v * 10 + f p - 48) := by rw [dl, if_pos h]
theorem dl_no {f : Nat → Int32} {n t p : Nat} {v : Int32} (h : ¬ (p < n ∧ dgt (f p))) : dl f n t p v = (p, v) := by
  cases t with
  | zero => rfl
  | succ t => rw [dl, if_neg h]
theorem dl_end {f : Nat → Int32} {n t p : Nat} {v : Int32} (h : n ≤ p ∨ t = 0) : dl f n t p v = (p, v) := by
  rcases h with h | h
  · exact dl_no (fun z => by omega)
  · rw [h]; rfl
theorem dgt_n {x : Int32} (h : dgt x) : ∃ m, m ≤ 9 ∧ x = nI (48 + m) := by
  have h0 : (0 : Int32) ≤ x := Int32.le_trans (by decide) h.1
  obtain ⟨j, hj, e⟩ := nI_of (Int32.not_lt.mpr h0)
  have h1 := h.1
  have h2 := h.2
  rw [e, show (48 : Int32) = nI 48 from rfl, nI_leI (by decide) hj] at h1
  rw [e, show (57 : Int32) = nI 57 from rfl, nI_leI hj (by decide)] at h2
  exact ⟨j - 48, by omega, by rw [e]; congr 1; omega⟩
theorem dl_b (f : Nat → Int32) (n : Nat) : ∀ (t p : Nat) (v : Int32), p ≤ (dl f n t p v).1 ∧ (dl f n t p v).1 ≤ p + t ∧ (p ≤ n → (dl f n t p v).1 ≤ n) := by
  intro t
  induction t with
  | zero => intro p v; exact ⟨Nat.le_refl _, Nat.le_refl _, fun h => h⟩
  | succ t ih =>
    intro p v
    by_cases h : p < n ∧ dgt (f p)
    · rw [dl_go h]
      have := ih (p + 1) (v * 10 + f p - 48)
      exact ⟨by omega, by omega, fun _ => this.2.2 (by omega)⟩
    · rw [dl_no h]
      exact ⟨Nat.le_refl _, by show p ≤ p + (t + 1); omega, fun h => h⟩
theorem dl_v (f : Nat → Int32) (n : Nat) : ∀ (t p m : Nat), ∃ m', (dl f n t p (nI m)).2 = nI m' ∧ m' + 1 ≤ (m + 1) * 10 ^ t := by
  intro t
  induction t with
  | zero => intro p m; exact ⟨m, rfl, by simp⟩
  | succ t ih =>
    intro p m
    by_cases h : p < n ∧ dgt (f p)
    · obtain ⟨x, hx, ex⟩ := dgt_n h.2
      rw [dl_go h, ex, show (10 : Int32) = nI 10 from rfl, show (48 : Int32) = nI 48 from rfl, pk_mul, nI_add, pk_sub (by omega)]
      obtain ⟨m', h1, h2⟩ := ih (p + 1) (m * 10 + (48 + x) - 48)
      refine ⟨m', h1, Nat.le_trans h2 ?_⟩
      rw [Nat.pow_succ, show (m + 1) * (10 ^ t * 10) = ((m + 1) * 10) * 10 ^ t by rw [Nat.mul_assoc, Nat.mul_comm 10]]
      exact Nat.mul_le_mul_right _ (by omega)
    · rw [dl_no h]
      exact ⟨m, rfl, Nat.le_mul_of_pos_right _ (Nat.pow_pos (by decide))⟩
def fl (f : Nat → Int32) (n a : Nat) (lt : Int32) : Option (Nat × Int32) := if a < n ∧ f a = lt ∧ (dl f n 5 (a + 1) 0).1 ≠ a + 1 ∧ (dl f n 5 (a + 1) 0).1 < n ∧ f (dl f n 5 (a + 1) 0).1 = 124 then some ((dl f n 5 (a + 1) 0).1 + 1, (dl f n 5 (a + 1) 0).2) else none
theorem fl_none {f : Nat → Int32} {n a q : Nat} {lt v : Int32} (hd : dl f n 5 (a + 1) 0 = (q, v)) (h : ¬ (a < n ∧ f a = lt ∧ q ≠ a + 1 ∧ q < n ∧ f q = 124)) : fl f n a lt = none := by
  rw [fl, hd]; exact if_neg h
theorem fl_some {f : Nat → Int32} {n a q : Nat} {lt v : Int32} (hd : dl f n 5 (a + 1) 0 = (q, v)) (h : a < n ∧ f a = lt ∧ q ≠ a + 1 ∧ q < n ∧ f q = 124) : fl f n a lt = some (q + 1, v) := by
  rw [fl, hd]; exact if_pos h
theorem fl_no {f : Nat → Int32} {n a : Nat} {lt : Int32} (h : ¬ (a < n ∧ f a = lt)) : fl f n a lt = none := by
  rw [fl]; exact if_neg (fun z => h ⟨z.1, z.2.1⟩)
theorem fl_b {f : Nat → Int32} {n a b : Nat} {lt v : Int32} (h : fl f n a lt = some (b, v)) : a < b ∧ b ≤ n ∧ b ≤ a + 7 ∧ ∃ m, v = nI m ∧ m < 100000 := by
  rw [fl] at h
  split at h
  · rename_i hc
    have h1 := (Option.some.inj h)
    have e1 : (dl f n 5 (a + 1) 0).1 + 1 = b := congrArg Prod.fst h1
    have e2 : (dl f n 5 (a + 1) 0).2 = v := congrArg Prod.snd h1
    have hb := dl_b f n 5 (a + 1) 0
    obtain ⟨m, h2, h3⟩ := dl_v f n 5 (a + 1) 0
    have h3 : m + 1 ≤ 100000 := h3
    exact ⟨by omega, by omega, by omega, m, e2.symm.trans h2, by omega⟩
  · cases h
def sm (f : Nat → Int32) : Nat → Int32
  | 0 => 0
  | p + 1 => sm f p + f p
theorem sm_b {f : Nat → Int32} (hf : ∀ j, j < 60 → ∃ b, b < 256 ∧ f j = nI b) : ∀ p, p ≤ 60 → ∃ s, s ≤ 255 * p ∧ sm f p = nI s := by
  intro p
  induction p with
  | zero => intro _; exact ⟨0, by omega, rfl⟩
  | succ p ih =>
    intro hp
    obtain ⟨s, h1, h2⟩ := ih (by omega)
    obtain ⟨b, h3, h4⟩ := hf p (by omega)
    exact ⟨s + b, by omega, by rw [sm, h2, h4, nI_add]⟩
def hx (v : Int32) : Int32 := if v &&& 15 < 10 then 48 + (v &&& 15) else 65 + (v &&& 15) - 10
def hv (c : Int32) : Int32 := if dgt c then c - 48 else if 65 ≤ c ∧ c ≤ 70 then c - 65 + 10 else (-1000)
abbrev fnd (f : Nat → Int32) (n p : Nat) : Prop := n = p + 3 ∧ f p = 90 ∧ f (p + 1) = hx ((sm f p &&& 255) >>> (4 &&& 31)) ∧ f (p + 2) = hx (sm f p &&& 255)
def gA (f : Nat → Int32) (n : Nat) (k : Int32) : Option (Nat × Int32) := if hP k then fl f n 2 97 else some (2, 0)
def gB (f : Nat → Int32) (n : Nat) (k : Int32) (a : Nat) : Option (Nat × Int32) := if hI k then fl f n a 98 else some (a, 0)
def gC (f : Nat → Int32) (n : Nat) (k : Int32) (a : Nat) : Option (Nat × Int32) := if k = 70 then fl f n a 99 else some (a, 0)
abbrev PT : Type := Int32 × Int32 × Int32 × Int32 × Int32
def prs (f : Nat → Int32) (n : Nat) : Option PT := if 2 ≤ n ∧ KS (f 0) ∧ dgt (f 1) then (gA f n (f 0)).bind fun x => (gB f n (f 0) x.1).bind fun y => (gC f n (f 0) y.1).bind fun z => if fnd f n z.1 then some (f 0, f 1 - 48, x.2, y.2, z.2) else none else none
section PRS
variable {f : Nat → Int32} {n a1 a2 a3 : Nat} {p i c : Int32}
theorem prs_n0 (h : ¬ (2 ≤ n ∧ KS (f 0) ∧ dgt (f 1))) : prs f n = none := by rw [prs, if_neg h]
theorem prs_n1 (h : 2 ≤ n ∧ KS (f 0) ∧ dgt (f 1)) (ha : gA f n (f 0) = none) : prs f n = none := by rw [prs, if_pos h, ha]; rfl
theorem prs_n2 (h : 2 ≤ n ∧ KS (f 0) ∧ dgt (f 1)) (ha : gA f n (f 0) = some (a1, p)) (hb : gB f n (f 0) a1 = none) : prs f n = none := by rw [prs, if_pos h, ha]; show (gB f n (f 0) a1).bind _ = none; rw [hb]; rfl
theorem prs_n3 (h : 2 ≤ n ∧ KS (f 0) ∧ dgt (f 1)) (ha : gA f n (f 0) = some (a1, p)) (hb : gB f n (f 0) a1 = some (a2, i)) (hc : gC f n (f 0) a2 = none) : prs f n = none := by
  rw [prs, if_pos h, ha]; show (gB f n (f 0) a1).bind _ = none; rw [hb]; show (gC f n (f 0) a2).bind _ = none; rw [hc]; rfl
theorem prs_n4 (h : 2 ≤ n ∧ KS (f 0) ∧ dgt (f 1)) (ha : gA f n (f 0) = some (a1, p)) (hb : gB f n (f 0) a1 = some (a2, i)) (hc : gC f n (f 0) a2 = some (a3, c)) (hf : ¬ fnd f n a3) : prs f n = none := by
  rw [prs, if_pos h, ha]; show (gB f n (f 0) a1).bind _ = none; rw [hb]; show (gC f n (f 0) a2).bind _ = none; rw [hc]; exact if_neg hf
theorem prs_ok (h : 2 ≤ n ∧ KS (f 0) ∧ dgt (f 1)) (ha : gA f n (f 0) = some (a1, p)) (hb : gB f n (f 0) a1 = some (a2, i)) (hc : gC f n (f 0) a2 = some (a3, c)) (hf : fnd f n a3) : prs f n = some (f 0, f 1 - 48, p, i, c) := by
  rw [prs, if_pos h, ha]; show (gB f n (f 0) a1).bind _ = _; rw [hb]; show (gC f n (f 0) a2).bind _ = _; rw [hc]; exact if_pos hf
end PRS
theorem opt2 {α β : Type} (o : Option (α × β)) : o = none ∨ ∃ a b, o = some (a, b) := by
  cases o with
  | none => exact Or.inl rfl
  | some x => exact Or.inr ⟨x.1, x.2, rfl⟩
theorem prs_s {f : Nat → Int32} {n : Nat} {t : PT} (h : prs f n = some t) : KS t.1 ∧ (∃ m, m ≤ 9 ∧ t.2.1 = nI m) ∧ (∃ m, m < 100000 ∧ t.2.2.1 = nI m) ∧ (∃ m, m < 100000 ∧ t.2.2.2.1 = nI m) ∧ ∃ m, m < 100000 ∧ t.2.2.2.2 = nI m := by
  by_cases hh : 2 ≤ n ∧ KS (f 0) ∧ dgt (f 1)
  · have zz : ∃ m, m < 100000 ∧ (0 : Int32) = nI m := ⟨0, by decide, rfl⟩
    have gx : ∀ (q : Prop) [Decidable q] (a b : Nat) (lt v : Int32), (if q then fl f n a lt else some (a, 0)) = some (b, v) → ∃ m, m < 100000 ∧ v = nI m := fun q _ a b lt v e => by
      split at e
      · obtain ⟨_, _, _, m, h1, h2⟩ := fl_b e
        exact ⟨m, h2, h1⟩
      · have e2 : (0 : Int32) = v := congrArg Prod.snd (Option.some.inj e)
        rw [← e2]; exact zz
    rcases opt2 (gA f n (f 0)) with e | ⟨a1, p, ea⟩
    · rw [prs_n1 hh e] at h; cases h
    rcases opt2 (gB f n (f 0) a1) with e | ⟨a2, i, eb⟩
    · rw [prs_n2 hh ea e] at h; cases h
    rcases opt2 (gC f n (f 0) a2) with e | ⟨a3, c, ec⟩
    · rw [prs_n3 hh ea eb e] at h; cases h
    by_cases hf : fnd f n a3
    · rw [prs_ok hh ea eb ec hf] at h
      have h := (Option.some.inj h).symm
      subst h
      obtain ⟨m, h1, h2⟩ := dgt_n hh.2.2
      exact ⟨hh.2.1, ⟨m, h1, by show f 1 - 48 = nI m; rw [h2, show (48 : Int32) = nI 48 from rfl, pk_sub (by omega)]; congr 1; omega⟩, gx _ _ _ _ _ ea, gx _ _ _ _ _ eb, gx _ _ _ _ _ ec⟩
    · rw [prs_n4 hh ea eb ec hf] at h; cases h
  · rw [prs_n0 hh] at h; cases h
theorem hv_c (c : Int32) : (∃ h, h < 16 ∧ hv c = nI h ∧ c = hx (nI h)) ∨ hv c = (-1000) := by
  unfold hv
  split
  · rename_i h
    obtain ⟨m, h1, h2⟩ := dgt_n h
    left
    refine ⟨m, by omega, by rw [h2, show (48 : Int32) = nI 48 from rfl, pk_sub (by omega)]; congr 1; omega, ?_⟩
    rw [h2]
    have : ∀ m, m < 10 → nI (48 + m) = hx (nI m) := by decide +kernel
    exact this m (by omega)
  · split
    · rename_i h
      have h0 : (0 : Int32) ≤ c := Int32.le_trans (by decide) h.1
      obtain ⟨j, hj, e⟩ := nI_of (Int32.not_lt.mpr h0)
      have h1 := h.1
      have h2 := h.2
      rw [e, show (65 : Int32) = nI 65 from rfl, nI_leI (by decide) hj] at h1
      rw [e, show (70 : Int32) = nI 70 from rfl, nI_leI hj (by decide)] at h2
      left
      refine ⟨j - 65 + 10, by omega, by rw [e, show (65 : Int32) = nI 65 from rfl, pk_sub h1, show (10 : Int32) = nI 10 from rfl, nI_add], ?_⟩
      have : ∀ m, m < 6 → nI (65 + m) = hx (nI (m + 10)) := by decide +kernel
      have h3 := this (j - 65) (by omega)
      rw [e, ← h3]; congr 1; omega
    · exact Or.inr rfl
theorem hx_i : ∀ a, a < 16 → ∀ b, b < 16 → (hx (nI a) = hx (nI b) ↔ a = b) := by decide +kernel
theorem hx_l : ∀ s, s < 256 → hx (nI s) = hx (nI (s % 16)) ∧ hx (nI s >>> (4 &&& 31)) = hx (nI (s / 16)) := by decide +kernel
theorem neg1000 : ∀ h, h < 16 → ∀ s, s < 256 → ¬ (16 * nI h + (-1000) = nI s) := by
  intro h hh s hs e
  have e1 : (16 * nI h + (-1000) : Int32) < 0 := by
    have : ∀ h, h < 16 → (16 * nI h + (-1000) : Int32) < 0 := by decide +kernel
    exact this h hh
  rw [e] at e1
  exact nI_pos (by omega) e1
theorem neg1000b : ∀ h, h < 16 → ∀ s, s < 256 → ¬ (16 * (-1000) + nI h = nI s) := by
  intro h hh s hs e
  have e1 : (16 * (-1000) + nI h : Int32) < 0 := by
    have : ∀ h, h < 16 → (16 * (-1000) + nI h : Int32) < 0 := by decide +kernel
    exact this h hh
  rw [e] at e1
  exact nI_pos (by omega) e1
theorem hex_ok {s : Nat} (hs : s < 256) (a b : Int32) : (16 * hv a + hv b = nI s) ↔ (a = hx (nI s >>> (4 &&& 31)) ∧ b = hx (nI s)) := by
  obtain ⟨l1, l2⟩ := hx_l s hs
  rw [l1, l2]
  have back : ∀ x : Nat, x < 16 → hv (hx (nI x)) = nI x := by decide +kernel
  constructor
  · intro e
    rcases hv_c a with ⟨x, hx1, hx2, hx3⟩ | ha
    · rcases hv_c b with ⟨y, hy1, hy2, hy3⟩ | hb
      · rw [hx2, hy2, show (16 : Int32) = nI 16 from rfl, pk_mul, nI_add, nI_eq (by omega) (by omega)] at e
        exact ⟨by rw [hx3]; congr 2; omega, by rw [hy3]; congr 2; omega⟩
      · rw [hx2, hb] at e
        exact absurd e (neg1000 x hx1 s hs)
    · rcases hv_c b with ⟨y, hy1, hy2, hy3⟩ | hb
      · rw [ha, hy2] at e
        exact absurd e (neg1000b y hy1 s hs)
      · rw [ha, hb] at e
        have e1 : (16 * (-1000) + (-1000) : Int32) < 0 := by decide
        rw [e] at e1
        exact absurd e1 (nI_pos (by omega))
  · rintro ⟨rfl, rfl⟩
    rw [back _ (by omega), back _ (by omega), show (16 : Int32) = nI 16 from rfl, pk_mul, nI_add]
    congr 1; omega
theorem fnd_ref {f : Nat → Int32} (hf : ∀ j, j < 60 → ∃ b, b < 256 ∧ f j = nI b) {n p : Nat} (hp : p < 60) (hz : f p = 90) : (n = p + 3 ∧ 16 * hv (f (p + 1)) + hv (f (p + 2)) = sm f p - sm f p / 256 * 256) ↔ fnd f n p := by
  obtain ⟨s, h1, h2⟩ := sm_b hf p (by omega)
  have e1 : sm f p - sm f p / 256 * 256 = nI (s % 256) := by rw [h2, show (256 : Int32) = nI 256 from rfl, pk_rem (by omega) (by decide) (by decide)]
  have e2 : sm f p &&& 255 = nI (s % 256) := by rw [h2, pk_and (nI s) (m := 255) 8 (by decide), pk_tn (by omega)]
  unfold fnd
  rw [e1, e2, hex_ok (Nat.mod_lt _ (by decide))]
  constructor
  · rintro ⟨z1, z2⟩; exact ⟨z1, hz, z2⟩
  · rintro ⟨z1, _, z2⟩; exact ⟨z1, z2⟩
def fx (lt : Int32) : Nat := if lt = 97 then 2 else if lt = 98 then 3 else 4
set_option maxHeartbeats 1000000 in
set_option maxRecDepth 20000 in
theorem c_isDigitE (X : xD) (Ex : State → Prop) (fr : Bool) (sh : List xS) (μ : xM) (v : Int32) : Ct X Ex fr yX5_isDigit kX5_isDigit (rmN 0) [.int v] sh μ (fun r sh' μ' => sh = sh' ∧ μ = μ' ∧ ∃ x : Int32, r = some (.int x) ∧ ((x = 1 ∧ dgt v) ∨ (x = 0 ∧ ¬ (dgt v)))) := by
  refine Ct.of (L0 := [some (.int v)]) (by decide) rfl (fun h => by cases h) (by simp [Value.category]) (Nat.le_of_ble_eq_true rfl) rfl (fun l => ?_)
  refine sx_iload_n (pc := 0) dX5_isDigit_0 rfl rfl ?_
  refine sx_bipush (pc := 1) (v := 48) dX5_isDigit_1 (by decide) ?_
  refine sx_icmp_lt (pc := 3) (tgt := 16) dX5_isDigit_3 (by decide) (fun c_3 => ?_) (fun c_3 => ?_)
  · have h_3t := c_3
    refine sx_iconst (pc := 16) (v := 0) dX5_isDigit_16 (by decide) ?_
    exact sx_iret (pc := 17) dX5_isDigit_17 rfl rfl (Nat.zero_le _) (Nat.zero_le _) (by refine ⟨rfl, rfl, _, rfl, ?_⟩; first | (left; exact ⟨rfl, Int32.not_lt.mp h_3f, Int32.not_lt.mp h_9f⟩) | (right; refine ⟨rfl, fun q => ?_⟩; first | exact absurd h_3t (Int32.not_lt.mpr q.1) | exact absurd h_9t (Int32.not_lt.mpr q.2)))
  · have h_3f := c_3
    refine sx_iload_n (pc := 6) dX5_isDigit_6 rfl rfl ?_
    refine sx_bipush (pc := 7) (v := 57) dX5_isDigit_7 (by decide) ?_
    refine sx_icmp_gt (pc := 9) (tgt := 16) dX5_isDigit_9 (by decide) (fun c_9 => ?_) (fun c_9 => ?_)
    · have h_9t := c_9
      refine sx_iconst (pc := 16) (v := 0) dX5_isDigit_16 (by decide) ?_
      exact sx_iret (pc := 17) dX5_isDigit_17 rfl rfl (Nat.zero_le _) (Nat.zero_le _) (by refine ⟨rfl, rfl, _, rfl, ?_⟩; first | (left; exact ⟨rfl, Int32.not_lt.mp h_3f, Int32.not_lt.mp h_9f⟩) | (right; refine ⟨rfl, fun q => ?_⟩; first | exact absurd h_3t (Int32.not_lt.mpr q.1) | exact absurd h_9t (Int32.not_lt.mpr q.2)))
    · have h_9f := c_9
      refine sx_iconst (pc := 12) (v := 1) dX5_isDigit_12 (by decide) ?_
      refine sx_goto (pc := 13) (tgt := 17) dX5_isDigit_13 (by decide) ?_
      exact sx_iret (pc := 17) dX5_isDigit_17 rfl rfl (Nat.zero_le _) (Nat.zero_le _) (by refine ⟨rfl, rfl, _, rfl, ?_⟩; first | (left; exact ⟨rfl, Int32.not_lt.mp h_3f, Int32.not_lt.mp h_9f⟩) | (right; refine ⟨rfl, fun q => ?_⟩; first | exact absurd h_3t (Int32.not_lt.mpr q.1) | exact absurd h_9t (Int32.not_lt.mpr q.2)))
set_option maxHeartbeats 1000000 in
set_option maxRecDepth 20000 in
theorem c_hexDigitE (X : xD) (Ex : State → Prop) (fr : Bool) (sh : List xS) (μ : xM) (v : Int32) : Ct X Ex fr yX5_hexDigit kX5_hexDigit (rmN 0) [.int v] sh μ (fun r sh' μ' => sh = sh' ∧ μ = μ' ∧ r = some (.int (hx v))) := by
  refine Ct.of (L0 := [some (.int v), none]) (by decide) rfl (fun h => by cases h) (by simp [Value.category]) (Nat.le_of_ble_eq_true rfl) rfl (fun l => ?_)
  refine sx_iload_n (pc := 0) dX5_hexDigit_0 rfl rfl ?_
  refine sx_bipush (pc := 1) (v := 15) dX5_hexDigit_1 (by decide) ?_
  refine sx_iand (pc := 3) dX5_hexDigit_3 ?_
  refine sx_istore_n (pc := 4) (L' := [some (.int v), some (.int (v &&& 15))]) dX5_hexDigit_4 rfl (by decide) rfl ?_
  refine sx_iload_n (pc := 5) dX5_hexDigit_5 rfl rfl ?_
  refine sx_bipush (pc := 6) (v := 10) dX5_hexDigit_6 (by decide) ?_
  refine sx_icmp_ge (pc := 8) (tgt := 18) dX5_hexDigit_8 (by decide) (fun c_8 => ?_) (fun c_8 => ?_)
  · have h_8t := c_8
    refine sx_bipush (pc := 18) (v := 65) dX5_hexDigit_18 (by decide) ?_
    refine sx_iload_n (pc := 20) dX5_hexDigit_20 rfl rfl ?_
    refine sx_iadd (pc := 21) dX5_hexDigit_21 ?_
    refine sx_bipush (pc := 22) (v := 10) dX5_hexDigit_22 (by decide) ?_
    refine sx_isub (pc := 24) dX5_hexDigit_24 ?_
    exact sx_iret (pc := 25) dX5_hexDigit_25 rfl rfl (Nat.zero_le _) (Nat.zero_le _) (⟨rfl, rfl, by first | rw [hx, if_pos (Int32.not_le.mp h_8f)] | rw [hx, if_neg (Int32.not_lt.mpr h_8t)]⟩)
  · have h_8f := c_8
    refine sx_bipush (pc := 11) (v := 48) dX5_hexDigit_11 (by decide) ?_
    refine sx_iload_n (pc := 13) dX5_hexDigit_13 rfl rfl ?_
    refine sx_iadd (pc := 14) dX5_hexDigit_14 ?_
    refine sx_goto (pc := 15) (tgt := 25) dX5_hexDigit_15 (by decide) ?_
    exact sx_iret (pc := 25) dX5_hexDigit_25 rfl rfl (Nat.zero_le _) (Nat.zero_le _) (⟨rfl, rfl, by first | rw [hx, if_pos (Int32.not_le.mp h_8f)] | rw [hx, if_neg (Int32.not_lt.mpr h_8t)]⟩)
set_option maxHeartbeats 1000000 in
set_option maxRecDepth 20000 in
theorem l_sumE {X : xD} {Ex : State → Prop} {l : Launch} {k p : Nat} (hs : shA[k]? = some (shI 60)) (hp : p ≤ 60) {μ : xM} {f : Nat → Int32} (hf : ∀ j, j < 60 → μ k j = f j) : ∀ t j : Nat, p - j ≤ t → j ≤ p → sx l (rmN 0) X Ex false kX5_sumOf shA.length (xZ X false shA.length (fun r sh' μ' => shA = sh' ∧ μ = μ' ∧ r = some (.int (sm f p &&& 255))) 0 0) 4 [some (.ref (X.2 + k)), some (.int (nI p)), some (.int (sm f j)), some (.int (nI j))] [] shA μ 0 0 := by
  intro t
  induction t with
  | zero =>
    intro j ht hj
    refine sx_iload_n (pc := 4) dX5_sumOf_4 rfl rfl ?_
    refine sx_iload_n (pc := 5) dX5_sumOf_5 rfl rfl ?_
    refine sx_icmp_ge (pc := 6) (tgt := 27) dX5_sumOf_6 (by decide) (fun c_6 => ?_) (fun c_6 => absurd (nI_le (by omega) (by omega)) c_6)
    refine sx_iload_n (pc := 27) dX5_sumOf_27 rfl rfl ?_
    refine sx_sipush (pc := 28) (v := 255) dX5_sumOf_28 (by decide) ?_
    refine sx_iand (pc := 31) dX5_sumOf_31 ?_
    exact sx_iret (pc := 32) dX5_sumOf_32 rfl rfl (Nat.zero_le _) (Nat.zero_le _) (⟨rfl, rfl, by rw [show j = p by omega]⟩)
  | succ t ih =>
    intro j ht hj
    refine sx_iload_n (pc := 4) dX5_sumOf_4 rfl rfl ?_
    refine sx_iload_n (pc := 5) dX5_sumOf_5 rfl rfl ?_
    refine sx_icmp_ge (pc := 6) (tgt := 27) dX5_sumOf_6 (by decide) (fun c_6 => ?_) (fun c_6 => ?_)
    · have h_6t := c_6
      have hge : p ≤ j := Nat.le_of_not_lt fun z => absurd (nI_lt z (by omega)) (Int32.not_lt.mpr h_6t)
      refine sx_iload_n (pc := 27) dX5_sumOf_27 rfl rfl ?_
      refine sx_sipush (pc := 28) (v := 255) dX5_sumOf_28 (by decide) ?_
      refine sx_iand (pc := 31) dX5_sumOf_31 ?_
      exact sx_iret (pc := 32) dX5_sumOf_32 rfl rfl (Nat.zero_le _) (Nat.zero_le _) (⟨rfl, rfl, by rw [show j = p by omega]⟩)
    · have h_6f := c_6
      have hlt : j < p := Nat.lt_of_not_le fun z => h_6f (nI_le z (by omega))
      refine sx_iload_n (pc := 9) dX5_sumOf_9 rfl rfl ?_
      refine sx_aload_n (pc := 10) dX5_sumOf_10 rfl rfl ?_
      refine sx_alen (pc := 11) (v := 60) dX5_sumOf_11 hs rfl (by decide) ?_
      refine sx_icmp_ge (pc := 12) (tgt := 27) dX5_sumOf_12 (by decide) (fun c_12 => absurd c_12 (by rw [show (60 : Int32) = nI 60 from rfl, nI_leI (by omega) (by omega)]; omega)) (fun c_12 => ?_)
      refine sx_iload_n (pc := 15) dX5_sumOf_15 rfl rfl ?_
      refine sx_aload_n (pc := 16) dX5_sumOf_16 rfl rfl ?_
      refine sx_iload_n (pc := 17) dX5_sumOf_17 rfl rfl ?_
      refine sx_iald (pc := 18) dX5_sumOf_18 hs (by decide) rfl (vp_in_nI (by omega) (by decide)) ?_
      refine sx_iadd (pc := 19) dX5_sumOf_19 ?_
      rw [show sm f j + μ k (nI j).toNatClampNeg = sm f (j + 1) by rw [nI_clamp (by omega), hf j (by omega)]; rfl]
      refine sx_istore_n (pc := 20) (L' := [some (.ref (X.2 + k)), some (.int (nI p)), some (.int (sm f (j + 1))), some (.int (nI j))]) dX5_sumOf_20 rfl (by decide) rfl ?_
      refine sx_iinc (pc := 21) (v := nI (j + 1)) (L' := [some (.ref (X.2 + k)), some (.int (nI p)), some (.int (sm f (j + 1))), some (.int (nI (j + 1)))]) dX5_sumOf_21 rfl (nI_1 j) (by decide) rfl ?_
      refine sx_goto (pc := 24) (tgt := 4) dX5_sumOf_24 (by decide) ?_
      exact ih (j + 1) (by omega) (by omega)
set_option maxHeartbeats 1000000 in
set_option maxRecDepth 20000 in
theorem c_sumE (X : xD) (Ex : State → Prop) (hE : xEs X false shA.length Ex) (μ : xM) (k p : Nat) (hs : shA[k]? = some (shI 60)) (hp : p ≤ 60) {f : Nat → Int32} (hf : ∀ j, j < 60 → μ k j = f j) : Ct X Ex false yX5_sumOf kX5_sumOf (rmN 0) [.ref (X.2 + k), .int (nI p)] shA μ (fun r sh' μ' => shA = sh' ∧ μ = μ' ∧ r = some (.int (sm f p &&& 255))) := by
  refine Ct.of (L0 := [some (.ref (X.2 + k)), some (.int (nI p)), none, none]) (by decide) rfl (fun h => by cases h) (by simp [Value.category]) (Nat.le_of_ble_eq_true rfl) rfl (fun l => ?_)
  refine sx_iconst (pc := 0) (v := 0) dX5_sumOf_0 (by decide) ?_
  refine sx_istore_n (pc := 1) (L' := [some (.ref (X.2 + k)), some (.int (nI p)), some (.int 0), none]) dX5_sumOf_1 rfl (by decide) rfl ?_
  refine sx_iconst (pc := 2) (v := 0) dX5_sumOf_2 (by decide) ?_
  refine sx_istore_n (pc := 3) (L' := [some (.ref (X.2 + k)), some (.int (nI p)), some (.int 0), some (.int 0)]) dX5_sumOf_3 rfl (by decide) rfl ?_
  exact l_sumE hs hp hf 60 0 (by omega) (Nat.zero_le _)
set_option maxHeartbeats 1000000 in
set_option maxRecDepth 20000 in
theorem c_endsE (X : xD) (Ex : State → Prop) (hE : xEs X false shA.length Ex) (μ : xM) (k n a : Nat) (hs : shA[k]? = some (shI 60)) (hn : n ≤ 60) (ha : a ≤ n) {f : Nat → Int32} (hf : ∀ j, j < 60 → μ k j = f j) : Ct X Ex false yX3_endsWithSum kX3_endsWithSum (rmN 1) [.ref (X.2 + k), .int (nI n), .int (nI a)] shA μ (fun r sh' μ' => shA = sh' ∧ μ = μ' ∧ ∃ x : Int32, r = some (.int x) ∧ ((x = 1 ∧ fnd f n a) ∨ (x = 0 ∧ ¬ (fnd f n a)))) := by
  refine Ct.of (L0 := [some (.ref (X.2 + k)), some (.int (nI n)), some (.int (nI a)), none]) (by decide) rfl (fun h => by cases h) (by simp [Value.category]) (Nat.le_of_ble_eq_true rfl) rfl (fun l => ?_)
  refine sx_iload_n (pc := 0) dX3_endsWithSum_0 rfl rfl ?_
  refine sx_iload_n (pc := 1) dX3_endsWithSum_1 rfl rfl ?_
  refine sx_iconst (pc := 2) (v := 3) dX3_endsWithSum_2 (by decide) ?_
  refine sx_iadd (pc := 3) dX3_endsWithSum_3 ?_
  rw [show (3 : Int32) = nI 3 from rfl, nI_add]
  refine sx_icmp_ne (pc := 4) (tgt := 15) dX3_endsWithSum_4 (by decide) (fun c_4 => ?_) (fun c_4 => ?_)
  · have h_4t := c_4
    have hne : ¬ n = a + 3 := fun z => h_4t (by rw [z])
    refine sx_iconst (pc := 15) (v := 0) dX3_endsWithSum_15 (by decide) ?_
    exact sx_iret (pc := 16) dX3_endsWithSum_16 rfl rfl (Nat.zero_le _) (Nat.zero_le _) (⟨rfl, rfl, _, rfl, Or.inr ⟨rfl, fun z => by first | exact hne z.1 | exact h_12f z.2.1⟩⟩)
  · have h_4f := c_4
    have heq : n = a + 3 := (nI_eq (by omega) (by omega)).mp h_4f
    refine sx_aload_n (pc := 7) dX3_endsWithSum_7 rfl rfl ?_
    refine sx_iload_n (pc := 8) dX3_endsWithSum_8 rfl rfl ?_
    refine sx_iald (pc := 9) dX3_endsWithSum_9 hs (by decide) rfl (vp_in_nI (by omega) (by decide)) ?_
    rw [nI_clamp (by omega), show μ k a = f a from hf a (by omega)]
    refine sx_bipush (pc := 10) (v := 90) dX3_endsWithSum_10 (by decide) ?_
    refine sx_icmp_eq (pc := 12) (tgt := 17) dX3_endsWithSum_12 (by decide) (fun c_12 => ?_) (fun c_12 => ?_)
    · have h_12t := c_12
      refine sx_aload_n (pc := 17) dX3_endsWithSum_17 rfl rfl ?_
      refine sx_iload_n (pc := 18) dX3_endsWithSum_18 rfl rfl ?_
      refine sx_callSN (host := "ExchangeWire") (pc := 19) (As := [.ref (X.2 + k), .int (nI a)]) dX3_endsWithSum_19 (c_sumE X Ex hE μ k a hs (by omega) hf) mX5_sumOf (by decide +kernel) rfl ⟨Nat.le_of_ble_eq_true rfl, Nat.le_of_ble_eq_true rfl⟩ ⟨Nat.le_of_ble_eq_true rfl, Nat.le_of_ble_eq_true rfl⟩ (Nat.le_of_ble_eq_true rfl) hE (fun r_19 sh1 μ1 h_19 => ?_)
      obtain ⟨rfl, rfl, rfl⟩ := h_19
      refine sx_istore_n (pc := 22) (L' := [some (.ref (X.2 + k)), some (.int (nI n)), some (.int (nI a)), some (.int (sm f a &&& 255))]) dX3_endsWithSum_22 rfl (by decide) rfl ?_
      refine sx_aload_n (pc := 23) dX3_endsWithSum_23 rfl rfl ?_
      refine sx_iload_n (pc := 24) dX3_endsWithSum_24 rfl rfl ?_
      refine sx_iconst (pc := 25) (v := 1) dX3_endsWithSum_25 (by decide) ?_
      refine sx_iadd (pc := 26) dX3_endsWithSum_26 ?_
      rw [show (1 : Int32) = nI 1 from rfl, nI_add]
      refine sx_iald (pc := 27) dX3_endsWithSum_27 hs (by decide) rfl (vp_in_nI (by omega) (by decide)) ?_
      rw [nI_clamp (by omega), show μ k (a + 1) = f (a + 1) from hf (a + 1) (by omega)]
      refine sx_iload_n (pc := 28) dX3_endsWithSum_28 rfl rfl ?_
      refine sx_iconst (pc := 29) (v := 4) dX3_endsWithSum_29 (by decide) ?_
      refine sx_ishr (pc := 30) dX3_endsWithSum_30 ?_
      refine sx_callSN (host := "ExchangeWire") (pc := 31) (As := [.int ((sm f a &&& 255) >>> (4 &&& 31))]) dX3_endsWithSum_31 (c_hexDigitE X Ex false shA μ _) mX5_hexDigit (by decide +kernel) rfl ⟨Nat.le_of_ble_eq_true rfl, Nat.le_of_ble_eq_true rfl⟩ ⟨Nat.le_of_ble_eq_true rfl, Nat.le_of_ble_eq_true rfl⟩ (Nat.le_of_ble_eq_true rfl) hE (fun r_31 sh1 μ2 h_31 => ?_)
      obtain ⟨rfl, rfl, rfl⟩ := h_31
      refine sx_icmp_ne (pc := 34) (tgt := 53) dX3_endsWithSum_34 (by decide) (fun c_34 => ?_) (fun c_34 => ?_)
      · have h_34t := c_34
        refine sx_iconst (pc := 53) (v := 0) dX3_endsWithSum_53 (by decide) ?_
        exact sx_iret (pc := 54) dX3_endsWithSum_54 rfl rfl (Nat.zero_le _) (Nat.zero_le _) (⟨rfl, rfl, _, rfl, by first | exact Or.inl ⟨rfl, heq, h_12t, h_34f, h_46f⟩ | exact Or.inr ⟨rfl, fun z => h_34t z.2.2.1⟩ | exact Or.inr ⟨rfl, fun z => h_46t z.2.2.2⟩⟩)
      · have h_34f := c_34
        refine sx_aload_n (pc := 37) dX3_endsWithSum_37 rfl rfl ?_
        refine sx_iload_n (pc := 38) dX3_endsWithSum_38 rfl rfl ?_
        refine sx_iconst (pc := 39) (v := 2) dX3_endsWithSum_39 (by decide) ?_
        refine sx_iadd (pc := 40) dX3_endsWithSum_40 ?_
        rw [show (2 : Int32) = nI 2 from rfl, nI_add]
        refine sx_iald (pc := 41) dX3_endsWithSum_41 hs (by decide) rfl (vp_in_nI (by omega) (by decide)) ?_
        rw [nI_clamp (by omega), show μ k (a + 2) = f (a + 2) from hf (a + 2) (by omega)]
        refine sx_iload_n (pc := 42) dX3_endsWithSum_42 rfl rfl ?_
        refine sx_callSN (host := "ExchangeWire") (pc := 43) (As := [.int (sm f a &&& 255)]) dX3_endsWithSum_43 (c_hexDigitE X Ex false shA μ _) mX5_hexDigit (by decide +kernel) rfl ⟨Nat.le_of_ble_eq_true rfl, Nat.le_of_ble_eq_true rfl⟩ ⟨Nat.le_of_ble_eq_true rfl, Nat.le_of_ble_eq_true rfl⟩ (Nat.le_of_ble_eq_true rfl) hE (fun r_43 sh1 μ3 h_43 => ?_)
        obtain ⟨rfl, rfl, rfl⟩ := h_43
        refine sx_icmp_ne (pc := 46) (tgt := 53) dX3_endsWithSum_46 (by decide) (fun c_46 => ?_) (fun c_46 => ?_)
        · have h_46t := c_46
          refine sx_iconst (pc := 53) (v := 0) dX3_endsWithSum_53 (by decide) ?_
          exact sx_iret (pc := 54) dX3_endsWithSum_54 rfl rfl (Nat.zero_le _) (Nat.zero_le _) (⟨rfl, rfl, _, rfl, by first | exact Or.inl ⟨rfl, heq, h_12t, h_34f, h_46f⟩ | exact Or.inr ⟨rfl, fun z => h_34t z.2.2.1⟩ | exact Or.inr ⟨rfl, fun z => h_46t z.2.2.2⟩⟩)
        · have h_46f := c_46
          refine sx_iconst (pc := 49) (v := 1) dX3_endsWithSum_49 (by decide) ?_
          refine sx_goto (pc := 50) (tgt := 54) dX3_endsWithSum_50 (by decide) ?_
          exact sx_iret (pc := 54) dX3_endsWithSum_54 rfl rfl (Nat.zero_le _) (Nat.zero_le _) (⟨rfl, rfl, _, rfl, by first | exact Or.inl ⟨rfl, heq, h_12t, h_34f, h_46f⟩ | exact Or.inr ⟨rfl, fun z => h_34t z.2.2.1⟩ | exact Or.inr ⟨rfl, fun z => h_46t z.2.2.2⟩⟩)
    · have h_12f := c_12
      refine sx_iconst (pc := 15) (v := 0) dX3_endsWithSum_15 (by decide) ?_
      exact sx_iret (pc := 16) dX3_endsWithSum_16 rfl rfl (Nat.zero_le _) (Nat.zero_le _) (⟨rfl, rfl, _, rfl, Or.inr ⟨rfl, fun z => by first | exact hne z.1 | exact h_12f z.2.1⟩⟩)
set_option maxHeartbeats 1000000 in
set_option maxRecDepth 20000 in
theorem c_keepE (X : xD) (Ex : State → Prop) (hE : xEs X false shA.length Ex) (μ : xM) (a b : Int32) : Ct X Ex false yX3_keepField kX3_keepField (rmN 0) [.ref (X.2 + 94), .int a, .int b] shA μ (fun r sh' μ' => shA = sh' ∧ r = none ∧ μ' = xup μ 94 (fx a) b) := by
  refine Ct.of (L0 := [some (.ref (X.2 + 94)), some (.int a), some (.int b)]) (by decide) rfl (fun h => by cases h) (by simp [Value.category]) (Nat.le_of_ble_eq_true rfl) rfl (fun l => ?_)
  refine sx_iload_n (pc := 0) dX3_keepField_0 rfl rfl ?_
  refine sx_bipush (pc := 1) (v := 97) dX3_keepField_1 (by decide) ?_
  refine sx_icmp_ne (pc := 3) (tgt := 14) dX3_keepField_3 (by decide) (fun c_3 => ?_) (fun c_3 => ?_)
  · have h_3t := c_3
    refine sx_iload_n (pc := 14) dX3_keepField_14 rfl rfl ?_
    refine sx_bipush (pc := 15) (v := 98) dX3_keepField_15 (by decide) ?_
    refine sx_icmp_ne (pc := 17) (tgt := 28) dX3_keepField_17 (by decide) (fun c_17 => ?_) (fun c_17 => ?_)
    · have h_17t := c_17
      refine sx_aload_n (pc := 28) dX3_keepField_28 rfl rfl ?_
      refine sx_iload_n (pc := 29) dX3_keepField_29 rfl rfl ?_
      refine sx_puti (pc := 30) (ci := 3) (j := 4) (ty := .int) dX3_keepField_30 rfl s_Me rfl (by decide) lf_X3_24 rfl (by decide +kernel) rfl rfl (fun μ1 hμ1 => ?_)
      exact sx_vret (pc := 33) dX3_keepField_33 rfl (Nat.zero_le _) (Nat.zero_le _) (⟨rfl, rfl, by first | rw [hμ1, fx, if_pos h_3f] | rw [hμ1, fx, if_neg h_3t, if_pos h_17f] | rw [hμ1, fx, if_neg h_3t, if_neg h_17t]⟩)
    · have h_17f := c_17
      refine sx_aload_n (pc := 20) dX3_keepField_20 rfl rfl ?_
      refine sx_iload_n (pc := 21) dX3_keepField_21 rfl rfl ?_
      refine sx_puti (pc := 22) (ci := 3) (j := 3) (ty := .int) dX3_keepField_22 rfl s_Me rfl (by decide) lf_X3_21 rfl (by decide +kernel) rfl rfl (fun μ2 hμ2 => ?_)
      refine sx_goto (pc := 25) (tgt := 33) dX3_keepField_25 (by decide) ?_
      exact sx_vret (pc := 33) dX3_keepField_33 rfl (Nat.zero_le _) (Nat.zero_le _) (⟨rfl, rfl, by first | rw [hμ2, fx, if_pos h_3f] | rw [hμ2, fx, if_neg h_3t, if_pos h_17f] | rw [hμ2, fx, if_neg h_3t, if_neg h_17t]⟩)
  · have h_3f := c_3
    refine sx_aload_n (pc := 6) dX3_keepField_6 rfl rfl ?_
    refine sx_iload_n (pc := 7) dX3_keepField_7 rfl rfl ?_
    refine sx_puti (pc := 8) (ci := 3) (j := 2) (ty := .int) dX3_keepField_8 rfl s_Me rfl (by decide) lf_X3_18 rfl (by decide +kernel) rfl rfl (fun μ3 hμ3 => ?_)
    refine sx_goto (pc := 11) (tgt := 33) dX3_keepField_11 (by decide) ?_
    exact sx_vret (pc := 33) dX3_keepField_33 rfl (Nat.zero_le _) (Nat.zero_le _) (⟨rfl, rfl, by first | rw [hμ3, fx, if_pos h_3f] | rw [hμ3, fx, if_neg h_3t, if_pos h_17f] | rw [hμ3, fx, if_neg h_3t, if_neg h_17t]⟩)
def LC (μ : xM) (lt : Int32) : Prop := if lt = 97 then 0 ≤ μ 94 2 ∧ μ 94 2 < 30 else if lt = 98 then 0 ≤ μ 94 3 ∧ μ 94 3 < 30 else 0 ≤ μ 94 4 ∧ μ 94 4 ≤ 50000
set_option maxHeartbeats 1000000 in
set_option maxRecDepth 20000 in
theorem c_goodE (X : xD) (Ex : State → Prop) (hE : xEs X false shA.length Ex) (μ : xM) (a : Int32) : Ct X Ex false yX3_isGoodField kX3_isGoodField (rmN 1) [.ref (X.2 + 94), .int a] shA μ (fun r sh' μ' => shA = sh' ∧ μ = μ' ∧ ∃ x : Int32, r = some (.int x) ∧ ((x = 1 ∧ LC μ a) ∨ (x = 0 ∧ ¬ (LC μ a)))) := by
  refine Ct.of (L0 := [some (.ref (X.2 + 94)), some (.int a)]) (by decide) rfl (fun h => by cases h) (by simp [Value.category]) (Nat.le_of_ble_eq_true rfl) rfl (fun l => ?_)
  refine sx_iload_n (pc := 0) dX3_isGoodField_0 rfl rfl ?_
  refine sx_bipush (pc := 1) (v := 97) dX3_isGoodField_1 (by decide) ?_
  refine sx_icmp_ne (pc := 3) (tgt := 16) dX3_isGoodField_3 (by decide) (fun c_3 => ?_) (fun c_3 => ?_)
  · have h_3t := c_3
    refine sx_iload_n (pc := 16) dX3_isGoodField_16 rfl rfl ?_
    refine sx_bipush (pc := 17) (v := 98) dX3_isGoodField_17 (by decide) ?_
    refine sx_icmp_ne (pc := 19) (tgt := 32) dX3_isGoodField_19 (by decide) (fun c_19 => ?_) (fun c_19 => ?_)
    · have h_19t := c_19
      refine sx_aload_n (pc := 32) dX3_isGoodField_32 rfl rfl ?_
      refine sx_geti (pc := 33) (ci := 3) (j := 4) dX3_isGoodField_33 rfl s_Me rfl (by decide) lf_X3_24 ?_
      refine sx_if_lt (pc := 36) (tgt := 52) dX3_isGoodField_36 (by decide) (fun c_36 => ?_) (fun c_36 => ?_)
      · have h_36t := c_36
        refine sx_iconst (pc := 52) (v := 0) dX3_isGoodField_52 (by decide) ?_
        exact sx_iret (pc := 53) dX3_isGoodField_53 rfl rfl (Nat.zero_le _) (Nat.zero_le _) (⟨rfl, rfl, _, rfl, by rw [LC, if_neg h_3t, if_neg h_19t]; first | exact Or.inl ⟨rfl, Int32.not_lt.mp h_36f, Int32.not_lt.mp h_45f⟩ | exact Or.inr ⟨rfl, fun z => absurd h_36t (Int32.not_lt.mpr z.1)⟩ | exact Or.inr ⟨rfl, fun z => absurd h_45t (Int32.not_lt.mpr z.2)⟩⟩)
      · have h_36f := c_36
        refine sx_aload_n (pc := 39) dX3_isGoodField_39 rfl rfl ?_
        refine sx_geti (pc := 40) (ci := 3) (j := 4) dX3_isGoodField_40 rfl s_Me rfl (by decide) lf_X3_24 ?_
        refine sx_ldc (pc := 43) dX3_isGoodField_43 ld_X3_83 ?_
        refine sx_icmp_gt (pc := 45) (tgt := 52) dX3_isGoodField_45 (by decide) (fun c_45 => ?_) (fun c_45 => ?_)
        · have h_45t := c_45
          refine sx_iconst (pc := 52) (v := 0) dX3_isGoodField_52 (by decide) ?_
          exact sx_iret (pc := 53) dX3_isGoodField_53 rfl rfl (Nat.zero_le _) (Nat.zero_le _) (⟨rfl, rfl, _, rfl, by rw [LC, if_neg h_3t, if_neg h_19t]; first | exact Or.inl ⟨rfl, Int32.not_lt.mp h_36f, Int32.not_lt.mp h_45f⟩ | exact Or.inr ⟨rfl, fun z => absurd h_36t (Int32.not_lt.mpr z.1)⟩ | exact Or.inr ⟨rfl, fun z => absurd h_45t (Int32.not_lt.mpr z.2)⟩⟩)
        · have h_45f := c_45
          refine sx_iconst (pc := 48) (v := 1) dX3_isGoodField_48 (by decide) ?_
          refine sx_goto (pc := 49) (tgt := 53) dX3_isGoodField_49 (by decide) ?_
          exact sx_iret (pc := 53) dX3_isGoodField_53 rfl rfl (Nat.zero_le _) (Nat.zero_le _) (⟨rfl, rfl, _, rfl, by rw [LC, if_neg h_3t, if_neg h_19t]; first | exact Or.inl ⟨rfl, Int32.not_lt.mp h_36f, Int32.not_lt.mp h_45f⟩ | exact Or.inr ⟨rfl, fun z => absurd h_36t (Int32.not_lt.mpr z.1)⟩ | exact Or.inr ⟨rfl, fun z => absurd h_45t (Int32.not_lt.mpr z.2)⟩⟩)
    · have h_19f := c_19
      refine sx_aload_n (pc := 22) dX3_isGoodField_22 rfl rfl ?_
      refine sx_geti (pc := 23) (ci := 3) (j := 3) dX3_isGoodField_23 rfl s_Me rfl (by decide) lf_X3_21 ?_
      refine sx_bipush (pc := 26) (v := 30) dX3_isGoodField_26 (by decide) ?_
      refine sx_callSN (host := "ExchangeWire") (pc := 28) (As := [.int (μ 94 3), .int 30]) dX3_isGoodField_28 (c_isBelow X Ex false shA μ _ _) mX5_isBelow (by decide +kernel) rfl ⟨Nat.le_of_ble_eq_true rfl, Nat.le_of_ble_eq_true rfl⟩ ⟨Nat.le_of_ble_eq_true rfl, Nat.le_of_ble_eq_true rfl⟩ (Nat.le_of_ble_eq_true rfl) hE (fun r_28 sh1 μ1 h_28 => ?_)
      obtain ⟨rfl, rfl, x_28, rfl, hx_28⟩ := h_28
      exact sx_iret (pc := 31) dX3_isGoodField_31 rfl (bool_n (isB_b hx_28)) (Nat.zero_le _) (Nat.zero_le _) (⟨rfl, rfl, _, rfl, by rw [LC, if_neg h_3t, if_pos h_19f]; exact hx_28⟩)
  · have h_3f := c_3
    refine sx_aload_n (pc := 6) dX3_isGoodField_6 rfl rfl ?_
    refine sx_geti (pc := 7) (ci := 3) (j := 2) dX3_isGoodField_7 rfl s_Me rfl (by decide) lf_X3_18 ?_
    refine sx_bipush (pc := 10) (v := 30) dX3_isGoodField_10 (by decide) ?_
    refine sx_callSN (host := "ExchangeWire") (pc := 12) (As := [.int (μ 94 2), .int 30]) dX3_isGoodField_12 (c_isBelow X Ex false shA μ _ _) mX5_isBelow (by decide +kernel) rfl ⟨Nat.le_of_ble_eq_true rfl, Nat.le_of_ble_eq_true rfl⟩ ⟨Nat.le_of_ble_eq_true rfl, Nat.le_of_ble_eq_true rfl⟩ (Nat.le_of_ble_eq_true rfl) hE (fun r_12 sh1 μ2 h_12 => ?_)
    obtain ⟨rfl, rfl, x_12, rfl, hx_12⟩ := h_12
    exact sx_iret (pc := 15) dX3_isGoodField_15 rfl (bool_n (isB_b hx_12)) (Nat.zero_le _) (Nat.zero_le _) (⟨rfl, rfl, _, rfl, by rw [LC, if_pos h_3f]; exact hx_12⟩)
set_option maxHeartbeats 1000000 in
set_option maxRecDepth 20000 in
theorem c_forgetE (X : xD) (Ex : State → Prop) (hE : xEs X false shA.length Ex) (μ : xM)  : Ct X Ex false yX3_forget kX3_forget (rmN 0) [.ref (X.2 + 94)] shA μ (fun r sh' μ' => shA = sh' ∧ r = none ∧ Ch SM μ μ' ∧ μ' 94 1 = (-1) ∧ μ' 94 3 = (-1)) := by
  refine Ct.of (L0 := [some (.ref (X.2 + 94))]) (by decide) rfl (fun h => by cases h) (by simp [Value.category]) (Nat.le_of_ble_eq_true rfl) rfl (fun l => ?_)
  refine sx_aload_n (pc := 0) dX3_forget_0 rfl rfl ?_
  refine sx_iconst (pc := 1) (v := 0) dX3_forget_1 (by decide) ?_
  refine sx_puti (pc := 2) (ci := 3) (j := 0) (ty := .int) dX3_forget_2 rfl s_Me rfl (by decide) lf_X3_9 rfl (by decide +kernel) rfl rfl (fun μ1 hμ1 => ?_)
  refine sx_aload_n (pc := 5) dX3_forget_5 rfl rfl ?_
  refine sx_iconst (pc := 6) (v := (-1)) dX3_forget_6 (by decide) ?_
  refine sx_puti (pc := 7) (ci := 3) (j := 1) (ty := .int) dX3_forget_7 rfl s_Me rfl (by decide) lf_X3_15 rfl (by decide +kernel) rfl rfl (fun μ2 hμ2 => ?_)
  refine sx_aload_n (pc := 10) dX3_forget_10 rfl rfl ?_
  refine sx_iconst (pc := 11) (v := (-1)) dX3_forget_11 (by decide) ?_
  refine sx_puti (pc := 12) (ci := 3) (j := 2) (ty := .int) dX3_forget_12 rfl s_Me rfl (by decide) lf_X3_18 rfl (by decide +kernel) rfl rfl (fun μ3 hμ3 => ?_)
  refine sx_aload_n (pc := 15) dX3_forget_15 rfl rfl ?_
  refine sx_iconst (pc := 16) (v := (-1)) dX3_forget_16 (by decide) ?_
  refine sx_puti (pc := 17) (ci := 3) (j := 3) (ty := .int) dX3_forget_17 rfl s_Me rfl (by decide) lf_X3_21 rfl (by decide +kernel) rfl rfl (fun μ4 hμ4 => ?_)
  refine sx_aload_n (pc := 20) dX3_forget_20 rfl rfl ?_
  refine sx_iconst (pc := 21) (v := (-1)) dX3_forget_21 (by decide) ?_
  refine sx_puti (pc := 22) (ci := 3) (j := 4) (ty := .int) dX3_forget_22 rfl s_Me rfl (by decide) lf_X3_24 rfl (by decide +kernel) rfl rfl (fun μ5 hμ5 => ?_)
  exact sx_vret (pc := 25) dX3_forget_25 rfl (Nat.zero_le _) (Nat.zero_le _) (⟨rfl, rfl, (Ch.put (Ch.put (Ch.put (Ch.put (Ch.put (Ch.rf) hμ1 (by omega) (LB.off hμ1 ⟨by omega, fun _ _ => by omega⟩)) hμ2 (by omega) (LB.off hμ2 ⟨by omega, fun _ _ => by omega⟩)) hμ3 (by omega) (LB.off hμ3 ⟨by omega, fun _ _ => by omega⟩)) hμ4 (by omega) (LB.off hμ4 ⟨by omega, fun _ _ => by omega⟩)) hμ5 (by omega) (LB.off hμ5 ⟨by omega, fun _ _ => by omega⟩)), by subst hμ5; subst hμ4; subst hμ3; subst hμ2; subst hμ1; simp [xup_at], by subst hμ5; subst hμ4; subst hμ3; subst hμ2; subst hμ1; simp [xup_at]⟩)
set_option maxHeartbeats 1000000 in
set_option maxRecDepth 20000 in
theorem c_fillE (X : xD) (Ex : State → Prop) (hE : xEs X false shA.length Ex) (μ : xM) (a b c : Int32) : Ct X Ex false yX3_fillFromRow kX3_fillFromRow (rmN 1) [.ref (X.2 + 94), .int a, .int b, .int c] shA μ (fun r sh' μ' => shA = sh' ∧ r = none ∧ Ch SM μ μ' ∧ μ' 94 0 = a ∧ μ' 94 3 = b ∧ μ' 94 2 = c ∧ μ' 94 1 = (-1)) := by
  refine Ct.of (L0 := [some (.ref (X.2 + 94)), some (.int a), some (.int b), some (.int c)]) (by decide) rfl (fun h => by cases h) (by simp [Value.category]) (Nat.le_of_ble_eq_true rfl) rfl (fun l => ?_)
  refine sx_aload_n (pc := 0) dX3_fillFromRow_0 rfl rfl ?_
  refine sx_callV (pc := 1) (As := []) dX3_fillFromRow_1 (c_forgetE X Ex hE μ) mX3_forget lm_X3_27 rfl s_Me rfl ⟨Nat.le_of_ble_eq_true rfl, Nat.le_of_ble_eq_true rfl⟩ ⟨Nat.le_of_ble_eq_true rfl, Nat.le_of_ble_eq_true rfl⟩ (Nat.le_of_ble_eq_true rfl) hE (fun r_1 sh1 μ1 h_1 => ?_)
  obtain ⟨rfl, rfl, k_1, e_1, e2_1⟩ := h_1
  refine sx_aload_n (pc := 4) dX3_fillFromRow_4 rfl rfl ?_
  refine sx_iload_n (pc := 5) dX3_fillFromRow_5 rfl rfl ?_
  refine sx_puti (pc := 6) (ci := 3) (j := 0) (ty := .int) dX3_fillFromRow_6 rfl s_Me rfl (by decide) lf_X3_9 rfl (by decide +kernel) rfl rfl (fun μ2 hμ2 => ?_)
  refine sx_aload_n (pc := 9) dX3_fillFromRow_9 rfl rfl ?_
  refine sx_iload_n (pc := 10) dX3_fillFromRow_10 rfl rfl ?_
  refine sx_puti (pc := 11) (ci := 3) (j := 3) (ty := .int) dX3_fillFromRow_11 rfl s_Me rfl (by decide) lf_X3_21 rfl (by decide +kernel) rfl rfl (fun μ3 hμ3 => ?_)
  refine sx_aload_n (pc := 14) dX3_fillFromRow_14 rfl rfl ?_
  refine sx_iload_n (pc := 15) dX3_fillFromRow_15 rfl rfl ?_
  refine sx_puti (pc := 16) (ci := 3) (j := 2) (ty := .int) dX3_fillFromRow_16 rfl s_Me rfl (by decide) lf_X3_18 rfl (by decide +kernel) rfl rfl (fun μ4 hμ4 => ?_)
  exact sx_vret (pc := 19) dX3_fillFromRow_19 rfl (Nat.zero_le _) (Nat.zero_le _) (⟨rfl, rfl, (Ch.put (Ch.put (Ch.put (Ch.trans (Ch.rf) k_1) hμ2 (by omega) (LB.off hμ2 ⟨by omega, fun _ _ => by omega⟩)) hμ3 (by omega) (LB.off hμ3 ⟨by omega, fun _ _ => by omega⟩)) hμ4 (by omega) (LB.off hμ4 ⟨by omega, fun _ _ => by omega⟩)), by subst hμ4; subst hμ3; subst hμ2; simp [xup_at], by subst hμ4; subst hμ3; subst hμ2; simp [xup_at], by subst hμ4; subst hμ3; subst hμ2; simp [xup_at], by subst hμ4; subst hμ3; subst hμ2; simp [xup_at, e_1]⟩)
