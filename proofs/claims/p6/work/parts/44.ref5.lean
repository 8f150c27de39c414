/-! the reference answers a message -/
def kp (a : Nat) : Prop := a < 95 ∨ a = 96 ∨ a = 97 ∨ a = 98 ∨ (106 ≤ a ∧ a ≤ 109) ∨ 115 < a
def Aw (D : Nat) (μ μ' : xM) : Prop := (∀ a, kp a → μ' a = μ a) ∧ μ' 95 22 = μ 95 22 ∧ ∀ e, e ≠ D → μ' 102 e = μ 102 e ∧ μ' 104 e = μ 104 e
theorem Aw.rf {D : Nat} {μ : xM} : Aw D μ μ := ⟨fun _ _ => rfl, rfl, fun _ _ => ⟨rfl, rfl⟩⟩
theorem Aw.tr {D : Nat} {μ μ1 μ2 : xM} (h : Aw D μ μ1) (h' : Aw D μ1 μ2) : Aw D μ μ2 := ⟨fun a ha => (h'.1 a ha).trans (h.1 a ha), h'.2.1.trans h.2.1, fun e he => ⟨(h'.2.2 e he).1.trans (h.2.2 e he).1, (h'.2.2 e he).2.trans (h.2.2 e he).2⟩⟩
theorem Aw.put {D : Nat} {μ μ1 μ2 : xM} {k j : Nat} {v : Int32} (h : Aw D μ μ1) (e : μ2 = xup μ1 k j v) (hk : (99 ≤ k ∧ k ≤ 101) ∨ (k = 102 ∧ j = D)) : Aw D μ μ2 :=
  ⟨fun a ha => by rw [← h.1 a ha, e]; funext b; rw [xup_at, if_neg (fun q => by unfold kp at ha; omega)], by rw [e, xup_at, if_neg (by omega)]; exact h.2.1, fun i hi => ⟨by rw [e, xup_at, if_neg (by omega)]; exact (h.2.2 i hi).1, by rw [e, xup_at, if_neg (by omega)]; exact (h.2.2 i hi).2⟩⟩
theorem Aw.rd {D : Nat} {μ μ' : xM} (k : Rd μ μ') : Aw D μ μ' := ⟨fun a ha => k.1 a (fun q => by unfold kp at ha; omega), k.2 22 (by omega), fun e _ => ⟨by rw [k.1 102 (by decide)], by rw [k.1 104 (by decide)]⟩⟩
theorem Aw.tt {D : Nat} {μ μ' : xM} (k : Tt D μ μ') : Aw D μ μ' := ⟨fun a ha => k.1 a (fun q => by unfold kp at ha; omega) (fun q => by unfold kp at ha; omega), by rw [k.1 95 (by decide) (by decide)], fun e he => ⟨k.2 e he, by rw [k.1 104 (by decide) (by decide)]⟩⟩
theorem Aw.fi {D : Nat} {μ μ' : xM} (h1 : ∀ a, a ≠ 100 → a ≠ 102 → a ≠ 103 → a ≠ 104 → a ≠ 105 → μ' a = μ a) (h2 : ∀ e, e ≠ D → μ' 102 e = μ 102 e ∧ μ' 104 e = μ 104 e) : Aw D μ μ' := ⟨fun a ha => by unfold kp at ha; exact h1 a (by omega) (by omega) (by omega) (by omega) (by omega), by rw [h1 95 (by decide) (by decide) (by decide) (by decide) (by decide)], h2⟩
theorem Aw.hm {D : Nat} {μ μ' : xM} (k : Hm μ μ') : Aw D μ μ' := ⟨fun a ha => by unfold kp at ha; exact k.1 a (by omega) (by omega), k.2 22 (by decide) (by decide), fun e _ => ⟨by rw [k.1 102 (by decide) (by omega)], by rw [k.1 104 (by decide) (by omega)]⟩⟩
abbrev SG : Type := (Nat → Int32) × (Nat → Int32) × (Nat → Int32) × HT
def snp (μ : xM) : SG := (μ 99, μ 100, μ 101, hvw μ)
theorem snp_eq {μ μ' : xM} (k : ∀ a, (99 ≤ a ∧ a ≤ 101) ∨ (110 ≤ a ∧ a ≤ 115) → μ' a = μ a) (e : μ' 95 20 = μ 95 20) : snp μ' = snp μ := by
  unfold snp
  rw [k 99 (by omega), k 100 (by omega), k 101 (by omega), hvw_eq (fun a h1 h2 => k a (by omega)) e]
def IV (D : Nat) (nu : Int32) (σ : SG) (μ0 μ : xM) (t : Nat) : Prop := Aw D μ0 μ ∧ snp μ = σ ∧ (∃ q, q ≤ 30 ∧ μ 104 D = nI q) ∧ μ 102 D = nI t ∧ μ 95 25 = nu
def IE (D : Nat) (σ : SG) (μ0 μ : xM) : Prop := Aw D μ0 μ ∧ snp μ = σ ∧ (∃ q, q ≤ 30 ∧ μ 104 D = nI q) ∧ ∃ t, t ≤ 30 ∧ μ 102 D = nI t
section IVS
variable {D t t' : Nat} {nu : Int32} {σ : SG} {μ0 μ μ' : xM}
theorem IV.tt (h : IV D nu σ μ0 μ t) (k : Tt D μ μ') (e : μ' 102 D = nI t') : IV D nu σ μ0 μ' t' :=
  ⟨h.1.tr (Aw.tt k), (snp_eq (fun a ha => k.1 a (by omega) (by omega)) (by rw [k.1 95 (by decide) (by decide)])).trans h.2.1, by rw [k.1 104 (by decide) (by decide)]; exact h.2.2.1, e, by rw [k.1 95 (by decide) (by decide)]; exact h.2.2.2.2⟩
theorem IV.end_ (h : IV D nu σ μ0 μ t) (ht : t ≤ 30) : IE D σ μ0 μ := ⟨h.1, h.2.1, h.2.2.1, t, ht, h.2.2.2.1⟩
theorem IV.fin0 (h : IV D nu σ μ0 μ t) (ht : t + 6 ≤ 30) (h1 : ∀ a, a ≠ 100 → a ≠ 102 → a ≠ 103 → a ≠ 104 → a ≠ 105 → μ' a = μ a) (h2 : ∀ e, e ≠ D → μ' 102 e = μ 102 e ∧ μ' 104 e = μ 104 e) (h3 : μ' 102 D = nI (t + 6)) (h4 : μ' 104 D = μ 104 D ∨ μ' 104 D = nI (t + 6)) (h5 : μ' 100 = μ 100) : IE D σ μ0 μ' := by
  refine ⟨h.1.tr (Aw.fi h1 h2), (snp_eq (fun a ha => ?_) (by rw [h1 95 (by decide) (by decide) (by decide) (by decide) (by decide)])).trans h.2.1, ?_, t + 6, ht, h3⟩
  · by_cases z : a = 100
    · rw [z]; exact h5
    · exact h1 a z (by omega) (by omega) (by omega) (by omega)
  · rcases h4 with q | q
    · rw [q]; exact h.2.2.1
    · exact ⟨t + 6, ht, q⟩
theorem IV.fin (h : IV D nu σ μ0 μ t) (ht : t + 6 ≤ 30) (h1 : ∀ a, a ≠ 100 → a ≠ 102 → a ≠ 103 → a ≠ 104 → a ≠ 105 → μ' a = μ a) (h2 : ∀ e, e ≠ D → μ' 102 e = μ 102 e ∧ μ' 104 e = μ 104 e) (h3 : μ' 102 D = nI (t + 6)) (h4 : μ' 104 D = μ 104 D ∨ μ' 104 D = nI (t + 6)) (h5 : μ' 100 = upd (μ 100) D (μ 95 25)) : IE D (σ.1, upd σ.2.1 D nu, σ.2.2) μ0 μ' := by
  refine ⟨h.1.tr (Aw.fi h1 h2), ?_, ?_, t + 6, ht, h3⟩
  · have e := h.2.1
    subst e
    unfold snp
    rw [h5, h.2.2.2.2, h1 99 (by decide) (by decide) (by decide) (by decide) (by decide), h1 101 (by decide) (by decide) (by decide) (by decide) (by decide), hvw_eq (μ := μ) (fun a a1 a2 => h1 a (by omega) (by omega) (by omega) (by omega) (by omega)) (by rw [h1 95 (by decide) (by decide) (by decide) (by decide) (by decide)])]
  · rcases h4 with q | q
    · rw [q]; exact h.2.2.1
    · exact ⟨t + 6, ht, q⟩
theorem IV.p102 {v : Int32} (h : IV D nu σ μ0 μ t) (e : μ' = xup μ 102 D v) (h2 : μ' 102 D = nI t') : IV D nu σ μ0 μ' t' :=
  ⟨h.1.put e (Or.inr ⟨rfl, rfl⟩), (snp_eq (fun a ha => by rw [e]; funext b; rw [xup_at, if_neg (by omega)]) (by rw [e, xup_at, if_neg (by omega)])).trans h.2.1, by rw [e, xup_at, if_neg (by omega)]; exact h.2.2.1, h2, by rw [e, xup_at, if_neg (by omega)]; exact h.2.2.2.2⟩
theorem IV.p101 (h : IV D nu σ μ0 μ t) (e : μ' = xup μ 101 D (μ 101 D + 1)) : IV D nu (σ.1, σ.2.1, upd σ.2.2.1 D (σ.2.2.1 D + 1), σ.2.2.2) μ0 μ' t := by
  refine ⟨h.1.put e (Or.inl (by omega)), ?_, by rw [e, xup_at, if_neg (by omega)]; exact h.2.2.1, by rw [e, xup_at, if_neg (by omega)]; exact h.2.2.2.1, by rw [e, xup_at, if_neg (by omega)]; exact h.2.2.2.2⟩
  have q := h.2.1
  subst q
  rw [e]; rfl
theorem IV.p99 {w : Int32} (h : IV D nu σ μ0 μ t) (hw : w = 1) (e : μ' = xup μ 99 D w) : IV D nu (upd σ.1 D 1, σ.2) μ0 μ' t := by
  refine ⟨h.1.put e (Or.inl (by omega)), ?_, by rw [e, xup_at, if_neg (by omega)]; exact h.2.2.1, by rw [e, xup_at, if_neg (by omega)]; exact h.2.2.2.1, by rw [e, xup_at, if_neg (by omega)]; exact h.2.2.2.2⟩
  have q := h.2.1
  subst q
  rw [e, hw]; rfl
theorem IV.rd (h : IV D nu σ μ0 μ t) (k : Rd μ μ') : IV D (μ' 95 25) σ μ0 μ' t :=
  ⟨h.1.tr (Aw.rd k), (snp_eq (fun a ha => k.1 a (by omega)) (k.2 20 (by omega))).trans h.2.1, by rw [k.1 104 (by decide)]; exact h.2.2.1, by rw [k.1 102 (by decide)]; exact h.2.2.2.1, rfl⟩
theorem IV.jud {H : HT} (h : IV D nu σ μ0 μ t) (k : Hm μ μ') (e : hvw μ' = H) : IV D nu (σ.1, σ.2.1, σ.2.2.1, H) μ0 μ' t := by
  refine ⟨h.1.tr (Aw.hm k), ?_, by rw [k.1 104 (by decide) (by omega)]; exact h.2.2.1, by rw [k.1 102 (by decide) (by omega)]; exact h.2.2.2.1, by rw [k.2 25 (by decide) (by decide)]; exact h.2.2.2.2⟩
  have q := h.2.1
  subst q
  unfold snp
  rw [e, k.1 99 (by decide) (by omega), k.1 100 (by decide) (by omega), k.1 101 (by decide) (by omega)]
end IVS
theorem rng {x : Int32} (h0 : 0 ≤ x) (h1 : x ≤ 29) : ∃ p, p < 30 ∧ x = nI p := by
  obtain ⟨j, hj, e⟩ := nI_of2 (x := x) (M := 29) (n := 29) rfl (Int32.not_lt.mpr h0) h1
  exact ⟨j, by omega, e⟩
theorem neg_div1 {v : Int32} (h : v < 0) : v / 1 ≤ 9 := by
  have e : v / 1 = v := by simp
  rw [e]
  exact Int32.le_of_lt (Int32.lt_of_lt_of_le h (by decide))
set_option maxHeartbeats 1000000 in
set_option maxRecDepth 20000 in
theorem l_fin239 {X : xD} {Ex : State → Prop} (hE : xEs X false shA.length Ex) {l : Launch} {dev : Int32} (hb : 0 ≤ dev ∧ dev < 6) {nu : Int32} {σ : SG} {μ0 μ : xM} {Po : Option Value → List xS → xM → Prop} (hPo : ∀ μ', IE dev.toNatClampNeg (σ.1, upd σ.2.1 dev.toNatClampNeg nu, σ.2.2) μ0 μ' → Po none shA μ') {t : Nat} (ht : t < 24) (h : IV dev.toNatClampNeg nu σ μ0 μ t) (o2 o3 o4 : Option Value) : sx l (rmN 3) X Ex false kX6_answers shA.length (xZ X false shA.length Po 0 0) 239 [some (.ref (X.2 + 95)), some (.int dev), o2, o3, o4] [] shA μ 0 0 := by
  have h0 := h.2.2.2.1
  refine sx_aload_n (pc := 239) dX6_answers_239 rfl rfl ?_
  refine sx_iload_n (pc := 240) dX6_answers_240 rfl rfl ?_
  refine sx_iconst (pc := 241) (v := 1) dX6_answers_241 (by decide) ?_
  refine sx_callV (pc := 242) (As := [.int dev, .int 1]) dX6_answers_242 (c_finish X Ex hE μ _ hb _ t ht h0) mX6_finish lm_X6_134 rfl s_Mo rfl ⟨Nat.le_of_ble_eq_true rfl, Nat.le_of_ble_eq_true rfl⟩ ⟨Nat.le_of_ble_eq_true rfl, Nat.le_of_ble_eq_true rfl⟩ (Nat.le_of_ble_eq_true rfl) hE (fun r_242 sh1 μ1 h_242 => ?_)
  obtain ⟨rfl, rfl, f1, f2, f3, f4, f5, f6⟩ := h_242
  exact sx_vret (pc := 245) dX6_answers_245 rfl (Nat.zero_le _) (Nat.zero_le _) (hPo _ (h.fin (by omega) f1 f2 f3 f4 (f6 (by decide))))
set_option maxHeartbeats 1000000 in
set_option maxRecDepth 20000 in
theorem l_q0 {X : xD} {Ex : State → Prop} (hE : xEs X false shA.length Ex) {l : Launch} {dev : Int32} (hb : 0 ≤ dev ∧ dev < 6) {nu : Int32} {σ : SG} {μ0 μ : xM} {Po : Option Value → List xS → xM → Prop} (hPo : ∀ μ', IE dev.toNatClampNeg (σ.1, upd σ.2.1 dev.toNatClampNeg nu, σ.2.2) μ0 μ' → Po none shA μ') {t : Nat} (ht : t < 24) (h : IV dev.toNatClampNeg nu σ μ0 μ t) (v : Int32) (o3 : Option Value) : sx l (rmN 3) X Ex false kX6_answers shA.length (xZ X false shA.length Po 0 0) 209 [some (.ref (X.2 + 95)), some (.int dev), some (.int v), o3, some (.int 0)] [] shA μ 0 0 := by
  refine sx_iload (pc := 209) dX6_answers_209 rfl ?_
  refine sx_if_le (pc := 211) (tgt := 239) dX6_answers_211 (by decide) (fun c_211 => ?_) (fun c_211 => absurd c_211 (by decide))
  exact l_fin239 hE hb hPo ht h _ _ _
set_option maxHeartbeats 1000000 in
set_option maxRecDepth 20000 in
theorem l_q1 {X : xD} {Ex : State → Prop} (hE : xEs X false shA.length Ex) {l : Launch} {dev : Int32} (hb : 0 ≤ dev ∧ dev < 6) {nu : Int32} {σ : SG} {μ0 μ : xM} {Po : Option Value → List xS → xM → Prop} (hPo : ∀ μ', IE dev.toNatClampNeg (σ.1, upd σ.2.1 dev.toNatClampNeg nu, σ.2.2) μ0 μ' → Po none shA μ') {t : Nat} (ht : t + 1 < 24) (h : IV dev.toNatClampNeg nu σ μ0 μ t) (v : Int32) (o3 : Option Value) : sx l (rmN 3) X Ex false kX6_answers shA.length (xZ X false shA.length Po 0 0) 209 [some (.ref (X.2 + 95)), some (.int dev), some (.int v), o3, some (.int 1)] [] shA μ 0 0 := by
  refine sx_iload (pc := 209) dX6_answers_209 rfl ?_
  refine sx_if_le (pc := 211) (tgt := 239) dX6_answers_211 (by decide) (fun c_211 => absurd c_211 (by decide)) (fun c_211 => ?_)
  refine sx_aload_n (pc := 214) dX6_answers_214 rfl rfl ?_
  refine sx_iload_n (pc := 215) dX6_answers_215 rfl rfl ?_
  refine sx_bipush (pc := 216) (v := 48) dX6_answers_216 (by decide) ?_
  refine sx_iload_n (pc := 218) dX6_answers_218 rfl rfl ?_
  refine sx_iload (pc := 219) dX6_answers_219 rfl ?_
  refine sx_idiv (pc := 221) dX6_answers_221 (by decide) ?_
  refine sx_bipush (pc := 222) (v := 10) dX6_answers_222 (by decide) ?_
  refine sx_irem (pc := 224) dX6_answers_224 (by decide) ?_
  refine sx_iadd (pc := 225) dX6_answers_225 ?_
  refine sx_callV (pc := 226) (As := [.int dev, .int (48 + ((v / 1) - (v / 1) / 10 * 10))]) dX6_answers_226 (c_put X Ex hE μ _ hb _ (t) (by omega) h.2.2.2.1) mX6_put lm_X6_119 rfl s_Mo rfl ⟨Nat.le_of_ble_eq_true rfl, Nat.le_of_ble_eq_true rfl⟩ ⟨Nat.le_of_ble_eq_true rfl, Nat.le_of_ble_eq_true rfl⟩ (Nat.le_of_ble_eq_true rfl) hE (fun r_226 sh1 μ1 h_226 => ?_)
  obtain ⟨rfl, rfl, k_226, q_226⟩ := h_226
  replace h := h.tt k_226 q_226
  refine sx_iload (pc := 229) dX6_answers_229 rfl ?_
  refine sx_bipush (pc := 231) (v := 10) dX6_answers_231 (by decide) ?_
  refine sx_idiv (pc := 233) dX6_answers_233 (by decide) ?_
  refine sx_istore (pc := 234) (L' := [some (.ref (X.2 + 95)), some (.int dev), some (.int v), o3, some (.int 0)]) dX6_answers_234 (by decide) rfl ?_
  refine sx_goto (pc := 236) (tgt := 209) dX6_answers_236 (by decide) ?_
  exact l_q0 hE hb hPo (by omega) h _ _
set_option maxHeartbeats 1000000 in
set_option maxRecDepth 20000 in
theorem l_q2 {X : xD} {Ex : State → Prop} (hE : xEs X false shA.length Ex) {l : Launch} {dev : Int32} (hb : 0 ≤ dev ∧ dev < 6) {nu : Int32} {σ : SG} {μ0 μ : xM} {Po : Option Value → List xS → xM → Prop} (hPo : ∀ μ', IE dev.toNatClampNeg (σ.1, upd σ.2.1 dev.toNatClampNeg nu, σ.2.2) μ0 μ' → Po none shA μ') {t : Nat} (ht : t + 2 < 24) (h : IV dev.toNatClampNeg nu σ μ0 μ t) (v : Int32) (o3 : Option Value) : sx l (rmN 3) X Ex false kX6_answers shA.length (xZ X false shA.length Po 0 0) 209 [some (.ref (X.2 + 95)), some (.int dev), some (.int v), o3, some (.int 10)] [] shA μ 0 0 := by
  refine sx_iload (pc := 209) dX6_answers_209 rfl ?_
  refine sx_if_le (pc := 211) (tgt := 239) dX6_answers_211 (by decide) (fun c_211 => absurd c_211 (by decide)) (fun c_211 => ?_)
  refine sx_aload_n (pc := 214) dX6_answers_214 rfl rfl ?_
  refine sx_iload_n (pc := 215) dX6_answers_215 rfl rfl ?_
  refine sx_bipush (pc := 216) (v := 48) dX6_answers_216 (by decide) ?_
  refine sx_iload_n (pc := 218) dX6_answers_218 rfl rfl ?_
  refine sx_iload (pc := 219) dX6_answers_219 rfl ?_
  refine sx_idiv (pc := 221) dX6_answers_221 (by decide) ?_
  refine sx_bipush (pc := 222) (v := 10) dX6_answers_222 (by decide) ?_
  refine sx_irem (pc := 224) dX6_answers_224 (by decide) ?_
  refine sx_iadd (pc := 225) dX6_answers_225 ?_
  refine sx_callV (pc := 226) (As := [.int dev, .int (48 + ((v / 10) - (v / 10) / 10 * 10))]) dX6_answers_226 (c_put X Ex hE μ _ hb _ (t) (by omega) h.2.2.2.1) mX6_put lm_X6_119 rfl s_Mo rfl ⟨Nat.le_of_ble_eq_true rfl, Nat.le_of_ble_eq_true rfl⟩ ⟨Nat.le_of_ble_eq_true rfl, Nat.le_of_ble_eq_true rfl⟩ (Nat.le_of_ble_eq_true rfl) hE (fun r_226 sh1 μ1 h_226 => ?_)
  obtain ⟨rfl, rfl, k_226, q_226⟩ := h_226
  replace h := h.tt k_226 q_226
  refine sx_iload (pc := 229) dX6_answers_229 rfl ?_
  refine sx_bipush (pc := 231) (v := 10) dX6_answers_231 (by decide) ?_
  refine sx_idiv (pc := 233) dX6_answers_233 (by decide) ?_
  refine sx_istore (pc := 234) (L' := [some (.ref (X.2 + 95)), some (.int dev), some (.int v), o3, some (.int 1)]) dX6_answers_234 (by decide) rfl ?_
  refine sx_goto (pc := 236) (tgt := 209) dX6_answers_236 (by decide) ?_
  exact l_q1 hE hb hPo (by omega) h _ _
set_option maxHeartbeats 1000000 in
set_option maxRecDepth 20000 in
theorem l_q3 {X : xD} {Ex : State → Prop} (hE : xEs X false shA.length Ex) {l : Launch} {dev : Int32} (hb : 0 ≤ dev ∧ dev < 6) {nu : Int32} {σ : SG} {μ0 μ : xM} {Po : Option Value → List xS → xM → Prop} (hPo : ∀ μ', IE dev.toNatClampNeg (σ.1, upd σ.2.1 dev.toNatClampNeg nu, σ.2.2) μ0 μ' → Po none shA μ') {t : Nat} (ht : t + 3 < 24) (h : IV dev.toNatClampNeg nu σ μ0 μ t) (v : Int32) (o3 : Option Value) : sx l (rmN 3) X Ex false kX6_answers shA.length (xZ X false shA.length Po 0 0) 209 [some (.ref (X.2 + 95)), some (.int dev), some (.int v), o3, some (.int 100)] [] shA μ 0 0 := by
  refine sx_iload (pc := 209) dX6_answers_209 rfl ?_
  refine sx_if_le (pc := 211) (tgt := 239) dX6_answers_211 (by decide) (fun c_211 => absurd c_211 (by decide)) (fun c_211 => ?_)
  refine sx_aload_n (pc := 214) dX6_answers_214 rfl rfl ?_
  refine sx_iload_n (pc := 215) dX6_answers_215 rfl rfl ?_
  refine sx_bipush (pc := 216) (v := 48) dX6_answers_216 (by decide) ?_
  refine sx_iload_n (pc := 218) dX6_answers_218 rfl rfl ?_
  refine sx_iload (pc := 219) dX6_answers_219 rfl ?_
  refine sx_idiv (pc := 221) dX6_answers_221 (by decide) ?_
  refine sx_bipush (pc := 222) (v := 10) dX6_answers_222 (by decide) ?_
  refine sx_irem (pc := 224) dX6_answers_224 (by decide) ?_
  refine sx_iadd (pc := 225) dX6_answers_225 ?_
  refine sx_callV (pc := 226) (As := [.int dev, .int (48 + ((v / 100) - (v / 100) / 10 * 10))]) dX6_answers_226 (c_put X Ex hE μ _ hb _ (t) (by omega) h.2.2.2.1) mX6_put lm_X6_119 rfl s_Mo rfl ⟨Nat.le_of_ble_eq_true rfl, Nat.le_of_ble_eq_true rfl⟩ ⟨Nat.le_of_ble_eq_true rfl, Nat.le_of_ble_eq_true rfl⟩ (Nat.le_of_ble_eq_true rfl) hE (fun r_226 sh1 μ1 h_226 => ?_)
  obtain ⟨rfl, rfl, k_226, q_226⟩ := h_226
  replace h := h.tt k_226 q_226
  refine sx_iload (pc := 229) dX6_answers_229 rfl ?_
  refine sx_bipush (pc := 231) (v := 10) dX6_answers_231 (by decide) ?_
  refine sx_idiv (pc := 233) dX6_answers_233 (by decide) ?_
  refine sx_istore (pc := 234) (L' := [some (.ref (X.2 + 95)), some (.int dev), some (.int v), o3, some (.int 10)]) dX6_answers_234 (by decide) rfl ?_
  refine sx_goto (pc := 236) (tgt := 209) dX6_answers_236 (by decide) ?_
  exact l_q2 hE hb hPo (by omega) h _ _
set_option maxHeartbeats 1000000 in
set_option maxRecDepth 20000 in
theorem l_q4 {X : xD} {Ex : State → Prop} (hE : xEs X false shA.length Ex) {l : Launch} {dev : Int32} (hb : 0 ≤ dev ∧ dev < 6) {nu : Int32} {σ : SG} {μ0 μ : xM} {Po : Option Value → List xS → xM → Prop} (hPo : ∀ μ', IE dev.toNatClampNeg (σ.1, upd σ.2.1 dev.toNatClampNeg nu, σ.2.2) μ0 μ' → Po none shA μ') {t : Nat} (ht : t + 4 < 24) (h : IV dev.toNatClampNeg nu σ μ0 μ t) (v : Int32) (o3 : Option Value) : sx l (rmN 3) X Ex false kX6_answers shA.length (xZ X false shA.length Po 0 0) 209 [some (.ref (X.2 + 95)), some (.int dev), some (.int v), o3, some (.int 1000)] [] shA μ 0 0 := by
  refine sx_iload (pc := 209) dX6_answers_209 rfl ?_
  refine sx_if_le (pc := 211) (tgt := 239) dX6_answers_211 (by decide) (fun c_211 => absurd c_211 (by decide)) (fun c_211 => ?_)
  refine sx_aload_n (pc := 214) dX6_answers_214 rfl rfl ?_
  refine sx_iload_n (pc := 215) dX6_answers_215 rfl rfl ?_
  refine sx_bipush (pc := 216) (v := 48) dX6_answers_216 (by decide) ?_
  refine sx_iload_n (pc := 218) dX6_answers_218 rfl rfl ?_
  refine sx_iload (pc := 219) dX6_answers_219 rfl ?_
  refine sx_idiv (pc := 221) dX6_answers_221 (by decide) ?_
  refine sx_bipush (pc := 222) (v := 10) dX6_answers_222 (by decide) ?_
  refine sx_irem (pc := 224) dX6_answers_224 (by decide) ?_
  refine sx_iadd (pc := 225) dX6_answers_225 ?_
  refine sx_callV (pc := 226) (As := [.int dev, .int (48 + ((v / 1000) - (v / 1000) / 10 * 10))]) dX6_answers_226 (c_put X Ex hE μ _ hb _ (t) (by omega) h.2.2.2.1) mX6_put lm_X6_119 rfl s_Mo rfl ⟨Nat.le_of_ble_eq_true rfl, Nat.le_of_ble_eq_true rfl⟩ ⟨Nat.le_of_ble_eq_true rfl, Nat.le_of_ble_eq_true rfl⟩ (Nat.le_of_ble_eq_true rfl) hE (fun r_226 sh1 μ1 h_226 => ?_)
  obtain ⟨rfl, rfl, k_226, q_226⟩ := h_226
  replace h := h.tt k_226 q_226
  refine sx_iload (pc := 229) dX6_answers_229 rfl ?_
  refine sx_bipush (pc := 231) (v := 10) dX6_answers_231 (by decide) ?_
  refine sx_idiv (pc := 233) dX6_answers_233 (by decide) ?_
  refine sx_istore (pc := 234) (L' := [some (.ref (X.2 + 95)), some (.int dev), some (.int v), o3, some (.int 100)]) dX6_answers_234 (by decide) rfl ?_
  refine sx_goto (pc := 236) (tgt := 209) dX6_answers_236 (by decide) ?_
  exact l_q3 hE hb hPo (by omega) h _ _
set_option maxHeartbeats 1000000 in
set_option maxRecDepth 20000 in
theorem l_q5 {X : xD} {Ex : State → Prop} (hE : xEs X false shA.length Ex) {l : Launch} {dev : Int32} (hb : 0 ≤ dev ∧ dev < 6) {nu : Int32} {σ : SG} {μ0 μ : xM} {Po : Option Value → List xS → xM → Prop} (hPo : ∀ μ', IE dev.toNatClampNeg (σ.1, upd σ.2.1 dev.toNatClampNeg nu, σ.2.2) μ0 μ' → Po none shA μ') {t : Nat} (ht : t + 5 < 24) (h : IV dev.toNatClampNeg nu σ μ0 μ t) (v : Int32) (o3 : Option Value) : sx l (rmN 3) X Ex false kX6_answers shA.length (xZ X false shA.length Po 0 0) 209 [some (.ref (X.2 + 95)), some (.int dev), some (.int v), o3, some (.int 10000)] [] shA μ 0 0 := by
  refine sx_iload (pc := 209) dX6_answers_209 rfl ?_
  refine sx_if_le (pc := 211) (tgt := 239) dX6_answers_211 (by decide) (fun c_211 => absurd c_211 (by decide)) (fun c_211 => ?_)
  refine sx_aload_n (pc := 214) dX6_answers_214 rfl rfl ?_
  refine sx_iload_n (pc := 215) dX6_answers_215 rfl rfl ?_
  refine sx_bipush (pc := 216) (v := 48) dX6_answers_216 (by decide) ?_
  refine sx_iload_n (pc := 218) dX6_answers_218 rfl rfl ?_
  refine sx_iload (pc := 219) dX6_answers_219 rfl ?_
  refine sx_idiv (pc := 221) dX6_answers_221 (by decide) ?_
  refine sx_bipush (pc := 222) (v := 10) dX6_answers_222 (by decide) ?_
  refine sx_irem (pc := 224) dX6_answers_224 (by decide) ?_
  refine sx_iadd (pc := 225) dX6_answers_225 ?_
  refine sx_callV (pc := 226) (As := [.int dev, .int (48 + ((v / 10000) - (v / 10000) / 10 * 10))]) dX6_answers_226 (c_put X Ex hE μ _ hb _ (t) (by omega) h.2.2.2.1) mX6_put lm_X6_119 rfl s_Mo rfl ⟨Nat.le_of_ble_eq_true rfl, Nat.le_of_ble_eq_true rfl⟩ ⟨Nat.le_of_ble_eq_true rfl, Nat.le_of_ble_eq_true rfl⟩ (Nat.le_of_ble_eq_true rfl) hE (fun r_226 sh1 μ1 h_226 => ?_)
  obtain ⟨rfl, rfl, k_226, q_226⟩ := h_226
  replace h := h.tt k_226 q_226
  refine sx_iload (pc := 229) dX6_answers_229 rfl ?_
  refine sx_bipush (pc := 231) (v := 10) dX6_answers_231 (by decide) ?_
  refine sx_idiv (pc := 233) dX6_answers_233 (by decide) ?_
  refine sx_istore (pc := 234) (L' := [some (.ref (X.2 + 95)), some (.int dev), some (.int v), o3, some (.int 1000)]) dX6_answers_234 (by decide) rfl ?_
  refine sx_goto (pc := 236) (tgt := 209) dX6_answers_236 (by decide) ?_
  exact l_q4 hE hb hPo (by omega) h _ _
set_option maxHeartbeats 1000000 in
set_option maxRecDepth 20000 in
theorem l_q6 {X : xD} {Ex : State → Prop} (hE : xEs X false shA.length Ex) {l : Launch} {dev : Int32} (hb : 0 ≤ dev ∧ dev < 6) {nu : Int32} {σ : SG} {μ0 μ : xM} {Po : Option Value → List xS → xM → Prop} (hPo : ∀ μ', IE dev.toNatClampNeg (σ.1, upd σ.2.1 dev.toNatClampNeg nu, σ.2.2) μ0 μ' → Po none shA μ') {t : Nat} (ht : t + 6 < 24) (h : IV dev.toNatClampNeg nu σ μ0 μ t) (v : Int32) (o3 : Option Value) : sx l (rmN 3) X Ex false kX6_answers shA.length (xZ X false shA.length Po 0 0) 209 [some (.ref (X.2 + 95)), some (.int dev), some (.int v), o3, some (.int 100000)] [] shA μ 0 0 := by
  refine sx_iload (pc := 209) dX6_answers_209 rfl ?_
  refine sx_if_le (pc := 211) (tgt := 239) dX6_answers_211 (by decide) (fun c_211 => absurd c_211 (by decide)) (fun c_211 => ?_)
  refine sx_aload_n (pc := 214) dX6_answers_214 rfl rfl ?_
  refine sx_iload_n (pc := 215) dX6_answers_215 rfl rfl ?_
  refine sx_bipush (pc := 216) (v := 48) dX6_answers_216 (by decide) ?_
  refine sx_iload_n (pc := 218) dX6_answers_218 rfl rfl ?_
  refine sx_iload (pc := 219) dX6_answers_219 rfl ?_
  refine sx_idiv (pc := 221) dX6_answers_221 (by decide) ?_
  refine sx_bipush (pc := 222) (v := 10) dX6_answers_222 (by decide) ?_
  refine sx_irem (pc := 224) dX6_answers_224 (by decide) ?_
  refine sx_iadd (pc := 225) dX6_answers_225 ?_
  refine sx_callV (pc := 226) (As := [.int dev, .int (48 + ((v / 100000) - (v / 100000) / 10 * 10))]) dX6_answers_226 (c_put X Ex hE μ _ hb _ (t) (by omega) h.2.2.2.1) mX6_put lm_X6_119 rfl s_Mo rfl ⟨Nat.le_of_ble_eq_true rfl, Nat.le_of_ble_eq_true rfl⟩ ⟨Nat.le_of_ble_eq_true rfl, Nat.le_of_ble_eq_true rfl⟩ (Nat.le_of_ble_eq_true rfl) hE (fun r_226 sh1 μ1 h_226 => ?_)
  obtain ⟨rfl, rfl, k_226, q_226⟩ := h_226
  replace h := h.tt k_226 q_226
  refine sx_iload (pc := 229) dX6_answers_229 rfl ?_
  refine sx_bipush (pc := 231) (v := 10) dX6_answers_231 (by decide) ?_
  refine sx_idiv (pc := 233) dX6_answers_233 (by decide) ?_
  refine sx_istore (pc := 234) (L' := [some (.ref (X.2 + 95)), some (.int dev), some (.int v), o3, some (.int 10000)]) dX6_answers_234 (by decide) rfl ?_
  refine sx_goto (pc := 236) (tgt := 209) dX6_answers_236 (by decide) ?_
  exact l_q5 hE hb hPo (by omega) h _ _
set_option maxHeartbeats 1000000 in
set_option maxRecDepth 20000 in
theorem l_q7 {X : xD} {Ex : State → Prop} (hE : xEs X false shA.length Ex) {l : Launch} {dev : Int32} (hb : 0 ≤ dev ∧ dev < 6) {nu : Int32} {σ : SG} {μ0 μ : xM} {Po : Option Value → List xS → xM → Prop} (hPo : ∀ μ', IE dev.toNatClampNeg (σ.1, upd σ.2.1 dev.toNatClampNeg nu, σ.2.2) μ0 μ' → Po none shA μ') {t : Nat} (ht : t + 7 < 24) (h : IV dev.toNatClampNeg nu σ μ0 μ t) (v : Int32) (o3 : Option Value) : sx l (rmN 3) X Ex false kX6_answers shA.length (xZ X false shA.length Po 0 0) 209 [some (.ref (X.2 + 95)), some (.int dev), some (.int v), o3, some (.int 1000000)] [] shA μ 0 0 := by
  refine sx_iload (pc := 209) dX6_answers_209 rfl ?_
  refine sx_if_le (pc := 211) (tgt := 239) dX6_answers_211 (by decide) (fun c_211 => absurd c_211 (by decide)) (fun c_211 => ?_)
  refine sx_aload_n (pc := 214) dX6_answers_214 rfl rfl ?_
  refine sx_iload_n (pc := 215) dX6_answers_215 rfl rfl ?_
  refine sx_bipush (pc := 216) (v := 48) dX6_answers_216 (by decide) ?_
  refine sx_iload_n (pc := 218) dX6_answers_218 rfl rfl ?_
  refine sx_iload (pc := 219) dX6_answers_219 rfl ?_
  refine sx_idiv (pc := 221) dX6_answers_221 (by decide) ?_
  refine sx_bipush (pc := 222) (v := 10) dX6_answers_222 (by decide) ?_
  refine sx_irem (pc := 224) dX6_answers_224 (by decide) ?_
  refine sx_iadd (pc := 225) dX6_answers_225 ?_
  refine sx_callV (pc := 226) (As := [.int dev, .int (48 + ((v / 1000000) - (v / 1000000) / 10 * 10))]) dX6_answers_226 (c_put X Ex hE μ _ hb _ (t) (by omega) h.2.2.2.1) mX6_put lm_X6_119 rfl s_Mo rfl ⟨Nat.le_of_ble_eq_true rfl, Nat.le_of_ble_eq_true rfl⟩ ⟨Nat.le_of_ble_eq_true rfl, Nat.le_of_ble_eq_true rfl⟩ (Nat.le_of_ble_eq_true rfl) hE (fun r_226 sh1 μ1 h_226 => ?_)
  obtain ⟨rfl, rfl, k_226, q_226⟩ := h_226
  replace h := h.tt k_226 q_226
  refine sx_iload (pc := 229) dX6_answers_229 rfl ?_
  refine sx_bipush (pc := 231) (v := 10) dX6_answers_231 (by decide) ?_
  refine sx_idiv (pc := 233) dX6_answers_233 (by decide) ?_
  refine sx_istore (pc := 234) (L' := [some (.ref (X.2 + 95)), some (.int dev), some (.int v), o3, some (.int 100000)]) dX6_answers_234 (by decide) rfl ?_
  refine sx_goto (pc := 236) (tgt := 209) dX6_answers_236 (by decide) ?_
  exact l_q6 hE hb hPo (by omega) h _ _
set_option maxHeartbeats 1000000 in
set_option maxRecDepth 20000 in
theorem l_q8 {X : xD} {Ex : State → Prop} (hE : xEs X false shA.length Ex) {l : Launch} {dev : Int32} (hb : 0 ≤ dev ∧ dev < 6) {nu : Int32} {σ : SG} {μ0 μ : xM} {Po : Option Value → List xS → xM → Prop} (hPo : ∀ μ', IE dev.toNatClampNeg (σ.1, upd σ.2.1 dev.toNatClampNeg nu, σ.2.2) μ0 μ' → Po none shA μ') {t : Nat} (ht : t + 8 < 24) (h : IV dev.toNatClampNeg nu σ μ0 μ t) (v : Int32) (o3 : Option Value) : sx l (rmN 3) X Ex false kX6_answers shA.length (xZ X false shA.length Po 0 0) 209 [some (.ref (X.2 + 95)), some (.int dev), some (.int v), o3, some (.int 10000000)] [] shA μ 0 0 := by
  refine sx_iload (pc := 209) dX6_answers_209 rfl ?_
  refine sx_if_le (pc := 211) (tgt := 239) dX6_answers_211 (by decide) (fun c_211 => absurd c_211 (by decide)) (fun c_211 => ?_)
  refine sx_aload_n (pc := 214) dX6_answers_214 rfl rfl ?_
  refine sx_iload_n (pc := 215) dX6_answers_215 rfl rfl ?_
  refine sx_bipush (pc := 216) (v := 48) dX6_answers_216 (by decide) ?_
  refine sx_iload_n (pc := 218) dX6_answers_218 rfl rfl ?_
  refine sx_iload (pc := 219) dX6_answers_219 rfl ?_
  refine sx_idiv (pc := 221) dX6_answers_221 (by decide) ?_
  refine sx_bipush (pc := 222) (v := 10) dX6_answers_222 (by decide) ?_
  refine sx_irem (pc := 224) dX6_answers_224 (by decide) ?_
  refine sx_iadd (pc := 225) dX6_answers_225 ?_
  refine sx_callV (pc := 226) (As := [.int dev, .int (48 + ((v / 10000000) - (v / 10000000) / 10 * 10))]) dX6_answers_226 (c_put X Ex hE μ _ hb _ (t) (by omega) h.2.2.2.1) mX6_put lm_X6_119 rfl s_Mo rfl ⟨Nat.le_of_ble_eq_true rfl, Nat.le_of_ble_eq_true rfl⟩ ⟨Nat.le_of_ble_eq_true rfl, Nat.le_of_ble_eq_true rfl⟩ (Nat.le_of_ble_eq_true rfl) hE (fun r_226 sh1 μ1 h_226 => ?_)
  obtain ⟨rfl, rfl, k_226, q_226⟩ := h_226
  replace h := h.tt k_226 q_226
  refine sx_iload (pc := 229) dX6_answers_229 rfl ?_
  refine sx_bipush (pc := 231) (v := 10) dX6_answers_231 (by decide) ?_
  refine sx_idiv (pc := 233) dX6_answers_233 (by decide) ?_
  refine sx_istore (pc := 234) (L' := [some (.ref (X.2 + 95)), some (.int dev), some (.int v), o3, some (.int 1000000)]) dX6_answers_234 (by decide) rfl ?_
  refine sx_goto (pc := 236) (tgt := 209) dX6_answers_236 (by decide) ?_
  exact l_q7 hE hb hPo (by omega) h _ _
set_option maxHeartbeats 1000000 in
set_option maxRecDepth 20000 in
theorem l_q9 {X : xD} {Ex : State → Prop} (hE : xEs X false shA.length Ex) {l : Launch} {dev : Int32} (hb : 0 ≤ dev ∧ dev < 6) {nu : Int32} {σ : SG} {μ0 μ : xM} {Po : Option Value → List xS → xM → Prop} (hPo : ∀ μ', IE dev.toNatClampNeg (σ.1, upd σ.2.1 dev.toNatClampNeg nu, σ.2.2) μ0 μ' → Po none shA μ') {t : Nat} (ht : t + 9 < 24) (h : IV dev.toNatClampNeg nu σ μ0 μ t) (v : Int32) (o3 : Option Value) : sx l (rmN 3) X Ex false kX6_answers shA.length (xZ X false shA.length Po 0 0) 209 [some (.ref (X.2 + 95)), some (.int dev), some (.int v), o3, some (.int 100000000)] [] shA μ 0 0 := by
  refine sx_iload (pc := 209) dX6_answers_209 rfl ?_
  refine sx_if_le (pc := 211) (tgt := 239) dX6_answers_211 (by decide) (fun c_211 => absurd c_211 (by decide)) (fun c_211 => ?_)
  refine sx_aload_n (pc := 214) dX6_answers_214 rfl rfl ?_
  refine sx_iload_n (pc := 215) dX6_answers_215 rfl rfl ?_
  refine sx_bipush (pc := 216) (v := 48) dX6_answers_216 (by decide) ?_
  refine sx_iload_n (pc := 218) dX6_answers_218 rfl rfl ?_
  refine sx_iload (pc := 219) dX6_answers_219 rfl ?_
  refine sx_idiv (pc := 221) dX6_answers_221 (by decide) ?_
  refine sx_bipush (pc := 222) (v := 10) dX6_answers_222 (by decide) ?_
  refine sx_irem (pc := 224) dX6_answers_224 (by decide) ?_
  refine sx_iadd (pc := 225) dX6_answers_225 ?_
  refine sx_callV (pc := 226) (As := [.int dev, .int (48 + ((v / 100000000) - (v / 100000000) / 10 * 10))]) dX6_answers_226 (c_put X Ex hE μ _ hb _ (t) (by omega) h.2.2.2.1) mX6_put lm_X6_119 rfl s_Mo rfl ⟨Nat.le_of_ble_eq_true rfl, Nat.le_of_ble_eq_true rfl⟩ ⟨Nat.le_of_ble_eq_true rfl, Nat.le_of_ble_eq_true rfl⟩ (Nat.le_of_ble_eq_true rfl) hE (fun r_226 sh1 μ1 h_226 => ?_)
  obtain ⟨rfl, rfl, k_226, q_226⟩ := h_226
  replace h := h.tt k_226 q_226
  refine sx_iload (pc := 229) dX6_answers_229 rfl ?_
  refine sx_bipush (pc := 231) (v := 10) dX6_answers_231 (by decide) ?_
  refine sx_idiv (pc := 233) dX6_answers_233 (by decide) ?_
  refine sx_istore (pc := 234) (L' := [some (.ref (X.2 + 95)), some (.int dev), some (.int v), o3, some (.int 10000000)]) dX6_answers_234 (by decide) rfl ?_
  refine sx_goto (pc := 236) (tgt := 209) dX6_answers_236 (by decide) ?_
  exact l_q8 hE hb hPo (by omega) h _ _
set_option maxHeartbeats 1000000 in
set_option maxRecDepth 20000 in
theorem l_q10 {X : xD} {Ex : State → Prop} (hE : xEs X false shA.length Ex) {l : Launch} {dev : Int32} (hb : 0 ≤ dev ∧ dev < 6) {nu : Int32} {σ : SG} {μ0 μ : xM} {Po : Option Value → List xS → xM → Prop} (hPo : ∀ μ', IE dev.toNatClampNeg (σ.1, upd σ.2.1 dev.toNatClampNeg nu, σ.2.2) μ0 μ' → Po none shA μ') {t : Nat} (ht : t + 10 < 24) (h : IV dev.toNatClampNeg nu σ μ0 μ t) (v : Int32) (o3 : Option Value) : sx l (rmN 3) X Ex false kX6_answers shA.length (xZ X false shA.length Po 0 0) 209 [some (.ref (X.2 + 95)), some (.int dev), some (.int v), o3, some (.int 1000000000)] [] shA μ 0 0 := by
  refine sx_iload (pc := 209) dX6_answers_209 rfl ?_
  refine sx_if_le (pc := 211) (tgt := 239) dX6_answers_211 (by decide) (fun c_211 => absurd c_211 (by decide)) (fun c_211 => ?_)
  refine sx_aload_n (pc := 214) dX6_answers_214 rfl rfl ?_
  refine sx_iload_n (pc := 215) dX6_answers_215 rfl rfl ?_
  refine sx_bipush (pc := 216) (v := 48) dX6_answers_216 (by decide) ?_
  refine sx_iload_n (pc := 218) dX6_answers_218 rfl rfl ?_
  refine sx_iload (pc := 219) dX6_answers_219 rfl ?_
  refine sx_idiv (pc := 221) dX6_answers_221 (by decide) ?_
  refine sx_bipush (pc := 222) (v := 10) dX6_answers_222 (by decide) ?_
  refine sx_irem (pc := 224) dX6_answers_224 (by decide) ?_
  refine sx_iadd (pc := 225) dX6_answers_225 ?_
  refine sx_callV (pc := 226) (As := [.int dev, .int (48 + ((v / 1000000000) - (v / 1000000000) / 10 * 10))]) dX6_answers_226 (c_put X Ex hE μ _ hb _ (t) (by omega) h.2.2.2.1) mX6_put lm_X6_119 rfl s_Mo rfl ⟨Nat.le_of_ble_eq_true rfl, Nat.le_of_ble_eq_true rfl⟩ ⟨Nat.le_of_ble_eq_true rfl, Nat.le_of_ble_eq_true rfl⟩ (Nat.le_of_ble_eq_true rfl) hE (fun r_226 sh1 μ1 h_226 => ?_)
  obtain ⟨rfl, rfl, k_226, q_226⟩ := h_226
  replace h := h.tt k_226 q_226
  refine sx_iload (pc := 229) dX6_answers_229 rfl ?_
  refine sx_bipush (pc := 231) (v := 10) dX6_answers_231 (by decide) ?_
  refine sx_idiv (pc := 233) dX6_answers_233 (by decide) ?_
  refine sx_istore (pc := 234) (L' := [some (.ref (X.2 + 95)), some (.int dev), some (.int v), o3, some (.int 100000000)]) dX6_answers_234 (by decide) rfl ?_
  refine sx_goto (pc := 236) (tgt := 209) dX6_answers_236 (by decide) ?_
  exact l_q9 hE hb hPo (by omega) h _ _
set_option maxHeartbeats 1000000 in
set_option maxRecDepth 20000 in
theorem l_p9 {X : xD} {Ex : State → Prop} (hE : xEs X false shA.length Ex) {l : Launch} {dev : Int32} (hb : 0 ≤ dev ∧ dev < 6) {nu : Int32} {σ : SG} {μ0 μ : xM} {Po : Option Value → List xS → xM → Prop} (hPo : ∀ μ', IE dev.toNatClampNeg (σ.1, upd σ.2.1 dev.toNatClampNeg nu, σ.2.2) μ0 μ' → Po none shA μ') {t : Nat} (ht : t + 10 < 24) (h : IV dev.toNatClampNeg nu σ μ0 μ t) {j : Nat} (hj : j < 2 ^ 31) (o4 : Option Value) : sx l (rmN 3) X Ex false kX6_answers shA.length (xZ X false shA.length Po 0 0) 190 [some (.ref (X.2 + 95)), some (.int dev), some (.int (nI j)), some (.int 1000000000), o4] [] shA μ 0 0 := by
  refine sx_iload_n (pc := 190) dX6_answers_190 rfl rfl ?_
  refine sx_iload_n (pc := 191) dX6_answers_191 rfl rfl ?_
  refine sx_idiv (pc := 192) dX6_answers_192 (by decide) ?_
  refine sx_bipush (pc := 193) (v := 9) dX6_answers_193 (by decide) ?_
  refine sx_icmp_le (pc := 195) (tgt := 206) dX6_answers_195 (by decide) (fun c_195 => ?_) (fun c_195 => absurd (by rw [show (1000000000 : Int32) = nI 1000000000 from rfl, pk_div hj (by decide) (by decide)]; exact nI_le (b := 9) (by omega) (by decide)) c_195)
  refine sx_iload_n (pc := 206) dX6_answers_206 rfl rfl ?_
  refine sx_istore (pc := 207) (L' := [some (.ref (X.2 + 95)), some (.int dev), some (.int (nI j)), some (.int 1000000000), some (.int 1000000000)]) dX6_answers_207 (by decide) rfl ?_
  exact l_q10 hE hb hPo (by omega) h _ _
set_option maxHeartbeats 1000000 in
set_option maxRecDepth 20000 in
theorem l_p8 {X : xD} {Ex : State → Prop} (hE : xEs X false shA.length Ex) {l : Launch} {dev : Int32} (hb : 0 ≤ dev ∧ dev < 6) {nu : Int32} {σ : SG} {μ0 μ : xM} {Po : Option Value → List xS → xM → Prop} (hPo : ∀ μ', IE dev.toNatClampNeg (σ.1, upd σ.2.1 dev.toNatClampNeg nu, σ.2.2) μ0 μ' → Po none shA μ') {t : Nat} (ht : t + 10 < 24) (h : IV dev.toNatClampNeg nu σ μ0 μ t) {j : Nat} (hj : j < 2 ^ 31) (o4 : Option Value) : sx l (rmN 3) X Ex false kX6_answers shA.length (xZ X false shA.length Po 0 0) 190 [some (.ref (X.2 + 95)), some (.int dev), some (.int (nI j)), some (.int 100000000), o4] [] shA μ 0 0 := by
  refine sx_iload_n (pc := 190) dX6_answers_190 rfl rfl ?_
  refine sx_iload_n (pc := 191) dX6_answers_191 rfl rfl ?_
  refine sx_idiv (pc := 192) dX6_answers_192 (by decide) ?_
  refine sx_bipush (pc := 193) (v := 9) dX6_answers_193 (by decide) ?_
  refine sx_icmp_le (pc := 195) (tgt := 206) dX6_answers_195 (by decide) (fun c_195 => ?_) (fun c_195 => ?_)
  · have h_195t := c_195
    refine sx_iload_n (pc := 206) dX6_answers_206 rfl rfl ?_
    refine sx_istore (pc := 207) (L' := [some (.ref (X.2 + 95)), some (.int dev), some (.int (nI j)), some (.int 100000000), some (.int 100000000)]) dX6_answers_207 (by decide) rfl ?_
    exact l_q9 hE hb hPo (by omega) h _ _
  · have h_195f := c_195
    refine sx_bipush (pc := 198) (v := 10) dX6_answers_198 (by decide) ?_
    refine sx_iload_n (pc := 200) dX6_answers_200 rfl rfl ?_
    refine sx_imul (pc := 201) dX6_answers_201 ?_
    refine sx_istore_n (pc := 202) (L' := [some (.ref (X.2 + 95)), some (.int dev), some (.int (nI j)), some (.int 1000000000), o4]) dX6_answers_202 rfl (by decide) rfl ?_
    refine sx_goto (pc := 203) (tgt := 190) dX6_answers_203 (by decide) ?_
    exact l_p9 hE hb hPo ht h hj _
set_option maxHeartbeats 1000000 in
set_option maxRecDepth 20000 in
theorem l_p7 {X : xD} {Ex : State → Prop} (hE : xEs X false shA.length Ex) {l : Launch} {dev : Int32} (hb : 0 ≤ dev ∧ dev < 6) {nu : Int32} {σ : SG} {μ0 μ : xM} {Po : Option Value → List xS → xM → Prop} (hPo : ∀ μ', IE dev.toNatClampNeg (σ.1, upd σ.2.1 dev.toNatClampNeg nu, σ.2.2) μ0 μ' → Po none shA μ') {t : Nat} (ht : t + 10 < 24) (h : IV dev.toNatClampNeg nu σ μ0 μ t) {j : Nat} (hj : j < 2 ^ 31) (o4 : Option Value) : sx l (rmN 3) X Ex false kX6_answers shA.length (xZ X false shA.length Po 0 0) 190 [some (.ref (X.2 + 95)), some (.int dev), some (.int (nI j)), some (.int 10000000), o4] [] shA μ 0 0 := by
  refine sx_iload_n (pc := 190) dX6_answers_190 rfl rfl ?_
  refine sx_iload_n (pc := 191) dX6_answers_191 rfl rfl ?_
  refine sx_idiv (pc := 192) dX6_answers_192 (by decide) ?_
  refine sx_bipush (pc := 193) (v := 9) dX6_answers_193 (by decide) ?_
  refine sx_icmp_le (pc := 195) (tgt := 206) dX6_answers_195 (by decide) (fun c_195 => ?_) (fun c_195 => ?_)
  · have h_195t := c_195
    refine sx_iload_n (pc := 206) dX6_answers_206 rfl rfl ?_
    refine sx_istore (pc := 207) (L' := [some (.ref (X.2 + 95)), some (.int dev), some (.int (nI j)), some (.int 10000000), some (.int 10000000)]) dX6_answers_207 (by decide) rfl ?_
    exact l_q8 hE hb hPo (by omega) h _ _
  · have h_195f := c_195
    refine sx_bipush (pc := 198) (v := 10) dX6_answers_198 (by decide) ?_
    refine sx_iload_n (pc := 200) dX6_answers_200 rfl rfl ?_
    refine sx_imul (pc := 201) dX6_answers_201 ?_
    refine sx_istore_n (pc := 202) (L' := [some (.ref (X.2 + 95)), some (.int dev), some (.int (nI j)), some (.int 100000000), o4]) dX6_answers_202 rfl (by decide) rfl ?_
    refine sx_goto (pc := 203) (tgt := 190) dX6_answers_203 (by decide) ?_
    exact l_p8 hE hb hPo ht h hj _
set_option maxHeartbeats 1000000 in
set_option maxRecDepth 20000 in
theorem l_p6 {X : xD} {Ex : State → Prop} (hE : xEs X false shA.length Ex) {l : Launch} {dev : Int32} (hb : 0 ≤ dev ∧ dev < 6) {nu : Int32} {σ : SG} {μ0 μ : xM} {Po : Option Value → List xS → xM → Prop} (hPo : ∀ μ', IE dev.toNatClampNeg (σ.1, upd σ.2.1 dev.toNatClampNeg nu, σ.2.2) μ0 μ' → Po none shA μ') {t : Nat} (ht : t + 10 < 24) (h : IV dev.toNatClampNeg nu σ μ0 μ t) {j : Nat} (hj : j < 2 ^ 31) (o4 : Option Value) : sx l (rmN 3) X Ex false kX6_answers shA.length (xZ X false shA.length Po 0 0) 190 [some (.ref (X.2 + 95)), some (.int dev), some (.int (nI j)), some (.int 1000000), o4] [] shA μ 0 0 := by
  refine sx_iload_n (pc := 190) dX6_answers_190 rfl rfl ?_
  refine sx_iload_n (pc := 191) dX6_answers_191 rfl rfl ?_
  refine sx_idiv (pc := 192) dX6_answers_192 (by decide) ?_
  refine sx_bipush (pc := 193) (v := 9) dX6_answers_193 (by decide) ?_
  refine sx_icmp_le (pc := 195) (tgt := 206) dX6_answers_195 (by decide) (fun c_195 => ?_) (fun c_195 => ?_)
  · have h_195t := c_195
    refine sx_iload_n (pc := 206) dX6_answers_206 rfl rfl ?_
    refine sx_istore (pc := 207) (L' := [some (.ref (X.2 + 95)), some (.int dev), some (.int (nI j)), some (.int 1000000), some (.int 1000000)]) dX6_answers_207 (by decide) rfl ?_
    exact l_q7 hE hb hPo (by omega) h _ _
  · have h_195f := c_195
    refine sx_bipush (pc := 198) (v := 10) dX6_answers_198 (by decide) ?_
    refine sx_iload_n (pc := 200) dX6_answers_200 rfl rfl ?_
    refine sx_imul (pc := 201) dX6_answers_201 ?_
    refine sx_istore_n (pc := 202) (L' := [some (.ref (X.2 + 95)), some (.int dev), some (.int (nI j)), some (.int 10000000), o4]) dX6_answers_202 rfl (by decide) rfl ?_
    refine sx_goto (pc := 203) (tgt := 190) dX6_answers_203 (by decide) ?_
    exact l_p7 hE hb hPo ht h hj _
set_option maxHeartbeats 1000000 in
set_option maxRecDepth 20000 in
theorem l_p5 {X : xD} {Ex : State → Prop} (hE : xEs X false shA.length Ex) {l : Launch} {dev : Int32} (hb : 0 ≤ dev ∧ dev < 6) {nu : Int32} {σ : SG} {μ0 μ : xM} {Po : Option Value → List xS → xM → Prop} (hPo : ∀ μ', IE dev.toNatClampNeg (σ.1, upd σ.2.1 dev.toNatClampNeg nu, σ.2.2) μ0 μ' → Po none shA μ') {t : Nat} (ht : t + 10 < 24) (h : IV dev.toNatClampNeg nu σ μ0 μ t) {j : Nat} (hj : j < 2 ^ 31) (o4 : Option Value) : sx l (rmN 3) X Ex false kX6_answers shA.length (xZ X false shA.length Po 0 0) 190 [some (.ref (X.2 + 95)), some (.int dev), some (.int (nI j)), some (.int 100000), o4] [] shA μ 0 0 := by
  refine sx_iload_n (pc := 190) dX6_answers_190 rfl rfl ?_
  refine sx_iload_n (pc := 191) dX6_answers_191 rfl rfl ?_
  refine sx_idiv (pc := 192) dX6_answers_192 (by decide) ?_
  refine sx_bipush (pc := 193) (v := 9) dX6_answers_193 (by decide) ?_
  refine sx_icmp_le (pc := 195) (tgt := 206) dX6_answers_195 (by decide) (fun c_195 => ?_) (fun c_195 => ?_)
  · have h_195t := c_195
    refine sx_iload_n (pc := 206) dX6_answers_206 rfl rfl ?_
    refine sx_istore (pc := 207) (L' := [some (.ref (X.2 + 95)), some (.int dev), some (.int (nI j)), some (.int 100000), some (.int 100000)]) dX6_answers_207 (by decide) rfl ?_
    exact l_q6 hE hb hPo (by omega) h _ _
  · have h_195f := c_195
    refine sx_bipush (pc := 198) (v := 10) dX6_answers_198 (by decide) ?_
    refine sx_iload_n (pc := 200) dX6_answers_200 rfl rfl ?_
    refine sx_imul (pc := 201) dX6_answers_201 ?_
    refine sx_istore_n (pc := 202) (L' := [some (.ref (X.2 + 95)), some (.int dev), some (.int (nI j)), some (.int 1000000), o4]) dX6_answers_202 rfl (by decide) rfl ?_
    refine sx_goto (pc := 203) (tgt := 190) dX6_answers_203 (by decide) ?_
    exact l_p6 hE hb hPo ht h hj _
set_option maxHeartbeats 1000000 in
set_option maxRecDepth 20000 in
theorem l_p4 {X : xD} {Ex : State → Prop} (hE : xEs X false shA.length Ex) {l : Launch} {dev : Int32} (hb : 0 ≤ dev ∧ dev < 6) {nu : Int32} {σ : SG} {μ0 μ : xM} {Po : Option Value → List xS → xM → Prop} (hPo : ∀ μ', IE dev.toNatClampNeg (σ.1, upd σ.2.1 dev.toNatClampNeg nu, σ.2.2) μ0 μ' → Po none shA μ') {t : Nat} (ht : t + 10 < 24) (h : IV dev.toNatClampNeg nu σ μ0 μ t) {j : Nat} (hj : j < 2 ^ 31) (o4 : Option Value) : sx l (rmN 3) X Ex false kX6_answers shA.length (xZ X false shA.length Po 0 0) 190 [some (.ref (X.2 + 95)), some (.int dev), some (.int (nI j)), some (.int 10000), o4] [] shA μ 0 0 := by
  refine sx_iload_n (pc := 190) dX6_answers_190 rfl rfl ?_
  refine sx_iload_n (pc := 191) dX6_answers_191 rfl rfl ?_
  refine sx_idiv (pc := 192) dX6_answers_192 (by decide) ?_
  refine sx_bipush (pc := 193) (v := 9) dX6_answers_193 (by decide) ?_
  refine sx_icmp_le (pc := 195) (tgt := 206) dX6_answers_195 (by decide) (fun c_195 => ?_) (fun c_195 => ?_)
  · have h_195t := c_195
    refine sx_iload_n (pc := 206) dX6_answers_206 rfl rfl ?_
    refine sx_istore (pc := 207) (L' := [some (.ref (X.2 + 95)), some (.int dev), some (.int (nI j)), some (.int 10000), some (.int 10000)]) dX6_answers_207 (by decide) rfl ?_
    exact l_q5 hE hb hPo (by omega) h _ _
  · have h_195f := c_195
    refine sx_bipush (pc := 198) (v := 10) dX6_answers_198 (by decide) ?_
    refine sx_iload_n (pc := 200) dX6_answers_200 rfl rfl ?_
    refine sx_imul (pc := 201) dX6_answers_201 ?_
    refine sx_istore_n (pc := 202) (L' := [some (.ref (X.2 + 95)), some (.int dev), some (.int (nI j)), some (.int 100000), o4]) dX6_answers_202 rfl (by decide) rfl ?_
    refine sx_goto (pc := 203) (tgt := 190) dX6_answers_203 (by decide) ?_
    exact l_p5 hE hb hPo ht h hj _
set_option maxHeartbeats 1000000 in
set_option maxRecDepth 20000 in
theorem l_p3 {X : xD} {Ex : State → Prop} (hE : xEs X false shA.length Ex) {l : Launch} {dev : Int32} (hb : 0 ≤ dev ∧ dev < 6) {nu : Int32} {σ : SG} {μ0 μ : xM} {Po : Option Value → List xS → xM → Prop} (hPo : ∀ μ', IE dev.toNatClampNeg (σ.1, upd σ.2.1 dev.toNatClampNeg nu, σ.2.2) μ0 μ' → Po none shA μ') {t : Nat} (ht : t + 10 < 24) (h : IV dev.toNatClampNeg nu σ μ0 μ t) {j : Nat} (hj : j < 2 ^ 31) (o4 : Option Value) : sx l (rmN 3) X Ex false kX6_answers shA.length (xZ X false shA.length Po 0 0) 190 [some (.ref (X.2 + 95)), some (.int dev), some (.int (nI j)), some (.int 1000), o4] [] shA μ 0 0 := by
  refine sx_iload_n (pc := 190) dX6_answers_190 rfl rfl ?_
  refine sx_iload_n (pc := 191) dX6_answers_191 rfl rfl ?_
  refine sx_idiv (pc := 192) dX6_answers_192 (by decide) ?_
  refine sx_bipush (pc := 193) (v := 9) dX6_answers_193 (by decide) ?_
  refine sx_icmp_le (pc := 195) (tgt := 206) dX6_answers_195 (by decide) (fun c_195 => ?_) (fun c_195 => ?_)
  · have h_195t := c_195
    refine sx_iload_n (pc := 206) dX6_answers_206 rfl rfl ?_
    refine sx_istore (pc := 207) (L' := [some (.ref (X.2 + 95)), some (.int dev), some (.int (nI j)), some (.int 1000), some (.int 1000)]) dX6_answers_207 (by decide) rfl ?_
    exact l_q4 hE hb hPo (by omega) h _ _
  · have h_195f := c_195
    refine sx_bipush (pc := 198) (v := 10) dX6_answers_198 (by decide) ?_
    refine sx_iload_n (pc := 200) dX6_answers_200 rfl rfl ?_
    refine sx_imul (pc := 201) dX6_answers_201 ?_
    refine sx_istore_n (pc := 202) (L' := [some (.ref (X.2 + 95)), some (.int dev), some (.int (nI j)), some (.int 10000), o4]) dX6_answers_202 rfl (by decide) rfl ?_
    refine sx_goto (pc := 203) (tgt := 190) dX6_answers_203 (by decide) ?_
    exact l_p4 hE hb hPo ht h hj _
set_option maxHeartbeats 1000000 in
set_option maxRecDepth 20000 in
theorem l_p2 {X : xD} {Ex : State → Prop} (hE : xEs X false shA.length Ex) {l : Launch} {dev : Int32} (hb : 0 ≤ dev ∧ dev < 6) {nu : Int32} {σ : SG} {μ0 μ : xM} {Po : Option Value → List xS → xM → Prop} (hPo : ∀ μ', IE dev.toNatClampNeg (σ.1, upd σ.2.1 dev.toNatClampNeg nu, σ.2.2) μ0 μ' → Po none shA μ') {t : Nat} (ht : t + 10 < 24) (h : IV dev.toNatClampNeg nu σ μ0 μ t) {j : Nat} (hj : j < 2 ^ 31) (o4 : Option Value) : sx l (rmN 3) X Ex false kX6_answers shA.length (xZ X false shA.length Po 0 0) 190 [some (.ref (X.2 + 95)), some (.int dev), some (.int (nI j)), some (.int 100), o4] [] shA μ 0 0 := by
  refine sx_iload_n (pc := 190) dX6_answers_190 rfl rfl ?_
  refine sx_iload_n (pc := 191) dX6_answers_191 rfl rfl ?_
  refine sx_idiv (pc := 192) dX6_answers_192 (by decide) ?_
  refine sx_bipush (pc := 193) (v := 9) dX6_answers_193 (by decide) ?_
  refine sx_icmp_le (pc := 195) (tgt := 206) dX6_answers_195 (by decide) (fun c_195 => ?_) (fun c_195 => ?_)
  · have h_195t := c_195
    refine sx_iload_n (pc := 206) dX6_answers_206 rfl rfl ?_
    refine sx_istore (pc := 207) (L' := [some (.ref (X.2 + 95)), some (.int dev), some (.int (nI j)), some (.int 100), some (.int 100)]) dX6_answers_207 (by decide) rfl ?_
    exact l_q3 hE hb hPo (by omega) h _ _
  · have h_195f := c_195
    refine sx_bipush (pc := 198) (v := 10) dX6_answers_198 (by decide) ?_
    refine sx_iload_n (pc := 200) dX6_answers_200 rfl rfl ?_
    refine sx_imul (pc := 201) dX6_answers_201 ?_
    refine sx_istore_n (pc := 202) (L' := [some (.ref (X.2 + 95)), some (.int dev), some (.int (nI j)), some (.int 1000), o4]) dX6_answers_202 rfl (by decide) rfl ?_
    refine sx_goto (pc := 203) (tgt := 190) dX6_answers_203 (by decide) ?_
    exact l_p3 hE hb hPo ht h hj _
set_option maxHeartbeats 1000000 in
set_option maxRecDepth 20000 in
theorem l_p1 {X : xD} {Ex : State → Prop} (hE : xEs X false shA.length Ex) {l : Launch} {dev : Int32} (hb : 0 ≤ dev ∧ dev < 6) {nu : Int32} {σ : SG} {μ0 μ : xM} {Po : Option Value → List xS → xM → Prop} (hPo : ∀ μ', IE dev.toNatClampNeg (σ.1, upd σ.2.1 dev.toNatClampNeg nu, σ.2.2) μ0 μ' → Po none shA μ') {t : Nat} (ht : t + 10 < 24) (h : IV dev.toNatClampNeg nu σ μ0 μ t) {j : Nat} (hj : j < 2 ^ 31) (o4 : Option Value) : sx l (rmN 3) X Ex false kX6_answers shA.length (xZ X false shA.length Po 0 0) 190 [some (.ref (X.2 + 95)), some (.int dev), some (.int (nI j)), some (.int 10), o4] [] shA μ 0 0 := by
  refine sx_iload_n (pc := 190) dX6_answers_190 rfl rfl ?_
  refine sx_iload_n (pc := 191) dX6_answers_191 rfl rfl ?_
  refine sx_idiv (pc := 192) dX6_answers_192 (by decide) ?_
  refine sx_bipush (pc := 193) (v := 9) dX6_answers_193 (by decide) ?_
  refine sx_icmp_le (pc := 195) (tgt := 206) dX6_answers_195 (by decide) (fun c_195 => ?_) (fun c_195 => ?_)
  · have h_195t := c_195
    refine sx_iload_n (pc := 206) dX6_answers_206 rfl rfl ?_
    refine sx_istore (pc := 207) (L' := [some (.ref (X.2 + 95)), some (.int dev), some (.int (nI j)), some (.int 10), some (.int 10)]) dX6_answers_207 (by decide) rfl ?_
    exact l_q2 hE hb hPo (by omega) h _ _
  · have h_195f := c_195
    refine sx_bipush (pc := 198) (v := 10) dX6_answers_198 (by decide) ?_
    refine sx_iload_n (pc := 200) dX6_answers_200 rfl rfl ?_
    refine sx_imul (pc := 201) dX6_answers_201 ?_
    refine sx_istore_n (pc := 202) (L' := [some (.ref (X.2 + 95)), some (.int dev), some (.int (nI j)), some (.int 100), o4]) dX6_answers_202 rfl (by decide) rfl ?_
    refine sx_goto (pc := 203) (tgt := 190) dX6_answers_203 (by decide) ?_
    exact l_p2 hE hb hPo ht h hj _
set_option maxHeartbeats 1000000 in
set_option maxRecDepth 20000 in
theorem l_p0 {X : xD} {Ex : State → Prop} (hE : xEs X false shA.length Ex) {l : Launch} {dev : Int32} (hb : 0 ≤ dev ∧ dev < 6) {nu : Int32} {σ : SG} {μ0 μ : xM} {Po : Option Value → List xS → xM → Prop} (hPo : ∀ μ', IE dev.toNatClampNeg (σ.1, upd σ.2.1 dev.toNatClampNeg nu, σ.2.2) μ0 μ' → Po none shA μ') {t : Nat} (ht : t + 10 < 24) (h : IV dev.toNatClampNeg nu σ μ0 μ t) {j : Nat} (hj : j < 2 ^ 31) (o4 : Option Value) : sx l (rmN 3) X Ex false kX6_answers shA.length (xZ X false shA.length Po 0 0) 190 [some (.ref (X.2 + 95)), some (.int dev), some (.int (nI j)), some (.int 1), o4] [] shA μ 0 0 := by
  refine sx_iload_n (pc := 190) dX6_answers_190 rfl rfl ?_
  refine sx_iload_n (pc := 191) dX6_answers_191 rfl rfl ?_
  refine sx_idiv (pc := 192) dX6_answers_192 (by decide) ?_
  refine sx_bipush (pc := 193) (v := 9) dX6_answers_193 (by decide) ?_
  refine sx_icmp_le (pc := 195) (tgt := 206) dX6_answers_195 (by decide) (fun c_195 => ?_) (fun c_195 => ?_)
  · have h_195t := c_195
    refine sx_iload_n (pc := 206) dX6_answers_206 rfl rfl ?_
    refine sx_istore (pc := 207) (L' := [some (.ref (X.2 + 95)), some (.int dev), some (.int (nI j)), some (.int 1), some (.int 1)]) dX6_answers_207 (by decide) rfl ?_
    exact l_q1 hE hb hPo (by omega) h _ _
  · have h_195f := c_195
    refine sx_bipush (pc := 198) (v := 10) dX6_answers_198 (by decide) ?_
    refine sx_iload_n (pc := 200) dX6_answers_200 rfl rfl ?_
    refine sx_imul (pc := 201) dX6_answers_201 ?_
    refine sx_istore_n (pc := 202) (L' := [some (.ref (X.2 + 95)), some (.int dev), some (.int (nI j)), some (.int 10), o4]) dX6_answers_202 rfl (by decide) rfl ?_
    refine sx_goto (pc := 203) (tgt := 190) dX6_answers_203 (by decide) ?_
    exact l_p1 hE hb hPo ht h hj _
set_option maxHeartbeats 1000000 in
set_option maxRecDepth 20000 in
theorem l_p {X : xD} {Ex : State → Prop} (hE : xEs X false shA.length Ex) {l : Launch} {dev : Int32} (hb : 0 ≤ dev ∧ dev < 6) {nu : Int32} {σ : SG} {μ0 μ : xM} {Po : Option Value → List xS → xM → Prop} (hPo : ∀ μ', IE dev.toNatClampNeg (σ.1, upd σ.2.1 dev.toNatClampNeg nu, σ.2.2) μ0 μ' → Po none shA μ') {t : Nat} (ht : t + 10 < 24) (h : IV dev.toNatClampNeg nu σ μ0 μ t) (v : Int32) (o4 : Option Value) : sx l (rmN 3) X Ex false kX6_answers shA.length (xZ X false shA.length Po 0 0) 190 [some (.ref (X.2 + 95)), some (.int dev), some (.int v), some (.int 1), o4] [] shA μ 0 0 := by
  by_cases hv : v < 0
  · skip
    refine sx_iload_n (pc := 190) dX6_answers_190 rfl rfl ?_
    refine sx_iload_n (pc := 191) dX6_answers_191 rfl rfl ?_
    refine sx_idiv (pc := 192) dX6_answers_192 (by decide) ?_
    refine sx_bipush (pc := 193) (v := 9) dX6_answers_193 (by decide) ?_
    refine sx_icmp_le (pc := 195) (tgt := 206) dX6_answers_195 (by decide) (fun c_195 => ?_) (fun c_195 => absurd (neg_div1 hv) c_195)
    refine sx_iload_n (pc := 206) dX6_answers_206 rfl rfl ?_
    refine sx_istore (pc := 207) (L' := [some (.ref (X.2 + 95)), some (.int dev), some (.int v), some (.int 1), some (.int 1)]) dX6_answers_207 (by decide) rfl ?_
    exact l_q1 hE hb hPo (by omega) h _ _
  · obtain ⟨j, hj, rfl⟩ := nI_of hv
    exact l_p0 hE hb hPo ht h hj _
