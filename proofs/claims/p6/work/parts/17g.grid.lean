/-! new int[n][k] -/
theorem mn_outer (c : ClassId) (N h0 : Nat) : ∀ i : Nat, Jvm.Free.Multi.outerC c N h0 i = arrV c N (fun j => va_rf (if j < i then some (h0 + 1 + j) else none))
  | 0 => by
    show ({ cls := c, slots := Array.replicate N .null, vm := .none } : Cell) = _
    rw [arrV_new]
    refine congrArg (arrV c N) (funext fun j => ?_)
    simp [va_rf]
  | i + 1 => by
    show (Jvm.Free.Multi.outerC c N h0 i).setSlot i (.ref (h0 + 1 + i)) = _
    rw [mn_outer c N h0 i, arrV_store]
    refine congrArg (arrV c N) (funext fun j => ?_)
    by_cases e : j = i
    · subst e
      simp [updV, va_rf]
    · by_cases h : j < i
      · simp [updV, e, h, Nat.lt_succ_of_lt h]
      · simp [updV, e, h, show ¬ j < i + 1 by omega]
section SXG
variable {l : Launch} {R : Room} {X : xD} {Ex : State → Prop} {K : xK} {n0 : Nat} {Z : List Frame → Array Value → State → State → Prop} {pc : Nat} {L : List (Option Value)} {st : List Value} {sh sh' : List xS} {μ : xM} {cs ss : Nat}
theorem sx_mna {i N M : Nat} {n k : Int32} (hd : decode K.2.1 pc = .ok (.multianewarray i 2, 4)) (hcl : Cond.classLink K.1 i ("[" ++ (FieldType.array .int).toString) ∈ xws) (harr : Cond.arrayClass .int ∈ xws) (ho : ∀ s : State, Ex s → (Cond.arrayOver (.array .int)).before #[] s = true) (hn : ¬ n < 0) (hk : ¬ k < 0) (hN : n.toNatClampNeg = N) (hM : k.toNatClampNeg = M) (hb1 : N * 4 ≤ 536870912) (hb2 : M * componentBytes .int ≤ 536870912) (hb3 : M ≤ 536870912) (h1 : cs + (1 + N) ≤ R.cells) (h2 : ss + (N + N * M) ≤ R.slots)
    (hsh : sh ++ (.inr (5, N, some (mnG sh.length N)) :: List.replicate N (.inr (1, M, none))) = sh')
    (kk : sx l R X Ex true K n0 Z (pc + 4) L (.ref (X.2 + sh.length) :: st) sh' (mn0 μ sh.length) (cs + 1 + N) (ss + N + N * M)) : sx l R X Ex true K n0 Z pc L (.int k :: .int n :: st) sh μ cs ss := by
  intro p e s m args below meth c H locs ls hC hH hL
  subst hsh
  subst hN
  subst hM
  have hts := hC.2.2.2.2.2.2.1
  obtain ⟨hP, hS, hn0, -, hf⟩ := hH
  have hsz := hf rfl
  have r5 := (hC.2.2.2.2.2.2.2.2.1.2 5 _ (xtys_at (X := X) (i := 5) (t := .array .int) rfl)).2
  have r1 := (hC.2.2.2.2.2.2.2.2.1.2 1 _ (xtys_at (X := X) (i := 1) (t := .int) rfl)).2
  intro T hT Xs
  obtain ⟨vm₁, cA, comp, -, fA, fC, -, -, X', step⟩ := Xs.multianewarray2F hC.1 hC.2.2.2.2.2.1 (hts _ hcl) (show (Cond.arrayOver (.array .int)).before args s = true from ho s hC.2.2.2.2.2.2.2.2.2.1) (hts _ harr) (g := F0 m pc ls (.int k :: .int n :: st)) rfl (by rw [hC.2.1]; exact hd) rfl hn hk hb1 hb2 hb3 rfl rfl h1 h2
  have hcA : X.1.2 5 = cA := Option.some.inj ((show s.vm.findClass _ = some (X.1.2 5) from r5).symm.trans fA)
  have hcC : X.1.2 1 = comp := Option.some.inj ((show s.vm.findClass _ = some (X.1.2 1) from r1).symm.trans fC)
  subst hcA
  subst hcC
  generalize hF : Jvm.Free.Multi.fill (T.setVm vm₁) (X.1.2 5) (X.1.2 1) n.toNatClampNeg k.toNatClampNeg (defaultValue .int) n.toNatClampNeg = F at X' step
  have hTh : (T.setVm vm₁).heap = H := hT
  obtain ⟨f1, f2, -, -⟩ := Jvm.Free.Multi.fill_facts (T.setVm vm₁) (X.1.2 5) (X.1.2 1) n.toNatClampNeg k.toNatClampNeg (defaultValue .int) n.toNatClampNeg
  rw [hF, hTh] at f1 f2
  have hold : ∀ x : Nat, x < H.size → F.heap[x]? = H[x]? := fun x hx => by
    have := Jvm.Free.Multi.fill_old (T.setVm vm₁) (X.1.2 5) (X.1.2 1) n.toNatClampNeg k.toNatClampNeg (defaultValue .int) (a := x) (by rw [hTh]; exact hx) n.toNatClampNeg
    rw [hF, hTh] at this
    exact this
  have hrow : ∀ j : Nat, j < n.toNatClampNeg → F.heap[H.size + 1 + j]? = some (Jvm.Free.Multi.innerC (X.1.2 1) k.toNatClampNeg (defaultValue .int)) := fun j hj => by
    have := Jvm.Free.Multi.fill_inner (T.setVm vm₁) (X.1.2 5) (X.1.2 1) n.toNatClampNeg k.toNatClampNeg (defaultValue .int) n.toNatClampNeg j hj
    rw [hF, hTh] at this
    exact this
  rw [mn_outer] at f2
  have key : va_P X.1.1 classes (xwl X (sh ++ (.inr (5, n.toNatClampNeg, some (mnG sh.length n.toNatClampNeg)) :: List.replicate n.toNatClampNeg (.inr (1, k.toNatClampNeg, none)))) (mn0 μ sh.length)) F.heap := by
    intro q x hx
    obtain ⟨s9, h9, rfl⟩ := xwl_of hx
    by_cases hq : q < sh.length
    · rw [List.getElem?_append_left hq] at h9
      have h8 := hP q _ (xwl_get μ h9)
      have h7 : mn0 μ sh.length q = μ q := by simp [mn0, hq]
      rw [h7]
      exact h8.kept (hold _ h8.lt)
    · rw [List.getElem?_append_right (by omega)] at h9
      have h7 : mn0 μ sh.length q = fun _ => 0 := by simp [mn0, hq]
      rw [h7]
      obtain ⟨j, rfl⟩ : ∃ j, q = sh.length + j := ⟨q - sh.length, by omega⟩
      rw [show sh.length + j - sh.length = j by omega] at h9
      match j, h9 with
      | 0, h9 =>
        cases h9
        show F.heap[X.2 + (sh.length + 0)]? = some (vp_cell _ _)
        rw [show X.2 + (sh.length + 0) = H.size by rw [hsz]; omega, f2, vp_cell_q]
        refine congrArg (fun f => some (arrV (X.1.2 5) n.toNatClampNeg f)) (funext fun j => ?_)
        by_cases hj : j < n.toNatClampNeg
        · have e7 : H.size + 1 + j = X.2 + (sh.length + 1 + j) := by rw [hsz]; omega
          simp [mnG, hj, e7]
        · simp [mnG, hj]
      | j + 1, h9 =>
        have h9 : (List.replicate n.toNatClampNeg (Sum.inr (1, k.toNatClampNeg, none) : xS))[j]? = some s9 := h9
        have hj : j < n.toNatClampNeg := by
          have := (List.getElem?_eq_some_iff.mp h9).1
          simpa using this
        rw [List.getElem?_replicate, if_pos hj] at h9
        cases h9
        show F.heap[X.2 + (sh.length + (j + 1))]? = some (vp_cell _ _)
        rw [show X.2 + (sh.length + (j + 1)) = H.size + 1 + j by rw [hsz]; omega, hrow j hj]
        refine congrArg some (Eq.trans ?_ (vp_cell_i (X.1.2 1) k.toNatClampNeg (fun _ => 0)).symm)
        show Jvm.Free.Multi.innerC (X.1.2 1) k.toNatClampNeg (.int 0) = arrV (X.1.2 1) k.toNatClampNeg (fun _ => .int 0)
        rw [← arrV_new]
        rfl
  obtain ⟨t, a1, b1⟩ := kk p e s m args below meth c F.heap locs ls hC ⟨key, ⟨Nat.le_trans hS.1 (by rw [f1]; omega), fun x q1 q2 => (hold x (Nat.lt_of_lt_of_le q1 hS.1)).trans (hS.2.1 x q1 q2), hS.2.2⟩, by simp; omega, fun h => (by cases h), fun _ => by rw [f1, hsz]; simp; omega⟩ hL F rfl X'
  refine ⟨t, step t ?_, b1⟩
  have e9 : T.heap.size = X.2 + sh.length := by rw [hT, hsz]
  rw [e9]
  exact a1
end SXG
