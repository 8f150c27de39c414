/-! Rows of what makes cells: the block grows at its end (fr = true). -/
section SXM
variable {l : Launch} {R : Room} {X : xD} {Ex : State → Prop} {K : xK} {n0 : Nat} {Z : List Frame → Array Value → State → State → Prop} {pc : Nat} {L : List (Option Value)} {st : List Value} {sh sh' : List xS} {μ : xM} {cs ss : Nat}
theorem xH_push {n0 : Nat} {sh : List xS} {μ : xM} {s : State} {H H1 : Heap} {locs : List Loc} {X : xD} (hH : xH X true n0 sh μ s H locs) (s' : xS) (f : Nat → Int32) (hz : H1.size = H.size + 1) (ho : ∀ q, q < H.size → H1[q]? = H[q]?) (hat : va_at X.1.1 classes (H.size, xpic X s' f) H1) : xH X true n0 (sh ++ [s']) (va_up μ sh.length f) s H1 locs := by
  obtain ⟨hP, hS, hn, -, hf⟩ := hH
  have hsz := hf rfl
  refine ⟨?_, ⟨Nat.le_trans hS.1 (by omega), fun q h1 h2 => (ho q (Nat.lt_of_lt_of_le h1 hS.1)).trans (hS.2.1 q h1 h2), hS.2.2⟩, by rw [List.length_append]; omega, fun h => (by cases h), fun _ => by rw [hz, hsz, List.length_append]; rfl⟩
  rw [← xwl_push]
  refine va_P.app (hP.kept fun k q hq => ho q.1 ((hP k q hq).lt)) (fun k q hk => ?_)
  have h0 : k < 1 := (List.getElem?_eq_some_iff.mp hk).1
  rw [show k = 0 by omega] at hk
  cases hk
  rw [hsz] at hat
  exact hat
theorem sx_objInit {fr : Bool} {i k : Nat} (hd : decode K.2.1 pc = .ok (.invokespecial i, 3)) (hl : Cond.methodLink K.1 i Lib.objectInit ∈ xws) (hi : Cond.instanceMethod Lib.objectInit ∈ xws) (hc : Cond.code Lib.objectInit ⟨#[0xb1]⟩ 1 none ∈ xws) (hf : 1 ≤ R.frames) (h8 : (st.map fun v => v.category).sum + 12 ≤ R.locals)
    (kk : sx l R X Ex fr K n0 Z (pc + 3) L st sh μ cs ss) : sx l R X Ex fr K n0 Z pc L (.ref k :: st) sh μ cs ss := by
  intro p e s m args below meth c H locs ls hC hH hL
  have hts := hC.2.2.2.2.2.2.1
  refine W.objInit hC.1 hC.2.1 hC.2.2.2.2.2.1 (hts _ hl) (hts _ hi) (hts _ hc) rfl (hL.1.1.trans hC.2.2.1.symm) rfl hd hf ?_ (kk p e s m args below meth c H locs ls hC hH hL)
  simpa [JFrame.monitorRoom] using h8
theorem sx_new {C : String} {T : u_T} {N ci i : Nat} {fl : List (Option (Option Nat))} (hd : decode K.2.1 pc = .ok (.new i, 3)) (hc : classes[ci]? = some (C, T, N)) (hcl : Cond.classLink K.1 i C ∈ xws) (hinst : Cond.instantiable C N ∈ xws) (hini : Cond.initialized C ∈ xws) (hfs : ∀ (b j : Nat), j < N → ∀ t, parseFieldDescriptor (T j).2.2.1 = some t → defaultValue t = vp_V (xfs b (fun _ => 0) fl 0) j) (hsh : sh ++ [.inl (ci, fl)] = sh') (h1 : cs + 1 ≤ R.cells) (h2 : ss + N ≤ R.slots)
    (kk : sx l R X Ex true K n0 Z (pc + 3) L (.ref (X.2 + sh.length) :: st) sh' (va_up μ sh.length (fun _ => 0)) (cs + 1) (ss + N)) : sx l R X Ex true K n0 Z pc L st sh μ cs ss := by
  intro p e s m args below meth c H locs ls hC hH hL
  subst hsh
  have hts := hC.2.2.2.2.2.2.1
  obtain ⟨hin, ty, hty, -⟩ := xcl_ok ci _ hc
  have hKn := hC.2.2.2.2.2.2.2.2.1.1 ci _ hc
  have hsz := hH.2.2.2.2 rfl
  refine W.newcK hC.1 hC.2.1 hC.2.2.2.2.2.1 (hts _ hcl) (hts _ hinst) (hts _ hini) rfl hd h1 h2 hKn.2.1 hsz fun H1 kC hkC e1 z1 o1 => ?_
  refine kk p e s m args below meth c H1 locs ls hC (xH_push hH (.inl (ci, fl)) (fun _ => 0) (by rw [z1, hsz]) (by rw [hsz]; exact o1) ?_) hL
  rw [hsz]
  exact ⟨_, hc, (u_born ty hts hin hKn hkC e1 hty).to (fun j hj => hfs X.2 j hj _ (hty j hj))⟩
theorem sx_newa {at' : ArrayType} {ti N : Nat} {n : Int32} {ty : FieldType} (hd : decode K.2.1 pc = .ok (.newarray at', 2)) (harr : Cond.arrayClass (newarray.typeOf at') ∈ xws) (hty : newarray.typeOf at' = ty) (ht : xty[ti]? = some ty) (hdv : defaultValue ty = if ti = 0 then .long 0 else .int 0) (hn : ¬ n < 0) (hN : n.toNatClampNeg = N) (hb : N * componentBytes ty ≤ 536870912) (hsh : sh ++ [.inr (ti, N, none)] = sh') (h1 : cs + 1 ≤ R.cells) (h2 : ss + N ≤ R.slots) (hra : ∀ (U : State) (cA : ClassId), va_RA U cA ty → U.vm.findClass ("[" ++ ty.toString) = some cA)
    (kk : sx l R X Ex true K n0 Z (pc + 2) L (.ref (X.2 + sh.length) :: st) sh' (va_up μ sh.length (fun _ => 0)) (cs + 1) (ss + N)) : sx l R X Ex true K n0 Z pc L (.int n :: st) sh μ cs ss := by
  intro p e s m args below meth c H locs ls hC hH hL
  subst hsh
  subst hty
  have hts := hC.2.2.2.2.2.2.1
  have hsz := hH.2.2.2.2 rfl
  have hKt := hC.2.2.2.2.2.2.2.2.1.2 ti _ (xtys_at ht)
  refine va_newaK hC.1 hC.2.1 (hts _ harr) rfl hd rfl hn hN hb h1 h2 hsz fun H1 cA e1 z1 o1 _ hNm => ?_
  have hcA : cA = X.1.2 ti := Option.some.inj (hNm.symm.trans (hra _ _ hKt.2))
  subst hcA
  refine kk p e s m args below meth c H1 locs ls hC (xH_push hH (.inr (ti, N, none)) (fun _ => 0) (by rw [z1, hsz]) (by rw [hsz]; exact o1) ?_) hL
  rw [hsz]
  show H1[X.2 + sh.length]? = some (vp_cell _ _)
  rw [e1, hdv]
  by_cases h0 : ti = 0
  · subst h0
    rfl
  · simp only [h0, if_false]
    rfl
theorem sx_anewa {C : String} {i ti N : Nat} {n : Int32} (hd : decode K.2.1 pc = .ok (.anewarray i, 3)) (hcl : Cond.classLink K.1 i C ∈ xws) (ho : ∀ s : State, Ex s → va_AO C s) (ht : xty[ti]? = some (.object C)) (hn : ¬ n < 0) (hN : n.toNatClampNeg = N) (hb : N * 4 ≤ 536870912) (hsh : sh ++ [.inr (ti, N, some [])] = sh') (h1 : cs + 1 ≤ R.cells) (h2 : ss + N ≤ R.slots)
    (kk : sx l R X Ex true K n0 Z (pc + 3) L (.ref (X.2 + sh.length) :: st) sh' (va_up μ sh.length (fun _ => 0)) (cs + 1) (ss + N)) : sx l R X Ex true K n0 Z pc L (.int n :: st) sh μ cs ss := by
  intro p e s m args below meth c H locs ls hC hH hL
  subst hsh
  subst hN
  have hts := hC.2.2.2.2.2.2.1
  have hsz := hH.2.2.2.2 rfl
  obtain ⟨-, kA', comp', r1, r2, r3, r4⟩ := hC.2.2.2.2.2.2.2.2.1.2 ti _ (xtys_at ht)
  refine W.anew hC.1 hC.2.1 hC.2.2.2.2.2.1 (hts _ hcl) (va_AO.use (ho s hC.2.2.2.2.2.2.2.2.2.1)) rfl hd rfl hn hb h1 h2 fun cA kA comp q1 q2 q3 q4 => ?_
  have hcA : cA = X.1.2 ti := Option.some.inj (q1.symm.trans r4)
  subst hcA
  rw [hsz]
  refine kk p e s m args below meth c _ locs ls hC (xH_push hH (.inr (ti, n.toNatClampNeg, some [])) (fun _ => 0) (by simp) (fun q hq => by rw [Array.getElem?_push, if_neg (Nat.ne_of_lt hq)]) ?_) hL
  show (H.push _)[H.size]? = some (vp_cell _ _)
  rw [vp_cell_q, Array.getElem?_push, if_pos rfl, arrV_new]
  rfl
theorem sx_aast {k r ti n ci N : Nat} {C : String} {T : u_T} {g : List (Option Nat)} {fl : List (Option (Option Nat))} {i : Int32} (hd : decode K.2.1 pc = .ok (.aastore, 1)) (hs : sh[k]? = some (.inr (ti, n, some g))) (ht : xty[ti]? = some (.object C)) (hc : classes[ci]? = some (C, T, N)) (hv : sh[r]? = some (.inl (ci, fl))) (hin : vp_in i n) (hg : i.toNatClampNeg = g.length) (hsh : sh.set k (.inr (ti, n, some (g ++ [some r]))) = sh')
    (kk : ∀ μ' : xM, μ' = va_up μ k (μ k) → sx l R X Ex true K n0 Z (pc + 1) L st sh' μ' cs ss) : sx l R X Ex true K n0 Z pc L (.ref (X.2 + r) :: .int i :: .ref (X.2 + k) :: st) sh μ cs ss := by
  intro p e s m args below meth c H locs ls hC hH hL
  subst hsh
  have hK := hC.2.2.2.2.2.2.2.2.1
  have hkl := (List.getElem?_eq_some_iff.mp hs).1
  have hlt : i.toNatClampNeg < n := Nat.not_le.mp fun q => hin (Or.inr q)
  have h0 : ¬ i < 0 := fun q => hin (Or.inl q)
  obtain ⟨r', hr', cellV, g1, g2, g3, -⟩ := hH.1 r _ (xwl_get μ hv)
  have hcls := (hK.1 ci _ hc).2
  obtain ⟨kA, comp, k1, k2, k3, -⟩ := (hK.2 ti _ (xtys_at ht)).2
  have hcomp : comp = X.1.1.1 ci := Option.some.inj (k3.symm.trans hcls.1)
  subst hcomp
  obtain ⟨kC, hkC, -⟩ := hcls.2
  have hcell : H[X.2 + k]? = some (arrV (X.1.2 ti) n (fun j => va_rf ((g.getD j none).map (X.2 + ·)))) := hH.1 k _ (xwl_get μ hs)
  refine W.aast hC.1 hC.2.1 hcell (fun q h => by cases h) (fun h => by cases h) k1 k2 rfl hkC ⟨h0, by rw [arrV_size]; exact hlt⟩ g1 (fun q h => by rw [g3] at h; cases h) (by rw [g2]; exact hkC) (by rw [g2]; exact va_assign hcls) rfl rfl hd fun H1 e z oq => ?_
  have hD := xwl_D (μ := μ) (X := X) (sh := sh) (n0 := n0) (fr := true) (fun h => by cases h)
  refine kk _ rfl p _ s m args below meth c H1 _ ls hC (xH_set hH (s' := .inr (ti, n, some (g ++ [some r]))) (f := μ k) hkl rfl z (hH.1.set hD (xwl_get μ hs) ?_ oq) (hH.2.1.put z oq (hD.2 k _ (xwl_get μ hs)))) hL
  show H1[X.2 + k]? = some (vp_cell _ _)
  rw [e, vp_cell_q, arrV_store]
  congr 2
  funext q
  by_cases hq : q = i.toNatClampNeg
  · subst hq
    simp [updV, hg, va_rf]
  · by_cases hq2 : q < g.length
    · simp [updV, hq, List.getElem?_append_left hq2]
    · have h3 : g[q]? = none := List.getElem?_eq_none (by omega)
      have h4 : (g ++ [some r])[q]? = none := List.getElem?_eq_none (by simp; omega)
      simp [updV, hq, h3, h4]
end SXM
