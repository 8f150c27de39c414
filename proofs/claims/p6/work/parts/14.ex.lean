/-! what is given while objects are made -/
theorem aoA_moved {t : FieldType} {u U : State} (hvm : u.vm.Alike U.vm) (h : (Cond.arrayOver (.array t)).before #[] u = true) : (Cond.arrayOver (.array t)).before #[] U = true := by
  obtain ⟨comp, c, k, h1, h2, h3, h4, h5⟩ := arrayOverA_spec h
  obtain ⟨k', hk', he⟩ := hvm.2.2 _ _ h3
  have hi : (U.vm.classes.findIdx? fun (x : Class) => match x.kind with | .array component _ => component == comp | _ => false) = some c := by
    refine Eq.trans ?_ h2
    refine (va_idx_bare U.vm comp).symm.trans (Eq.trans ?_ (va_idx_bare u.vm comp))
    first | rw [hvm.bare_eq] | rw [← hvm.bare_eq]
  have hkind : k'.kind = .array comp (.array t) := by rw [he]; exact h4
  have f1 : U.vm.findClass (FieldType.array t).toString = some comp := by rw [hvm.findClass]; exact h1
  have f2 : U.vm.findClass ("[" ++ (FieldType.array t).toString) = some c := by rw [hvm.findClass]; exact h5
  unfold Cond.before Cond.holds
  simp only [Cond.value]
  rw [f1, Option.bind_some]
  refine (congrArg (fun o : Option Nat => (o.bind (fun c => (U.vm.classes[c]?).map fun (k : Class) => match k.kind with | .array _ ty => decide (ty = FieldType.array t) && decide (U.vm.findClass ("[" ++ (FieldType.array t).toString) = some c) | _ => false) == some true)) hi).trans ?_
  simp [hk', hkind, f2]
def ExA (U : State) : Prop := va_AO "ExchangeWire$Line" U ∧ (Cond.arrayOver (.array .int)).before #[] U = true
theorem ExA_st {X : xD} {fr : Bool} {n : Nat} : xEs X fr n ExA := fun _ _ hW _ _ h => ⟨va_AO.moved hW.alike h.1, aoA_moved hW.alike h.2⟩
def mn0 (μ : xM) (n : Nat) : xM := fun a => if a < n then μ a else fun _ => 0
def mnG (n N : Nat) : List (Option Nat) := (List.range N).map fun i => some (n + 1 + i)
