abbrev kJ0_coder_7d493 : xK := (RJ0, cJ0_coder_7d493, 1, (some .byte), false)
set_option maxRecDepth 20000 in
theorem mJ0_coder_7d493 : xcV yJ0_coder_7d493 kJ0_coder_7d493 0 := ⟨⟨xwc 271 rfl rfl, xw 43 (by decide +kernel), by decide +kernel, by decide +kernel, by decide +kernel⟩, xw 269 (by decide +kernel), xw 270 (by decide +kernel)⟩
abbrev kJ0_length_8abf5 : xK := (RJ0, cJ0_length_8abf5, 1, (some .int), false)
set_option maxRecDepth 20000 in
theorem mJ0_length_8abf5 : xcV yJ0_length_8abf5 kJ0_length_8abf5 0 := ⟨⟨xwc 267 rfl rfl, xw 43 (by decide +kernel), by decide +kernel, by decide +kernel, by decide +kernel⟩, xw 265 (by decide +kernel), xw 266 (by decide +kernel)⟩
abbrev kJ0_isLatin1_aae02 : xK := (RJ0, cJ0_isLatin1_aae02, 1, (some .boolean), false)
set_option maxRecDepth 20000 in
theorem mJ0_isLatin1_aae02 : xcV yJ0_isLatin1_aae02 kJ0_isLatin1_aae02 0 := ⟨⟨xwc 281 rfl rfl, xw 43 (by decide +kernel), by decide +kernel, by decide +kernel, by decide +kernel⟩, xw 279 (by decide +kernel), xw 280 (by decide +kernel)⟩
abbrev kJ3_checkIndex_8e157 : xK := (RJ3, cJ3_checkIndex_8e157, 3, (some .int), false)
set_option maxRecDepth 20000 in
theorem mJ3_checkIndex_8e157 : xcS yJ3_checkIndex_8e157 kJ3_checkIndex_8e157 3 := ⟨⟨xwc 292 rfl rfl, xw 45 (by decide +kernel), by decide +kernel, by decide +kernel, by decide +kernel⟩, xw 291 (by decide +kernel)⟩
abbrev kJ0_checkIndex_df160 : xK := (RJ0, cJ0_checkIndex_df160, 2, none, false)
set_option maxRecDepth 20000 in
theorem mJ0_checkIndex_df160 : xcS yJ0_checkIndex_df160 kJ0_checkIndex_df160 2 := ⟨⟨xwc 287 rfl rfl, xw 43 (by decide +kernel), by decide +kernel, by decide +kernel, by decide +kernel⟩, xw 286 (by decide +kernel)⟩
abbrev kJ1_charAt_3b067 : xK := (RJ1, cJ1_charAt_3b067, 2, (some .char), false)
set_option maxRecDepth 20000 in
theorem mJ1_charAt_3b067 : xcS yJ1_charAt_3b067 kJ1_charAt_3b067 2 := ⟨⟨xwc 284 rfl rfl, xw 44 (by decide +kernel), by decide +kernel, by decide +kernel, by decide +kernel⟩, xw 283 (by decide +kernel)⟩
abbrev kJ0_charAt_5068e : xK := (RJ0, cJ0_charAt_5068e, 2, (some .char), false)
set_option maxRecDepth 20000 in
theorem mJ0_charAt_5068e : xcV yJ0_charAt_5068e kJ0_charAt_5068e 1 := ⟨⟨xwc 277 rfl rfl, xw 43 (by decide +kernel), by decide +kernel, by decide +kernel, by decide +kernel⟩, xw 275 (by decide +kernel), xw 276 (by decide +kernel)⟩
theorem lf_J0_38 : Jvm.Cond.fieldLink "java/lang/String" (38 : Nat) "java/lang/String" "COMPACT_STRINGS" "Z" ∈ xws := xw 272 (by decide +kernel)
theorem lf_J0_15 : Jvm.Cond.fieldLink "java/lang/String" (15 : Nat) "java/lang/String" "coder" "B" ∈ xws := xw 803 (by decide +kernel)
theorem lf_J0_9 : Jvm.Cond.fieldLink "java/lang/String" (9 : Nat) "java/lang/String" "value" "[B" ∈ xws := xw 802 (by decide +kernel)
theorem lm_J0_335 : Jvm.Cond.methodLink "java/lang/String" (335 : Nat) ({ cls := "java/lang/String", name := "coder", desc := "()B" } : Jvm.MethodName) ∈ xws := xw 268 (by decide +kernel)
theorem lm_J0_492 : Jvm.Cond.methodLink "java/lang/String" (492 : Nat) ({ cls := "java/lang/String", name := "isLatin1", desc := "()Z" } : Jvm.MethodName) ∈ xws := xw 278 (by decide +kernel)
theorem lm_J0_495 : Jvm.Cond.methodLink "java/lang/String" (495 : Nat) ({ cls := "java/lang/StringLatin1", name := "charAt", desc := "([BI)C" } : Jvm.MethodName) ∈ xws := xw 282 (by decide +kernel)
theorem lf_J0_1053 : Jvm.Cond.fieldLink "java/lang/String" (1053 : Nat) "jdk/internal/util/Preconditions" "SIOOBE_FORMATTER" "Ljava/util/function/BiFunction;" ∈ xws := xw 288 (by decide +kernel)
theorem lm_J0_1059 : Jvm.Cond.methodLink "java/lang/String" (1059 : Nat) ({ cls := "jdk/internal/util/Preconditions", name := "checkIndex", desc := "(IILjava/util/function/BiFunction;)I" } : Jvm.MethodName) ∈ xws := xw 290 (by decide +kernel)
theorem lm_J1_9 : Jvm.Cond.methodLink "java/lang/StringLatin1" (9 : Nat) ({ cls := "java/lang/String", name := "checkIndex", desc := "(II)V" } : Jvm.MethodName) ∈ xws := xw 285 (by decide +kernel)
/-! Strings: the five constants of fieldsOf lie in the old heap; what is given of them stays. -/
def oA (X : xD) : Nat → Prop := fun q => X.2 ≤ q
theorem oS {X : xD} {n0 : Nat} {fr : Bool} {H0 H : Heap} {locs : List Loc} (h : va_S (xA X.2 n0 fr) H0 H locs) : va_S (oA X) H0 H locs := ⟨h.1, fun q h1 h2 => h.2.1 q h1 (fun z => h2 z.1), fun l hl => (h.2.2 l hl).1⟩
abbrev sBF : String := "Ljava/util/function/BiFunction;"
abbrev sPC : String := "jdk/internal/util/Preconditions"
abbrev sST : String := "java/lang/String"
abbrev sME : String := "ExchangeWire$Message"
abbrev sLen : List Nat := [0, 2, 1, 1, 2]
abbrev sByt : List (List Int32) := [[], [97, 98], [98], [97], [97, 99]]
abbrev sTxt : List String := ["", "ab", "b", "a", "ac"]
def fv (o : Option Nat) : Value := match o with
  | none => .null
  | some a => .ref a
theorem fv_cat (o : Option Nat) : (fv o).category = 1 := by cases o <;> rfl
def ExS (X : xD) (sk sv : Nat → Nat) (fm : Option Nat) (U : State) : Prop := vk_S 5 sLen sByt sk sv (oA X) U U.heap ∧ (∀ i : Nat, i < 5 → vk_R sME (59 + 2 * i) (sTxt.getD i "") (sk i) U) ∧ va_Z sST "COMPACT_STRINGS" "Z" (.int 1) (oA X) U U.heap ∧ va_Z sPC "SIOOBE_FORMATTER" sBF (fv fm) (oA X) U U.heap
theorem ExS_st {X : xD} {fr : Bool} {n : Nat} {fm : Option Nat} {sk sv : Nat → Nat} : xEs X fr n (ExS X sk sv fm) := fun s U hW hz hk h => by
  have hq : ∀ a : Nat, a < s.heap.size → ¬ oA X a → U.heap[a]? = s.heap[a]? := fun a h1 h2 => hk a h1 (fun z => h2 z.1)
  exact ⟨(h.1.moved hW.alike).kept hq, fun i hi => (h.2.1 i hi).warm hW, (h.2.2.1.moved hW.alike).kept hq, (h.2.2.2.moved hW.alike).kept hq⟩
section SOLD
variable {l : Launch} {R : Room} {X : xD} {Ex : State → Prop} {fr : Bool} {K : xK} {n0 : Nat} {Z : List Frame → Array Value → State → State → Prop} {pc : Nat} {L : List (Option Value)} {st : List Value} {sh : List xS} {μ : xM} {cs ss : Nat}
theorem sx_ldcS {i q : Nat} {tx : String} (hd : decode K.2.1 pc = .ok (.ldc i, 2)) (hR : ∀ s, Ex s → vk_R K.1 i tx q s)
    (kk : sx l R X Ex fr K n0 Z (pc + 2) L (.ref q :: st) sh μ cs ss) : sx l R X Ex fr K n0 Z pc L st sh μ cs ss :=
  fun p e s m args below meth c H locs ls hC hH hL => va_ldcS hC.1 hC.2.1 hC.2.2.2.2.2.1 (hR s hC.2.2.2.2.2.2.2.2.2.1) hd (kk p e s m args below meth c H locs ls hC hH hL)
theorem sx_ogetf {o n d : String} {i q : Nat} {v : Value} (hd : decode K.2.1 pc = .ok (.getfield i, 3)) (hF : ∀ s, Ex s → va_OF o n d v q (oA X) s s.heap) (hl : Cond.fieldLink K.1 i o n d ∈ xws)
    (kk : sx l R X Ex fr K n0 Z (pc + 3) L (v :: st) sh μ cs ss) : sx l R X Ex fr K n0 Z pc L (.ref q :: st) sh μ cs ss :=
  fun p e s m args below meth c H locs ls hC hH hL => vk_getf hC.1 hC.2.1 (hF s hC.2.2.2.2.2.2.2.2.2.1) (oS hH.2.1) hC.2.2.2.2.2.1 (hC.2.2.2.2.2.2.1 _ hl) (fun _ h => h) hd (kk p e s m args below meth c H locs ls hC hH hL)
theorem sx_gets {o n d : String} {i : Nat} {v : Value} (hd : decode K.2.1 pc = .ok (.getstatic i, 3)) (hF : ∀ s, Ex s → va_Z o n d v (oA X) s s.heap) (hl : Cond.fieldLink K.1 i o n d ∈ xws)
    (kk : sx l R X Ex fr K n0 Z (pc + 3) L (v :: st) sh μ cs ss) : sx l R X Ex fr K n0 Z pc L st sh μ cs ss :=
  fun p e s m args below meth c H locs ls hC hH hL => va_gets hC.1 hC.2.1 (hF s hC.2.2.2.2.2.2.2.2.2.1) (oS hH.2.1) hC.2.2.2.2.2.1 (hC.2.2.2.2.2.2.1 _ hl) (fun _ h => h) hd (kk p e s m args below meth c H locs ls hC hH hL)
theorem sx_oalen {ty : FieldType} {t N : Nat} {f : Nat → Value} {v : Int32} (hd : decode K.2.1 pc = .ok (.arraylength, 1)) (hT : ∀ s, Ex s → va_T ty t N f (oA X) s s.heap) (hv : Int32.ofNat N = v)
    (kk : sx l R X Ex fr K n0 Z (pc + 1) L (.int v :: st) sh μ cs ss) : sx l R X Ex fr K n0 Z pc L (.ref t :: st) sh μ cs ss :=
  fun p e s m args below meth c H locs ls hC hH hL => va_tlen hC.1 hC.2.1 (hT s hC.2.2.2.2.2.2.2.2.2.1) (oS hH.2.1) hv hd (kk p e s m args below meth c H locs ls hC hH hL)
theorem sx_obald {t N : Nat} {f : Nat → Value} {i : Int32} {v : Value} (hd : decode K.2.1 pc = .ok (.baload, 1)) (hT : ∀ s, Ex s → va_T .byte t N f (oA X) s s.heap) (hin : vp_in i N) (hv : f i.toNatClampNeg = v)
    (kk : sx l R X Ex fr K n0 Z (pc + 1) L (v :: st) sh μ cs ss) : sx l R X Ex fr K n0 Z pc L (.int i :: .ref t :: st) sh μ cs ss :=
  fun p e s m args below meth c H locs ls hC hH hL => va_tb hC.1 hC.2.1 (hT s hC.2.2.2.2.2.2.2.2.2.1) (oS hH.2.1) hin hv hd (kk p e s m args below meth c H locs ls hC hH hL)
theorem sx_i2c {x v : Int32} (hd : decode K.2.1 pc = .ok (.i2c, 1)) (hv : (x.toUInt32 % 65536).toInt32 = v)
    (kk : sx l R X Ex fr K n0 Z (pc + 1) L (.int v :: st) sh μ cs ss) : sx l R X Ex fr K n0 Z pc L (.int x :: st) sh μ cs ss :=
  fun p e s m args below meth c H locs ls hC hH hL => lv_i2c hC.1 hC.2.1 hd hv (kk p e s m args below meth c H locs ls hC hH hL)
theorem sx_ifnull {x : Nat} {off : Int} (hd : decode K.2.1 pc = .ok (.ifnull off, 3)) (kk : sx l R X Ex fr K n0 Z (pc + 3) L st sh μ cs ss) : sx l R X Ex fr K n0 Z pc L (.ref x :: st) sh μ cs ss :=
  fun p e s m args below meth c H locs ls hC hH hL => lv_ifnull hC.1 hC.2.1 hd (kk p e s m args below meth c H locs ls hC hH hL)
theorem sx_ifnullN {off : Int} {tgt : Nat} (hd : decode K.2.1 pc = .ok (.ifnull off, 3)) (ht : (pc : Int) + off = (tgt : Int)) (kk : sx l R X Ex fr K n0 Z tgt L st sh μ cs ss) : sx l R X Ex fr K n0 Z pc L (.null :: st) sh μ cs ss :=
  fun p e s m args below meth c H locs ls hC hH hL => lv_ifnullN hC.1 hC.2.1 hd ht (kk p e s m args below meth c H locs ls hC hH hL)
theorem sx_ifnonnull {x : Nat} {off : Int} {tgt : Nat} (hd : decode K.2.1 pc = .ok (.ifnonnull off, 3)) (ht : (pc : Int) + off = (tgt : Int)) (kk : sx l R X Ex fr K n0 Z tgt L st sh μ cs ss) : sx l R X Ex fr K n0 Z pc L (.ref x :: st) sh μ cs ss :=
  fun p e s m args below meth c H locs ls hC hH hL => lv_ifnonnull hC.1 hC.2.1 hd ht (kk p e s m args below meth c H locs ls hC hH hL)
theorem sx_ifnonnullN {off : Int} (hd : decode K.2.1 pc = .ok (.ifnonnull off, 3)) (kk : sx l R X Ex fr K n0 Z (pc + 3) L st sh μ cs ss) : sx l R X Ex fr K n0 Z pc L (.null :: st) sh μ cs ss :=
  fun p e s m args below meth c H locs ls hC hH hL => lv_ifnonnullN hC.1 hC.2.1 hd (kk p e s m args below meth c H locs ls hC hH hL)
theorem sx_astore_nN {k : Fin 4} {i : Nat} {L' : List (Option Value)} (hd : decode K.2.1 pc = .ok (.astore_n k, 1)) (hi : (k : Nat) = i) (hn : i < K.2.2.1) (hq : L.set i (some .null) = L')
    (kk : sx l R X Ex fr K n0 Z (pc + 1) L' (st) sh μ cs ss) : sx l R X Ex fr K n0 Z pc L (.null :: st) sh μ cs ss :=
  fun p e s m args below meth c H locs ls hC hH hL => lv_astore_nN hC.1 hC.2.1 hd hi hL.1 hn rfl (fun ls' hl' => kk p e s m args below meth c H locs ls' hC hH (hq ▸ xL_set hL rfl hl'))
theorem sx_aload_nN {k : Fin 4} {i : Nat} (hd : decode K.2.1 pc = .ok (.aload_n k, 1)) (hi : (k : Nat) = i) (hx : L[i]? = some (some .null))
    (kk : sx l R X Ex fr K n0 Z (pc + 1) L (.null :: st) sh μ cs ss) : sx l R X Ex fr K n0 Z pc L (st) sh μ cs ss :=
  fun p e s m args below meth c H locs ls hC hH hL => lv_aload_nN hC.1 hC.2.1 hd hi (xL_at hL hx) (kk p e s m args below meth c H locs ls hC hH hL)
end SOLD
section SOLDC
variable {l : Launch} {R : Room} {X : xD} {Ex : State → Prop} {fr : Bool} {K : xK} {n0 : Nat} {Z : List Frame → Array Value → State → State → Prop} {pc : Nat} {L : List (Option Value)} {st st0 : List Value} {sh : List xS} {μ : xM} {cs ss : Nat} {y : MethodName} {K' : xK} {rm : Room} {As : List Value} {Po : Option Value → List xS → xM → Prop}
/-- a call on an object of the old heap -/
theorem sx_callO {i q : Nat} (hd : decode K.2.1 pc = .ok (.invokevirtual i, 3)) (hct : Ct X Ex fr y K' rm (.ref q :: As) sh μ Po) (hw : xcV y K' As.length) (hl : Cond.methodLink K.1 i y ∈ xws) (hst : st0 = As.reverse ++ .ref q :: st) (hO : ∀ s, Ex s → va_O y.cls q (oA X) s s.heap) (hm : rm.frames + 1 ≤ R.frames ∧ 8 + (K'.2.2.1 + 11) + rm.locals ≤ R.locals) (hf : cs + rm.cells ≤ R.cells ∧ ss + rm.slots ≤ R.slots) (h8 : (st.map fun v => v.category).sum ≤ 8) (hE : xEs X fr n0 Ex)
    (kk : ∀ (r : Option Value) (sh' : List xS) (μ' : xM), Po r sh' μ' → sx l R X Ex fr K n0 Z (pc + 3) L (r.toList ++ st) sh' μ' (cs + rm.cells) (ss + rm.slots)) : sx l R X Ex fr K n0 Z pc L st0 sh μ cs ss := by
  intro p e s m args below meth c H locs ls hC hH hL
  subst hst
  have hts := hC.2.2.2.2.2.2.1
  have hrecv : ∃ cell : Cell, H[q]? = some cell ∧ cell.vm.isStatics = false ∧ s.vm.findClass y.cls = some cell.cls := by
    obtain ⟨cell, h1, h2, h3, -⟩ := (hO s hC.2.2.2.2.2.2.2.2.2.1).kept (oS hH.2.1).2.1
    exact ⟨cell, h1, h2, h3⟩
  refine xcall_on hC hH hL (va_runV (As := As) (rest := st) (C := y.cls) ⟨hC.1, hC.2.1, hC.2.2.1, hC.2.2.2.2.2.1, hts⟩ (hct l) ⟨callB_of As.length hts (xgood hw.1) rfl rfl rfl (hts _ hw.1.2.1) (hts _ hl) hw.1.2.2 hm, hts _ hw.2.1, hts _ hw.2.2⟩ ⟨xpre_blind (xEs_sub hE hH.2.2.2.1), hrecv, fun U hU hW => ⟨rfl, xpre_at hC hH hE hU hW⟩⟩ rfl rfl hL.1.1 rfl (xroom h8) hd hf) kk
theorem sx_aret {rt : FieldType} {v : Value} {mc ms : Nat} (hd : decode K.2.1 pc = .ok (.areturn, 1)) (hr : K.2.2.2.1 = some rt) (hrt : (∃ n, rt = .object n) ∨ ∃ t, rt = .array t) (hv : v = .null ∨ ∃ a, v = .ref a) (h1 : cs ≤ mc) (h2 : ss ≤ ms) (hp : Po (some v) sh μ) : sx l R X Ex fr K n0 (xZ X fr n0 Po mc ms) pc L [v] sh μ cs ss := by
  intro p e s m args below meth c H locs ls hC hH hL
  have hlocks := hC.2.2.2.2.1
  refine W.widen h1 h2 (W.aret hC.1 hC.2.1 (hC.2.2.2.1.trans hr) hrt hv (fun t ht hW => ⟨⟨_, sh, μ, rfl, hp, by rw [ht]; exact hH.1, hH.2.2.1, hH.2.2.2.1, fun h => by rw [ht]; exact hH.2.2.2.2 h⟩, hH.2.1.F ht⟩) hH.2.1.2.2 hd)
end SOLDC
set_option maxHeartbeats 1000000 in
set_option maxRecDepth 20000 in
theorem j_coder (X : xD) (Ex : State → Prop) (fr : Bool) (sh : List xS) (μ : xM) (hE : xEs X fr sh.length Ex) {sk sv : Nat → Nat} {fm : Option Nat} (hS : ∀ s, Ex s → ExS X sk sv fm s) (i : Nat) (hi : i < 5) : Ct X Ex fr yJ0_coder_7d493 kJ0_coder_7d493 (rmN 0) [.ref (sk i)] sh μ (fun r sh' μ' => sh = sh' ∧ μ = μ' ∧ r = some (.int 0)) := by
  refine Ct.of (L0 := [some (.ref (sk i))]) (by decide) rfl (fun h => by cases h) (by simp [Value.category]) (Nat.le_of_ble_eq_true rfl) rfl (fun l => ?_)
  refine sx_gets (pc := 0) dJ0_coder_7d493_0 (fun s h => (hS s h).2.2.1) lf_J0_38 ?_
  refine sx_if_eq (pc := 3) (tgt := 13) dJ0_coder_7d493_3 (by decide) (fun h => absurd h (by decide)) (fun _ => ?_)
  refine sx_aload_n (pc := 6) dJ0_coder_7d493_6 rfl rfl ?_
  refine sx_ogetf (pc := 7) dJ0_coder_7d493_7 (fun s h => ((hS s h).1.1 i hi).2.1) lf_J0_15 ?_
  refine sx_goto (pc := 10) (tgt := 14) dJ0_coder_7d493_10 (by decide) ?_
  exact sx_iret (pc := 14) dJ0_coder_7d493_14 rfl rfl (Nat.zero_le _) (Nat.zero_le _) ⟨rfl, rfl, rfl⟩
set_option maxHeartbeats 1000000 in
set_option maxRecDepth 20000 in
theorem j_lat (X : xD) (Ex : State → Prop) (fr : Bool) (sh : List xS) (μ : xM) (hE : xEs X fr sh.length Ex) {sk sv : Nat → Nat} {fm : Option Nat} (hS : ∀ s, Ex s → ExS X sk sv fm s) (i : Nat) (hi : i < 5) : Ct X Ex fr yJ0_isLatin1_aae02 kJ0_isLatin1_aae02 (rmN 0) [.ref (sk i)] sh μ (fun r sh' μ' => sh = sh' ∧ μ = μ' ∧ r = some (.int 1)) := by
  refine Ct.of (L0 := [some (.ref (sk i))]) (by decide) rfl (fun h => by cases h) (by simp [Value.category]) (Nat.le_of_ble_eq_true rfl) rfl (fun l => ?_)
  refine sx_gets (pc := 0) dJ0_isLatin1_aae02_0 (fun s h => (hS s h).2.2.1) lf_J0_38 ?_
  refine sx_if_eq (pc := 3) (tgt := 17) dJ0_isLatin1_aae02_3 (by decide) (fun h => absurd h (by decide)) (fun _ => ?_)
  refine sx_aload_n (pc := 6) dJ0_isLatin1_aae02_6 rfl rfl ?_
  refine sx_ogetf (pc := 7) dJ0_isLatin1_aae02_7 (fun s h => ((hS s h).1.1 i hi).2.1) lf_J0_15 ?_
  refine sx_if_ne (pc := 10) (tgt := 17) dJ0_isLatin1_aae02_10 (by decide) (fun h => absurd rfl h) (fun _ => ?_)
  refine sx_iconst (pc := 13) (v := 1) dJ0_isLatin1_aae02_13 (by decide) ?_
  refine sx_goto (pc := 14) (tgt := 18) dJ0_isLatin1_aae02_14 (by decide) ?_
  exact sx_iret (pc := 18) dJ0_isLatin1_aae02_18 rfl rfl (Nat.zero_le _) (Nat.zero_le _) ⟨rfl, rfl, rfl⟩
set_option maxHeartbeats 1000000 in
set_option maxRecDepth 20000 in
theorem j_length (X : xD) (Ex : State → Prop) (fr : Bool) (sh : List xS) (μ : xM) (hE : xEs X fr sh.length Ex) {sk sv : Nat → Nat} {fm : Option Nat} (hS : ∀ s, Ex s → ExS X sk sv fm s) (i : Nat) (hi : i < 5) : Ct X Ex fr yJ0_length_8abf5 kJ0_length_8abf5 (rmN 1) [.ref (sk i)] sh μ (fun r sh' μ' => sh = sh' ∧ μ = μ' ∧ r = some (.int (nI (sLen.getD i 0)))) := by
  refine Ct.of (L0 := [some (.ref (sk i))]) (by decide) rfl (fun h => by cases h) (by simp [Value.category]) (Nat.le_of_ble_eq_true rfl) rfl (fun l => ?_)
  refine sx_aload_n (pc := 0) dJ0_length_8abf5_0 rfl rfl ?_
  refine sx_ogetf (pc := 1) dJ0_length_8abf5_1 (fun s h => ((hS s h).1.1 i hi).2.2.1) lf_J0_9 ?_
  refine sx_oalen (pc := 4) (v := nI (sLen.getD i 0)) dJ0_length_8abf5_4 (fun s h => ((hS s h).1.1 i hi).2.2.2) rfl ?_
  refine sx_aload_n (pc := 5) dJ0_length_8abf5_5 rfl rfl ?_
  refine sx_callO (pc := 6) (As := []) dJ0_length_8abf5_6 (j_coder X Ex fr sh μ hE hS i hi) mJ0_coder_7d493 lm_J0_335 rfl (fun s h => ((hS s h).1.1 i hi).1) ⟨(Nat.le_of_ble_eq_true rfl), (Nat.le_of_ble_eq_true rfl)⟩ ⟨(Nat.le_of_ble_eq_true rfl), (Nat.le_of_ble_eq_true rfl)⟩ (Nat.le_of_ble_eq_true rfl) hE (fun r_6 sh1 μ1 h_6 => ?_)
  obtain ⟨rfl, rfl, rfl⟩ := h_6
  refine sx_ishr (pc := 9) dJ0_length_8abf5_9 ?_
  exact sx_iret (pc := 10) dJ0_length_8abf5_10 rfl rfl (Nat.zero_le _) (Nat.zero_le _) ⟨rfl, rfl, by rw [show (nI (sLen.getD i 0)) >>> ((0 : Int32) &&& 31) = nI (sLen.getD i 0) by rcases (show i = 0 ∨ i = 1 ∨ i = 2 ∨ i = 3 ∨ i = 4 by omega) with rfl | rfl | rfl | rfl | rfl <;> decide]⟩
set_option maxHeartbeats 1000000 in
set_option maxRecDepth 20000 in
theorem j_check3 (X : xD) (Ex : State → Prop) (fr : Bool) (sh : List xS) (μ : xM) (va : Value) (hva : va.category = 1) (x n : Int32) (h0 : 0 ≤ x) (h1 : x < n) : Ct X Ex fr yJ3_checkIndex_8e157 kJ3_checkIndex_8e157 (rmN 0) [.int x, .int n, va] sh μ (fun r sh' μ' => sh = sh' ∧ μ = μ' ∧ r = some (.int x)) := by
  refine Ct.of (L0 := [some (.int x), some (.int n), some va]) (by decide) rfl (fun h => by cases h) (by intro v hv; simp only [List.mem_cons, List.not_mem_nil, or_false] at hv; rcases hv with rfl | rfl | rfl; rfl; rfl; exact hva) (Nat.le_of_ble_eq_true rfl) rfl (fun l => ?_)
  refine sx_iload_n (pc := 0) dJ3_checkIndex_8e157_0 rfl rfl ?_
  refine sx_if_lt (pc := 1) (tgt := 9) dJ3_checkIndex_8e157_1 (by decide) (fun h => absurd h (Int32.not_lt.mpr h0)) (fun _ => ?_)
  refine sx_iload_n (pc := 4) dJ3_checkIndex_8e157_4 rfl rfl ?_
  refine sx_iload_n (pc := 5) dJ3_checkIndex_8e157_5 rfl rfl ?_
  refine sx_icmp_lt (pc := 6) (tgt := 16) dJ3_checkIndex_8e157_6 (by decide) (fun _ => ?_) (fun h => absurd h1 h)
  refine sx_iload_n (pc := 16) dJ3_checkIndex_8e157_16 rfl rfl ?_
  exact sx_iret (pc := 17) dJ3_checkIndex_8e157_17 rfl rfl (Nat.zero_le _) (Nat.zero_le _) ⟨rfl, rfl, rfl⟩
set_option maxHeartbeats 1000000 in
set_option maxRecDepth 20000 in
theorem j_check (X : xD) (Ex : State → Prop) (fr : Bool) (sh : List xS) (μ : xM) (hE : xEs X fr sh.length Ex) {sk sv : Nat → Nat} {fm : Option Nat} (hS : ∀ s, Ex s → ExS X sk sv fm s) (x n : Int32) (h0 : 0 ≤ x) (h1 : x < n) : Ct X Ex fr yJ0_checkIndex_df160 kJ0_checkIndex_df160 (rmN 1) [.int x, .int n] sh μ (fun r sh' μ' => sh = sh' ∧ μ = μ' ∧ r = none) := by
  refine Ct.of (L0 := [some (.int x), some (.int n)]) (by decide) rfl (fun h => by cases h) (by simp [Value.category]) (Nat.le_of_ble_eq_true rfl) rfl (fun l => ?_)
  refine sx_iload_n (pc := 0) dJ0_checkIndex_df160_0 rfl rfl ?_
  refine sx_iload_n (pc := 1) dJ0_checkIndex_df160_1 rfl rfl ?_
  refine sx_gets (pc := 2) dJ0_checkIndex_df160_2 (fun s h => (hS s h).2.2.2) lf_J0_1053 ?_
  refine sx_callS (pc := 5) (As := [.int x, .int n, fv fm]) dJ0_checkIndex_df160_5 (j_check3 X Ex fr sh μ (fv fm) (fv_cat fm) x n h0 h1) mJ3_checkIndex_8e157 lm_J0_1059 rfl ⟨(Nat.le_of_ble_eq_true rfl), (Nat.le_of_ble_eq_true rfl)⟩ ⟨(Nat.le_of_ble_eq_true rfl), (Nat.le_of_ble_eq_true rfl)⟩ (Nat.le_of_ble_eq_true rfl) hE (fun r_5 sh1 μ1 h_5 => ?_)
  obtain ⟨rfl, rfl, rfl⟩ := h_5
  refine sx_pop (pc := 8) dJ0_checkIndex_df160_8 rfl ?_
  exact sx_vret (pc := 9) dJ0_checkIndex_df160_9 rfl (Nat.zero_le _) (Nat.zero_le _) ⟨rfl, rfl, rfl⟩
set_option maxHeartbeats 1000000 in
set_option maxRecDepth 20000 in
theorem j_char1 (X : xD) (Ex : State → Prop) (fr : Bool) (sh : List xS) (μ : xM) (hE : xEs X fr sh.length Ex) {sk sv : Nat → Nat} {fm : Option Nat} (hS : ∀ s, Ex s → ExS X sk sv fm s) (i : Nat) (hi : i < 5) (j : Nat) (hj : j < sLen.getD i 0) : Ct X Ex fr yJ1_charAt_3b067 kJ1_charAt_3b067 (rmN 2) [.ref (sv i), .int (nI j)] sh μ (fun r sh' μ' => sh = sh' ∧ μ = μ' ∧ r = some (.int ((sByt.getD i []).getD j 0))) := by
  refine Ct.of (L0 := [some (.ref (sv i)), some (.int (nI j))]) (by decide) rfl (fun h => by cases h) (by simp [Value.category]) (Nat.le_of_ble_eq_true rfl) rfl (fun l => ?_)
  have hlt : sLen.getD i 0 < 3 := by rcases (show i = 0 ∨ i = 1 ∨ i = 2 ∨ i = 3 ∨ i = 4 by omega) with rfl | rfl | rfl | rfl | rfl <;> decide
  refine sx_iload_n (pc := 0) dJ1_charAt_3b067_0 rfl rfl ?_
  refine sx_aload_n (pc := 1) dJ1_charAt_3b067_1 rfl rfl ?_
  refine sx_oalen (pc := 2) (v := nI (sLen.getD i 0)) dJ1_charAt_3b067_2 (fun s h => ((hS s h).1.1 i hi).2.2.2) rfl ?_
  refine sx_callS (pc := 3) (As := [.int (nI j), .int (nI (sLen.getD i 0))]) dJ1_charAt_3b067_3 (j_check X Ex fr sh μ hE hS _ _ (Int32.not_lt.mp (nI_pos (n := j) (by omega))) (nI_lt hj (by omega))) mJ0_checkIndex_df160 lm_J1_9 rfl ⟨(Nat.le_of_ble_eq_true rfl), (Nat.le_of_ble_eq_true rfl)⟩ ⟨(Nat.le_of_ble_eq_true rfl), (Nat.le_of_ble_eq_true rfl)⟩ (Nat.le_of_ble_eq_true rfl) hE (fun r_3 sh1 μ1 h_3 => ?_)
  obtain ⟨rfl, rfl, rfl⟩ := h_3
  refine sx_aload_n (pc := 6) dJ1_charAt_3b067_6 rfl rfl ?_
  refine sx_iload_n (pc := 7) dJ1_charAt_3b067_7 rfl rfl ?_
  refine sx_obald (pc := 8) dJ1_charAt_3b067_8 (fun s h => ((hS s h).1.1 i hi).2.2.2) (vp_in_nI hj (by omega)) rfl ?_
  rw [show (nI j).toNatClampNeg = j from nI_clamp (by omega)]
  refine sx_sipush (pc := 9) (v := 255) dJ1_charAt_3b067_9 (by decide) ?_
  refine sx_iand (pc := 12) dJ1_charAt_3b067_12 ?_
  refine sx_i2c (pc := 13) (v := (sByt.getD i []).getD j 0) dJ1_charAt_3b067_13 ?_ ?_
  · rcases (show (i = 1 ∧ j = 0) ∨ (i = 1 ∧ j = 1) ∨ (i = 2 ∧ j = 0) ∨ (i = 3 ∧ j = 0) ∨ (i = 4 ∧ j = 0) ∨ (i = 4 ∧ j = 1) by rcases (show i = 0 ∨ i = 1 ∨ i = 2 ∨ i = 3 ∨ i = 4 by omega) with rfl | rfl | rfl | rfl | rfl <;> simp at hj <;> omega) with ⟨rfl, rfl⟩ | ⟨rfl, rfl⟩ | ⟨rfl, rfl⟩ | ⟨rfl, rfl⟩ | ⟨rfl, rfl⟩ | ⟨rfl, rfl⟩ <;> decide
  · refine sx_iret (pc := 14) dJ1_charAt_3b067_14 rfl ?_ (Nat.zero_le _) (Nat.zero_le _) ⟨rfl, rfl, rfl⟩
    rcases (show (i = 1 ∧ j = 0) ∨ (i = 1 ∧ j = 1) ∨ (i = 2 ∧ j = 0) ∨ (i = 3 ∧ j = 0) ∨ (i = 4 ∧ j = 0) ∨ (i = 4 ∧ j = 1) by rcases (show i = 0 ∨ i = 1 ∨ i = 2 ∨ i = 3 ∨ i = 4 by omega) with rfl | rfl | rfl | rfl | rfl <;> simp at hj <;> omega) with ⟨rfl, rfl⟩ | ⟨rfl, rfl⟩ | ⟨rfl, rfl⟩ | ⟨rfl, rfl⟩ | ⟨rfl, rfl⟩ | ⟨rfl, rfl⟩ <;> rfl
set_option maxHeartbeats 1000000 in
set_option maxRecDepth 20000 in
theorem j_charAt (X : xD) (Ex : State → Prop) (fr : Bool) (sh : List xS) (μ : xM) (hE : xEs X fr sh.length Ex) {sk sv : Nat → Nat} {fm : Option Nat} (hS : ∀ s, Ex s → ExS X sk sv fm s) (i : Nat) (hi : i < 5) (j : Nat) (hj : j < sLen.getD i 0) : Ct X Ex fr yJ0_charAt_5068e kJ0_charAt_5068e (rmN 3) [.ref (sk i), .int (nI j)] sh μ (fun r sh' μ' => sh = sh' ∧ μ = μ' ∧ r = some (.int ((sByt.getD i []).getD j 0))) := by
  refine Ct.of (L0 := [some (.ref (sk i)), some (.int (nI j))]) (by decide) rfl (fun h => by cases h) (by simp [Value.category]) (Nat.le_of_ble_eq_true rfl) rfl (fun l => ?_)
  refine sx_aload_n (pc := 0) dJ0_charAt_5068e_0 rfl rfl ?_
  refine sx_callO (pc := 1) (As := []) dJ0_charAt_5068e_1 (j_lat X Ex fr sh μ hE hS i hi) mJ0_isLatin1_aae02 lm_J0_492 rfl (fun s h => ((hS s h).1.1 i hi).1) ⟨(Nat.le_of_ble_eq_true rfl), (Nat.le_of_ble_eq_true rfl)⟩ ⟨(Nat.le_of_ble_eq_true rfl), (Nat.le_of_ble_eq_true rfl)⟩ (Nat.le_of_ble_eq_true rfl) hE (fun r_1 sh1 μ1 h_1 => ?_)
  obtain ⟨rfl, rfl, rfl⟩ := h_1
  refine sx_if_eq (pc := 4) (tgt := 16) dJ0_charAt_5068e_4 (by decide) (fun h => absurd h (by decide)) (fun _ => ?_)
  refine sx_aload_n (pc := 7) dJ0_charAt_5068e_7 rfl rfl ?_
  refine sx_ogetf (pc := 8) dJ0_charAt_5068e_8 (fun s h => ((hS s h).1.1 i hi).2.2.1) lf_J0_9 ?_
  refine sx_iload_n (pc := 11) dJ0_charAt_5068e_11 rfl rfl ?_
  refine sx_callS (pc := 12) (As := [.ref (sv i), .int (nI j)]) dJ0_charAt_5068e_12 (j_char1 X Ex fr sh μ hE hS i hi j hj) mJ1_charAt_3b067 lm_J0_495 rfl ⟨(Nat.le_of_ble_eq_true rfl), (Nat.le_of_ble_eq_true rfl)⟩ ⟨(Nat.le_of_ble_eq_true rfl), (Nat.le_of_ble_eq_true rfl)⟩ (Nat.le_of_ble_eq_true rfl) hE (fun r_12 sh1 μ1 h_12 => ?_)
  obtain ⟨rfl, rfl, rfl⟩ := h_12
  refine sx_iret (pc := 15) dJ0_charAt_5068e_15 rfl ?_ (Nat.zero_le _) (Nat.zero_le _) ⟨rfl, rfl, rfl⟩
  rcases (show (i = 1 ∧ j = 0) ∨ (i = 1 ∧ j = 1) ∨ (i = 2 ∧ j = 0) ∨ (i = 3 ∧ j = 0) ∨ (i = 4 ∧ j = 0) ∨ (i = 4 ∧ j = 1) by rcases (show i = 0 ∨ i = 1 ∨ i = 2 ∨ i = 3 ∨ i = 4 by omega) with rfl | rfl | rfl | rfl | rfl <;> simp at hj <;> omega) with ⟨rfl, rfl⟩ | ⟨rfl, rfl⟩ | ⟨rfl, rfl⟩ | ⟨rfl, rfl⟩ | ⟨rfl, rfl⟩ | ⟨rfl, rfl⟩ <;> rfl
