/-! ===== own kit: contracts over a known world; calls; returns ===== -/
/-! the words by which nest mates link each other -/
def nwW : List Cond := [.fieldLinkNest RX4 228 "ShornHill$Land" "wide" "I" "ShornHill", .fieldLinkNest RX4 110 "ShornHill$Land" "paceNow" "I" "ShornHill", .fieldLinkNest RX4 113 "ShornHill$Land" "breadthNow" "I" "ShornHill", .fieldLinkNest RX4 91 "ShornHill$Land" "kind" "[I" "ShornHill", .fieldLinkNest RX4 97 "ShornHill$Land" "eaten" "[I" "ShornHill", .fieldLinkNest RX4 76 "ShornHill$Readings" "count" "I" "ShornHill", .fieldLinkNest RX4 259 "ShornHill$Shears" "tried" "[I" "ShornHill", .fieldLinkNest RX4 140 "ShornHill$Shears" "best" "[I" "ShornHill", .fieldLinkNest RX4 246 "ShornHill$Shears" "most" "I" "ShornHill", .fieldLinkNest RX4 249 "ShornHill$Shears" "goal" "I" "ShornHill", .fieldLinkNest RX4 196 "ShornHill$Sheet" "hasRow" "Z" "ShornHill", .fieldLinkNest RX4 206 "ShornHill$Sheet" "lane" "I" "ShornHill", .fieldLinkNest RX4 64 "ShornHill$Sheet" "row" "[I" "ShornHill", .methodLinkNest RX4 13 yX0_init "ShornHill", .methodLinkNest RX4 20 yX1_init "ShornHill", .methodLinkNest RX4 27 yX2_init "ShornHill", .methodLinkNest RX4 45 yX3_init "ShornHill", .methodLinkNest RX4 53 yX3_faultAs "ShornHill", .methodLinkNest RX4 57 yX3_spans "ShornHill", .methodLinkNest RX4 72 yX0_grow "ShornHill", .methodLinkNest RX0 42 yX4_kindOf "ShornHill", .methodLinkNest RX4 79 yX0_softCells "ShornHill", .methodLinkNest RX0 72 yX4_bit "ShornHill", .methodLinkNest RX4 88 yX0_has "ShornHill", .methodLinkNest RX4 94 yX0_weekly "ShornHill", .methodLinkNest RX4 100 yX0_isSoft "ShornHill", .methodLinkNest RX4 106 yX0_stands "ShornHill", .methodLinkNest RX4 119 yX0_inches "ShornHill", .methodLinkNest RX4 123 yX0_ripeCells "ShornHill", .methodLinkNest RX4 126 yX0_isRipe "ShornHill", .methodLinkNest RX4 240 yX0_beside "ShornHill", .methodLinkNest RX4 243 yX0_inchesOfAll "ShornHill", .methodLinkNest RX0 62 yX4_isIn "ShornHill", .methodLinkNest RX4 256 yX2_keep "ShornHill", .methodLinkNest RX4 143 yX0_cells "ShornHill", .methodLinkNest RX4 149 yX0_isAllRipe "ShornHill", .methodLinkNest RX4 161 yX1_add "ShornHill", .methodLinkNest RX4 165 yX1_areSo "ShornHill", .methodLinkNest RX1 25 yX0_inches "ShornHill", .methodLinkNest RX4 192 yX3_renew "ShornHill", .methodLinkNest RX4 200 yX3_holds "ShornHill", .methodLinkNest RX4 203 yX3_cut "ShornHill"]
def nwB : Cond → Bool
  | .fieldLinkNest .. => true
  | .methodLinkNest .. => true
  | _ => false
theorem nwW_B : ∀ w ∈ nwW, nwB w = true := by decide +kernel
theorem nwW_in : ∀ w ∈ nwW, w ∈ lw_tbl := by decide +kernel
theorem nw_on {w : Cond} (h : nwB w = true) : w.onTables = true := by
  unfold nwB at h
  split at h
  · rfl
  · rfl
  · cases h
theorem nw_warm {w : Cond} {s U : State} (hb : nwB w = true) (hW : s.WarmedH U.vm) (h : va_Nw w s) : va_Nw w U := by
  unfold nwB at hb
  split at hb
  · exact va_Nw.warmF hW h
  · exact va_Nw.warmM hW h
  · cases hb
/-- what is known of the tables at a state: classes, array classes, the nest mates' words -/
def Kn (D : va_G) (tys : List (ClassId × FieldType)) (U : State) : Prop := va_K D vwCl tys U ∧ ∀ w ∈ nwW, va_Nw w U
theorem Kn.warm {D : va_G} {tys : List (ClassId × FieldType)} {s U : State} (h : Kn D tys s) (hW : s.WarmedH U.vm) : Kn D tys U :=
  ⟨va_K.moved hW.alike h.1, fun w hw => nw_warm (nwW_B w hw) hW (h.2 w hw)⟩
theorem Kn.call {D : va_G} {tys : List (ClassId × FieldType)} {U : State} {g : JFrame} {mk : MethodId} {a : Array Value} (h : Kn D tys U) : Kn D tys (U.calling g mk a) :=
  ⟨va_K.moved (u := U) (U := U.calling g mk a) (Vm.Alike.refl U.vm) h.1, fun w hw => va_Nw.same (u := U) (U := U.calling g mk a) (nw_on (nwW_B w hw)) rfl (h.2 w hw)⟩
theorem nw_X4_228 {D : va_G} {tys : List (ClassId × FieldType)} {s : State} (h : Kn D tys s) : va_Nw (.fieldLinkNest RX4 228 "ShornHill$Land" "wide" "I" "ShornHill") s := h.2 _ (List.mem_of_getElem? (i := 0) rfl)
theorem nw_X4_110 {D : va_G} {tys : List (ClassId × FieldType)} {s : State} (h : Kn D tys s) : va_Nw (.fieldLinkNest RX4 110 "ShornHill$Land" "paceNow" "I" "ShornHill") s := h.2 _ (List.mem_of_getElem? (i := 1) rfl)
theorem nw_X4_113 {D : va_G} {tys : List (ClassId × FieldType)} {s : State} (h : Kn D tys s) : va_Nw (.fieldLinkNest RX4 113 "ShornHill$Land" "breadthNow" "I" "ShornHill") s := h.2 _ (List.mem_of_getElem? (i := 2) rfl)
theorem nw_X4_91 {D : va_G} {tys : List (ClassId × FieldType)} {s : State} (h : Kn D tys s) : va_Nw (.fieldLinkNest RX4 91 "ShornHill$Land" "kind" "[I" "ShornHill") s := h.2 _ (List.mem_of_getElem? (i := 3) rfl)
theorem nw_X4_97 {D : va_G} {tys : List (ClassId × FieldType)} {s : State} (h : Kn D tys s) : va_Nw (.fieldLinkNest RX4 97 "ShornHill$Land" "eaten" "[I" "ShornHill") s := h.2 _ (List.mem_of_getElem? (i := 4) rfl)
theorem nw_X4_76 {D : va_G} {tys : List (ClassId × FieldType)} {s : State} (h : Kn D tys s) : va_Nw (.fieldLinkNest RX4 76 "ShornHill$Readings" "count" "I" "ShornHill") s := h.2 _ (List.mem_of_getElem? (i := 5) rfl)
theorem nw_X4_259 {D : va_G} {tys : List (ClassId × FieldType)} {s : State} (h : Kn D tys s) : va_Nw (.fieldLinkNest RX4 259 "ShornHill$Shears" "tried" "[I" "ShornHill") s := h.2 _ (List.mem_of_getElem? (i := 6) rfl)
theorem nw_X4_140 {D : va_G} {tys : List (ClassId × FieldType)} {s : State} (h : Kn D tys s) : va_Nw (.fieldLinkNest RX4 140 "ShornHill$Shears" "best" "[I" "ShornHill") s := h.2 _ (List.mem_of_getElem? (i := 7) rfl)
theorem nw_X4_246 {D : va_G} {tys : List (ClassId × FieldType)} {s : State} (h : Kn D tys s) : va_Nw (.fieldLinkNest RX4 246 "ShornHill$Shears" "most" "I" "ShornHill") s := h.2 _ (List.mem_of_getElem? (i := 8) rfl)
theorem nw_X4_249 {D : va_G} {tys : List (ClassId × FieldType)} {s : State} (h : Kn D tys s) : va_Nw (.fieldLinkNest RX4 249 "ShornHill$Shears" "goal" "I" "ShornHill") s := h.2 _ (List.mem_of_getElem? (i := 9) rfl)
theorem nw_X4_196 {D : va_G} {tys : List (ClassId × FieldType)} {s : State} (h : Kn D tys s) : va_Nw (.fieldLinkNest RX4 196 "ShornHill$Sheet" "hasRow" "Z" "ShornHill") s := h.2 _ (List.mem_of_getElem? (i := 10) rfl)
theorem nw_X4_206 {D : va_G} {tys : List (ClassId × FieldType)} {s : State} (h : Kn D tys s) : va_Nw (.fieldLinkNest RX4 206 "ShornHill$Sheet" "lane" "I" "ShornHill") s := h.2 _ (List.mem_of_getElem? (i := 11) rfl)
theorem nw_X4_64 {D : va_G} {tys : List (ClassId × FieldType)} {s : State} (h : Kn D tys s) : va_Nw (.fieldLinkNest RX4 64 "ShornHill$Sheet" "row" "[I" "ShornHill") s := h.2 _ (List.mem_of_getElem? (i := 12) rfl)
theorem nw_X4_13 {D : va_G} {tys : List (ClassId × FieldType)} {s : State} (h : Kn D tys s) : va_Nw (.methodLinkNest RX4 13 yX0_init "ShornHill") s := h.2 _ (List.mem_of_getElem? (i := 13) rfl)
theorem nw_X4_20 {D : va_G} {tys : List (ClassId × FieldType)} {s : State} (h : Kn D tys s) : va_Nw (.methodLinkNest RX4 20 yX1_init "ShornHill") s := h.2 _ (List.mem_of_getElem? (i := 14) rfl)
theorem nw_X4_27 {D : va_G} {tys : List (ClassId × FieldType)} {s : State} (h : Kn D tys s) : va_Nw (.methodLinkNest RX4 27 yX2_init "ShornHill") s := h.2 _ (List.mem_of_getElem? (i := 15) rfl)
theorem nw_X4_45 {D : va_G} {tys : List (ClassId × FieldType)} {s : State} (h : Kn D tys s) : va_Nw (.methodLinkNest RX4 45 yX3_init "ShornHill") s := h.2 _ (List.mem_of_getElem? (i := 16) rfl)
theorem nw_X4_53 {D : va_G} {tys : List (ClassId × FieldType)} {s : State} (h : Kn D tys s) : va_Nw (.methodLinkNest RX4 53 yX3_faultAs "ShornHill") s := h.2 _ (List.mem_of_getElem? (i := 17) rfl)
theorem nw_X4_57 {D : va_G} {tys : List (ClassId × FieldType)} {s : State} (h : Kn D tys s) : va_Nw (.methodLinkNest RX4 57 yX3_spans "ShornHill") s := h.2 _ (List.mem_of_getElem? (i := 18) rfl)
theorem nw_X4_72 {D : va_G} {tys : List (ClassId × FieldType)} {s : State} (h : Kn D tys s) : va_Nw (.methodLinkNest RX4 72 yX0_grow "ShornHill") s := h.2 _ (List.mem_of_getElem? (i := 19) rfl)
theorem nw_X0_42 {D : va_G} {tys : List (ClassId × FieldType)} {s : State} (h : Kn D tys s) : va_Nw (.methodLinkNest RX0 42 yX4_kindOf "ShornHill") s := h.2 _ (List.mem_of_getElem? (i := 20) rfl)
theorem nw_X4_79 {D : va_G} {tys : List (ClassId × FieldType)} {s : State} (h : Kn D tys s) : va_Nw (.methodLinkNest RX4 79 yX0_softCells "ShornHill") s := h.2 _ (List.mem_of_getElem? (i := 21) rfl)
theorem nw_X0_72 {D : va_G} {tys : List (ClassId × FieldType)} {s : State} (h : Kn D tys s) : va_Nw (.methodLinkNest RX0 72 yX4_bit "ShornHill") s := h.2 _ (List.mem_of_getElem? (i := 22) rfl)
theorem nw_X4_88 {D : va_G} {tys : List (ClassId × FieldType)} {s : State} (h : Kn D tys s) : va_Nw (.methodLinkNest RX4 88 yX0_has "ShornHill") s := h.2 _ (List.mem_of_getElem? (i := 23) rfl)
theorem nw_X4_94 {D : va_G} {tys : List (ClassId × FieldType)} {s : State} (h : Kn D tys s) : va_Nw (.methodLinkNest RX4 94 yX0_weekly "ShornHill") s := h.2 _ (List.mem_of_getElem? (i := 24) rfl)
theorem nw_X4_100 {D : va_G} {tys : List (ClassId × FieldType)} {s : State} (h : Kn D tys s) : va_Nw (.methodLinkNest RX4 100 yX0_isSoft "ShornHill") s := h.2 _ (List.mem_of_getElem? (i := 25) rfl)
theorem nw_X4_106 {D : va_G} {tys : List (ClassId × FieldType)} {s : State} (h : Kn D tys s) : va_Nw (.methodLinkNest RX4 106 yX0_stands "ShornHill") s := h.2 _ (List.mem_of_getElem? (i := 26) rfl)
theorem nw_X4_119 {D : va_G} {tys : List (ClassId × FieldType)} {s : State} (h : Kn D tys s) : va_Nw (.methodLinkNest RX4 119 yX0_inches "ShornHill") s := h.2 _ (List.mem_of_getElem? (i := 27) rfl)
theorem nw_X4_123 {D : va_G} {tys : List (ClassId × FieldType)} {s : State} (h : Kn D tys s) : va_Nw (.methodLinkNest RX4 123 yX0_ripeCells "ShornHill") s := h.2 _ (List.mem_of_getElem? (i := 28) rfl)
theorem nw_X4_126 {D : va_G} {tys : List (ClassId × FieldType)} {s : State} (h : Kn D tys s) : va_Nw (.methodLinkNest RX4 126 yX0_isRipe "ShornHill") s := h.2 _ (List.mem_of_getElem? (i := 29) rfl)
theorem nw_X4_240 {D : va_G} {tys : List (ClassId × FieldType)} {s : State} (h : Kn D tys s) : va_Nw (.methodLinkNest RX4 240 yX0_beside "ShornHill") s := h.2 _ (List.mem_of_getElem? (i := 30) rfl)
theorem nw_X4_243 {D : va_G} {tys : List (ClassId × FieldType)} {s : State} (h : Kn D tys s) : va_Nw (.methodLinkNest RX4 243 yX0_inchesOfAll "ShornHill") s := h.2 _ (List.mem_of_getElem? (i := 31) rfl)
theorem nw_X0_62 {D : va_G} {tys : List (ClassId × FieldType)} {s : State} (h : Kn D tys s) : va_Nw (.methodLinkNest RX0 62 yX4_isIn "ShornHill") s := h.2 _ (List.mem_of_getElem? (i := 32) rfl)
theorem nw_X4_256 {D : va_G} {tys : List (ClassId × FieldType)} {s : State} (h : Kn D tys s) : va_Nw (.methodLinkNest RX4 256 yX2_keep "ShornHill") s := h.2 _ (List.mem_of_getElem? (i := 33) rfl)
theorem nw_X4_143 {D : va_G} {tys : List (ClassId × FieldType)} {s : State} (h : Kn D tys s) : va_Nw (.methodLinkNest RX4 143 yX0_cells "ShornHill") s := h.2 _ (List.mem_of_getElem? (i := 34) rfl)
theorem nw_X4_149 {D : va_G} {tys : List (ClassId × FieldType)} {s : State} (h : Kn D tys s) : va_Nw (.methodLinkNest RX4 149 yX0_isAllRipe "ShornHill") s := h.2 _ (List.mem_of_getElem? (i := 35) rfl)
theorem nw_X4_161 {D : va_G} {tys : List (ClassId × FieldType)} {s : State} (h : Kn D tys s) : va_Nw (.methodLinkNest RX4 161 yX1_add "ShornHill") s := h.2 _ (List.mem_of_getElem? (i := 36) rfl)
theorem nw_X4_165 {D : va_G} {tys : List (ClassId × FieldType)} {s : State} (h : Kn D tys s) : va_Nw (.methodLinkNest RX4 165 yX1_areSo "ShornHill") s := h.2 _ (List.mem_of_getElem? (i := 37) rfl)
theorem nw_X1_25 {D : va_G} {tys : List (ClassId × FieldType)} {s : State} (h : Kn D tys s) : va_Nw (.methodLinkNest RX1 25 yX0_inches "ShornHill") s := h.2 _ (List.mem_of_getElem? (i := 38) rfl)
theorem nw_X4_192 {D : va_G} {tys : List (ClassId × FieldType)} {s : State} (h : Kn D tys s) : va_Nw (.methodLinkNest RX4 192 yX3_renew "ShornHill") s := h.2 _ (List.mem_of_getElem? (i := 39) rfl)
theorem nw_X4_200 {D : va_G} {tys : List (ClassId × FieldType)} {s : State} (h : Kn D tys s) : va_Nw (.methodLinkNest RX4 200 yX3_holds "ShornHill") s := h.2 _ (List.mem_of_getElem? (i := 40) rfl)
theorem nw_X4_203 {D : va_G} {tys : List (ClassId × FieldType)} {s : State} (h : Kn D tys s) : va_Nw (.methodLinkNest RX4 203 yX3_cut "ShornHill") s := h.2 _ (List.mem_of_getElem? (i := 41) rfl)
/-- a start: the world stands, the tables are known -/
def P0 (D : va_G) (tys : List (ClassId × FieldType)) (av : List Value) (ws : va_W) : Array Value → State → Prop := va_Pc av (fun U => va_P D vwCl ws U.heap ∧ Kn D tys U)
def P1 (D : va_G) (tys : List (ClassId × FieldType)) (av : List Value) (ws : va_W) (sz : Nat) : Array Value → State → Prop := va_Pc av (fun U => U.heap.size = sz ∧ va_P D vwCl ws U.heap ∧ Kn D tys U ∧ va_D (fun _ => True) ws)
/-- a method that writes nothing -/
def RG (l : Launch) (y : MethodName) (w : List Cond) (fr lo : Nat) (D : va_G) (tys : List (ClassId × FieldType)) (av : List Value) (ws : va_W) (Qa : Array Value → State → Outcome → State → Prop) : Prop :=
  Met l y w { frames := fr, cells := 0, slots := 0, locals := lo } (P0 D tys av ws) Qa 0 0 (fun _ => False)
/-- a method that may write its world, and make cells -/
def MG (l : Launch) (y : MethodName) (w : List Cond) (fr lo mc ms : Nat) (D : va_G) (tys : List (ClassId × FieldType)) (av : List Value) (ws : va_W) (Qa : (Nat → Prop) → Array Value → State → Outcome → State → Prop) : Prop :=
  ∀ sz : Nat, Met l y w { frames := fr, cells := mc, slots := ms, locals := lo } (P1 D tys av ws sz) (Qa (va_A ws sz)) mc ms (va_A ws sz)
def QI (D : va_G) (post : Int32 → va_W → Prop) (A : Nat → Prop) : Array Value → State → Outcome → State → Prop := va_Qi post (fun w1 t => va_P D vwCl w1 t.heap ∧ va_D A w1) A
def QL (D : va_G) (post : Int64 → va_W → Prop) (A : Nat → Prop) : Array Value → State → Outcome → State → Prop := va_Ql post (fun w1 t => va_P D vwCl w1 t.heap ∧ va_D A w1) A
def QV (D : va_G) (post : va_W → Prop) (A : Nat → Prop) : Array Value → State → Outcome → State → Prop := va_Qv post (fun w1 t => va_P D vwCl w1 t.heap ∧ va_D A w1) A
def SV (post : Prop) : Array Value → State → Outcome → State → Prop := fun _ st oc t => oc = .returned none ∧ post ∧ t.heap = st.heap
section KITA
variable {l : Launch} {y : MethodName} {w w' : List Cond} {cc : ByteArray} {maxL fr lo mc ms : Nat} {ret : Option FieldType} {D : va_G} {tys : List (ClassId × FieldType)} {av : List Value} {ws : va_W}
theorem RG.of {Qa : Array Value → State → Outcome → State → Prop} (hy : plainName y.cls = true) (hw : w = Cond.code y cc maxL ret :: w') (hn : (lg_sl av).length ≤ maxL)
    (body : ∀ (p : Program) (e : Env) (s : State) (m : MethodId) (below : List Frame) (meth : Method) (c : Code), p.tables.exec = Jvm.exec → c.code = cc → c.maxLocals = maxL → meth.sig.returnType = ret → (∀ x ∈ w, x.before av.toArray s = true) → s.vm.findClass y.cls = some m.cls → meth.locks = false → va_P D vwCl ws s.heap → Kn D tys s → ∀ ls : Array Slot, lv_has ls maxL (lv_args 0 av) →
      W p l e { frames := fr, cells := 0, slots := 0, locals := lo } s m av.toArray below meth c s.heap [] 0 0 (MQ below Qa av.toArray s 0 0 (fun _ => False)) (F0 m 0 ls [])) : RG l y w fr lo D tys av ws Qa := by
  refine Met.ofW (cc := cc) (maxL := maxL) (ret := ret) hy hw ?_
  intro p e s m args below meth c s₁ B hml hv
  obtain ⟨rfl, hP, hK⟩ := hv
  have hl := lv_entry av (n := maxL) hn
  rw [lg_entry_eq]
  exact body p e s m below meth c B.exec B.bytes hml B.returns (atoms_spec (ws := w) B.pre) (findClass_of_methodNamed B.named) B.notSynchronized hP hK _ hl
theorem MG.of {Qa : (Nat → Prop) → Array Value → State → Outcome → State → Prop} (hy : plainName y.cls = true) (hw : w = Cond.code y cc maxL ret :: w') (hn : (lg_sl av).length ≤ maxL)
    (body : ∀ (p : Program) (e : Env) (s : State) (m : MethodId) (below : List Frame) (meth : Method) (c : Code), p.tables.exec = Jvm.exec → c.code = cc → c.maxLocals = maxL → meth.sig.returnType = ret → (∀ x ∈ w, x.before av.toArray s = true) → s.vm.findClass y.cls = some m.cls → meth.locks = false → meth.name = y.name → ∀ A : Nat → Prop, (∀ q : Nat, s.heap.size ≤ q → A q) → va_P D vwCl ws s.heap → Kn D tys s → va_D A ws → va_S A s.heap s.heap [] → ∀ ls : Array Slot, lv_has ls maxL (lv_args 0 av) →
      W p l e { frames := fr, cells := mc, slots := ms, locals := lo } s m av.toArray below meth c s.heap [] 0 0 (MQ below (Qa A) av.toArray s mc ms A) (F0 m 0 ls [])) : MG l y w fr lo mc ms D tys av ws Qa := by
  intro sz
  refine Met.ofW (cc := cc) (maxL := maxL) (ret := ret) hy hw ?_
  intro p e s m args below meth c s₁ B hml hv
  obtain ⟨rfl, hsz, hP, hK, hD0⟩ := hv
  have hl := lv_entry av (n := maxL) hn
  rw [lg_entry_eq]
  subst hsz
  exact body p e s m below meth c B.exec B.bytes hml B.returns (atoms_spec (ws := w) B.pre) (findClass_of_methodNamed B.named) B.notSynchronized (name_of_methodNamed B.named B.method).1 (va_A ws s.heap.size) (fun q h => Or.inr h) hP hK (hD0.self (sz := s.heap.size)) va_S.rf _ hl
end KITA
section KITB
variable {p : Program} {l : Launch} {e : Env} {R : Room} {s : State} {m : MethodId} {args : Array Value} {below : List Frame} {meth : Method} {c : Code} {H : Heap} {locs : List Loc} {cells slots : Nat} {Q : State → Prop}
variable {pc : Nat} {ls : Array Slot} {rest st : List Value} {D : va_G} {tys : List (ClassId × FieldType)} {A : Nat → Prop} {H0 : Heap} {cc : ByteArray}
-- returns
theorem ri_ret {post : Int32 → Prop} {v : Int32} (hx : p.tables.exec = Jvm.exec) (hb : c.code = cc) (hr : meth.sig.returnType = some .int) (hlk : meth.locks = false) (d : decode cc pc = .ok (.ireturn, 1)) (hq : post v) :
    W p l e R s m args below meth c s.heap [] 0 0 (MQ below (vp_Si post) args s 0 0 (fun _ => False)) (F0 m pc ls [.int v]) :=
  W.iret hx hb hr (fun t ht _ => ⟨v, rfl, hq, ht⟩) (fun q h => by cases h) d hlk
theorem rz_ret {post : Int32 → Prop} {v : Int32} (hx : p.tables.exec = Jvm.exec) (hb : c.code = cc) (hr : meth.sig.returnType = some .boolean) (hlk : meth.locks = false) (d : decode cc pc = .ok (.ireturn, 1)) (hn : narrow .boolean (.int v) = .int v) (hq : post v) :
    W p l e R s m args below meth c s.heap [] 0 0 (MQ below (vp_Si post) args s 0 0 (fun _ => False)) (F0 m pc ls [.int v]) :=
  W.zret hx hb hr hn (fun t ht _ => ⟨v, rfl, hq, ht⟩) (fun q h => by cases h) d hlk
theorem rl_ret {post : Int64 → Prop} {v : Int64} (hx : p.tables.exec = Jvm.exec) (hb : c.code = cc) (hr : meth.sig.returnType = some .long) (hlk : meth.locks = false) (d : decode cc pc = .ok (.lreturn, 1)) (hq : post v) :
    W p l e R s m args below meth c s.heap [] 0 0 (MQ below (vp_Sl post) args s 0 0 (fun _ => False)) (F0 m pc ls [.long v]) :=
  W.lret hx hb hr (fun t ht _ => ⟨v, rfl, hq, ht⟩) (fun q h => by cases h) d hlk
theorem mi_ret {post : Int32 → va_W → Prop} {v : Int32} {w1 : va_W} (hx : p.tables.exec = Jvm.exec) (hb : c.code = cc) (hr : meth.sig.returnType = some .int) (hlk : meth.locks = false) (hP : va_P D vwCl w1 H) (hD : va_D A w1) (hS : va_S A s.heap H locs) (d : decode cc pc = .ok (.ireturn, 1)) (hq : post v w1) :
    W p l e R s m args below meth c H locs cells slots (MQ below (QI D post A) args s cells slots A) (F0 m pc ls [.int v]) :=
  W.iret hx hb hr (fun t ht _ => ⟨⟨v, w1, rfl, hq, by rw [ht]; exact hP, hD⟩, hS.F ht⟩) hS.2.2 d hlk
theorem mz_ret {post : Int32 → va_W → Prop} {v : Int32} {w1 : va_W} (hx : p.tables.exec = Jvm.exec) (hb : c.code = cc) (hr : meth.sig.returnType = some .boolean) (hlk : meth.locks = false) (hP : va_P D vwCl w1 H) (hD : va_D A w1) (hS : va_S A s.heap H locs) (d : decode cc pc = .ok (.ireturn, 1)) (hn : narrow .boolean (.int v) = .int v) (hq : post v w1) :
    W p l e R s m args below meth c H locs cells slots (MQ below (QI D post A) args s cells slots A) (F0 m pc ls [.int v]) :=
  W.zret hx hb hr hn (fun t ht _ => ⟨⟨v, w1, rfl, hq, by rw [ht]; exact hP, hD⟩, hS.F ht⟩) hS.2.2 d hlk
theorem ml_ret {post : Int64 → va_W → Prop} {v : Int64} {w1 : va_W} (hx : p.tables.exec = Jvm.exec) (hb : c.code = cc) (hr : meth.sig.returnType = some .long) (hlk : meth.locks = false) (hP : va_P D vwCl w1 H) (hD : va_D A w1) (hS : va_S A s.heap H locs) (d : decode cc pc = .ok (.lreturn, 1)) (hq : post v w1) :
    W p l e R s m args below meth c H locs cells slots (MQ below (QL D post A) args s cells slots A) (F0 m pc ls [.long v]) :=
  W.lret hx hb hr (fun t ht _ => ⟨⟨v, w1, rfl, hq, by rw [ht]; exact hP, hD⟩, hS.F ht⟩) hS.2.2 d hlk
theorem mv_ret {post : va_W → Prop} {w1 : va_W} (hx : p.tables.exec = Jvm.exec) (hb : c.code = cc) (hr : meth.sig.returnType = none) (hlk : meth.locks = false) (hP : va_P D vwCl w1 H) (hD : va_D A w1) (hS : va_S A s.heap H locs) (d : decode cc pc = .ok (.return_, 1)) (hq : post w1) :
    W p l e R s m args below meth c H locs cells slots (MQ below (QV D post A) args s cells slots A) (F0 m pc ls []) :=
  W.vret hx hb hr (fun t ht _ => ⟨⟨w1, rfl, hq, by rw [ht]; exact hP, hD⟩, hS.F ht⟩) hS.2.2 d hlk
-- behind a call that writes nothing
theorem k_ri {post : Int32 → Prop} {a : Array Value} (h : va_Run p l e R s m args below meth c H locs cells slots 0 0 (F0 m pc ls st) rest (vp_Si post a) (fun _ => False))
    (kk : ∀ r : Int32, post r → W p l e R s m args below meth c H locs cells slots Q (F0 m (pc + 3) ls (.int r :: rest))) : W p l e R s m args below meth c H locs cells slots Q (F0 m pc ls st) := by
  intro T hT X
  obtain ⟨v, st₀, t, T', L, h0, X', hL, e1, e2, ⟨r, hv, hp, hh⟩, stp⟩ := h T hT X
  cases hv
  obtain ⟨t2, a1, b1⟩ := kk r hp T' (by rw [e1, hh, h0]) (Stand.forget X' (fun q h => (hL q h).elim))
  exact ⟨t2, stp t2 a1, b1⟩
theorem k_rl {post : Int64 → Prop} {a : Array Value} (h : va_Run p l e R s m args below meth c H locs cells slots 0 0 (F0 m pc ls st) rest (vp_Sl post a) (fun _ => False))
    (kk : ∀ r : Int64, post r → W p l e R s m args below meth c H locs cells slots Q (F0 m (pc + 3) ls (.long r :: rest))) : W p l e R s m args below meth c H locs cells slots Q (F0 m pc ls st) := by
  intro T hT X
  obtain ⟨v, st₀, t, T', L, h0, X', hL, e1, e2, ⟨r, hv, hp, hh⟩, stp⟩ := h T hT X
  cases hv
  obtain ⟨t2, a1, b1⟩ := kk r hp T' (by rw [e1, hh, h0]) (Stand.forget X' (fun q h => (hL q h).elim))
  exact ⟨t2, stp t2 a1, b1⟩
-- behind a call that writes its world
theorem k_mi {post : Int32 → va_W → Prop} {a : Array Value} {X wc wr : va_W} (isC isR : List Nat) (h : va_Run p l e R s m args below meth c H locs cells slots 0 0 (F0 m pc ls st) rest (QI D post (va_A wc H.size) a) (va_A wc H.size))
    (hP : va_P D vwCl X H) (hD : va_D A X) (hS : va_S A H0 H locs) (hA : ∀ q, H0.size ≤ q → A q) (hC : isC.map (fun i => X[i]?) = wc.map some) (hR : isR.map (fun i => X[i]?) = wr.map some) (hn : va_nd isR = true) (hdis : ∀ i ∈ isR, i ∉ isC)
    (kk : ∀ (r : Int32) (w1 : va_W) (H1 : Heap) (locs1 : List Loc), post r w1 → va_P D vwCl (wr ++ w1) H1 → va_D A (wr ++ w1) → va_S A H0 H1 locs1 → W p l e R s m args below meth c H1 locs1 cells slots Q (F0 m (pc + 3) ls (.int r :: rest))) : W p l e R s m args below meth c H locs cells slots Q (F0 m pc ls st) := by
  have hF := va_free (wc := wc) hD hS hA isC hC
  refine va_calli h hS (fun q _ h => hF q h) hF (fun r u t H1 locs1 ht _ hw hB _ hk1 hS1 => ?_)
  obtain ⟨hP1, hD1⟩ := hB
  rw [ht] at hP1
  obtain ⟨hP2, hD2⟩ := va_join (wr := wr) (w1 := u) hP hD isC isR hC hR hn hdis hk1 hF hP1 hD1
  exact kk r u H1 locs1 hw hP2 hD2 hS1
theorem k_ml {post : Int64 → va_W → Prop} {a : Array Value} {X wc wr : va_W} (isC isR : List Nat) (h : va_Run p l e R s m args below meth c H locs cells slots 0 0 (F0 m pc ls st) rest (QL D post (va_A wc H.size) a) (va_A wc H.size))
    (hP : va_P D vwCl X H) (hD : va_D A X) (hS : va_S A H0 H locs) (hA : ∀ q, H0.size ≤ q → A q) (hC : isC.map (fun i => X[i]?) = wc.map some) (hR : isR.map (fun i => X[i]?) = wr.map some) (hn : va_nd isR = true) (hdis : ∀ i ∈ isR, i ∉ isC)
    (kk : ∀ (r : Int64) (w1 : va_W) (H1 : Heap) (locs1 : List Loc), post r w1 → va_P D vwCl (wr ++ w1) H1 → va_D A (wr ++ w1) → va_S A H0 H1 locs1 → W p l e R s m args below meth c H1 locs1 cells slots Q (F0 m (pc + 3) ls (.long r :: rest))) : W p l e R s m args below meth c H locs cells slots Q (F0 m pc ls st) := by
  have hF := va_free (wc := wc) hD hS hA isC hC
  refine va_calll h hS (fun q _ h => hF q h) hF (fun r u t H1 locs1 ht _ hw hB _ hk1 hS1 => ?_)
  obtain ⟨hP1, hD1⟩ := hB
  rw [ht] at hP1
  obtain ⟨hP2, hD2⟩ := va_join (wr := wr) (w1 := u) hP hD isC isR hC hR hn hdis hk1 hF hP1 hD1
  exact kk r u H1 locs1 hw hP2 hD2 hS1
theorem k_mv {post : va_W → Prop} {a : Array Value} {mc ms : Nat} {X wc wr : va_W} (isC isR : List Nat) (h : va_Run p l e R s m args below meth c H locs cells slots mc ms (F0 m pc ls st) rest (QV D post (va_A wc H.size) a) (va_A wc H.size))
    (hP : va_P D vwCl X H) (hD : va_D A X) (hS : va_S A H0 H locs) (hA : ∀ q, H0.size ≤ q → A q) (hC : isC.map (fun i => X[i]?) = wc.map some) (hR : isR.map (fun i => X[i]?) = wr.map some) (hn : va_nd isR = true) (hdis : ∀ i ∈ isR, i ∉ isC)
    (kk : ∀ (w1 : va_W) (H1 : Heap) (locs1 : List Loc), post w1 → va_P D vwCl (wr ++ w1) H1 → va_D A (wr ++ w1) → va_S A H0 H1 locs1 → W p l e R s m args below meth c H1 locs1 (cells + mc) (slots + ms) Q (F0 m (pc + 3) ls rest)) : W p l e R s m args below meth c H locs cells slots Q (F0 m pc ls st) := by
  have hF := va_free (wc := wc) hD hS hA isC hC
  refine va_callv h hS (fun q _ h => hF q h) hF (fun u t H1 locs1 ht _ hw hB _ hk1 hS1 => ?_)
  obtain ⟨hP1, hD1⟩ := hB
  rw [ht] at hP1
  obtain ⟨hP2, hD2⟩ := va_join (wr := wr) (w1 := u) hP hD isC isR hC hR hn hdis hk1 hF hP1 hD1
  exact kk u H1 locs1 hw hP2 hD2 hS1
-- starts of calls
theorem P0.pre {As : List Value} {X wc : va_W} (hP : va_P D vwCl X H) (hK : Kn D tys s) (isC : List Nat) (hC : isC.filterMap (fun i => X[i]?) = wc) : PreS s H (P0 D tys As wc) As := by
  have hPc := hP.sub isC hC
  exact ⟨fun a U g mk q => by obtain ⟨q0, qP, qK⟩ := q; exact ⟨q0, qP, qK.call⟩, fun U hU hW => ⟨rfl, by rw [hU]; exact hPc, hK.warm hW⟩⟩
theorem fm_of_map {α : Type} {X wc : List α} : ∀ {is : List Nat}, is.map (fun i => X[i]?) = wc.map some → is.filterMap (fun i => X[i]?) = wc := by
  intro is h
  have h2 : (is.map (fun i => X[i]?)).filterMap id = (wc.map some).filterMap id := by rw [h]
  rw [List.filterMap_map, List.filterMap_map] at h2
  simpa using h2
theorem P1.pre {As : List Value} {X wc : va_W} (hP : va_P D vwCl X H) (hK : Kn D tys s) (hD : va_D A X) (isC : List Nat) (hnd : va_nd isC = true) (hC : isC.map (fun i => X[i]?) = wc.map some) : PreS s H (P1 D tys As wc H.size) As := by
  have hPc := hP.sub isC (fm_of_map hC)
  have hDc := hD.sub isC hnd hC
  exact ⟨fun a U g mk q => by obtain ⟨q0, q1, qP, qK, qD⟩ := q; exact ⟨q0, q1, qP, qK.call, qD⟩, fun U hU hW => ⟨rfl, by rw [hU], by rw [hU]; exact hPc, hK.warm hW, hDc.weaken (fun _ _ _ _ => trivial)⟩⟩
theorem rcv {X wc : va_W} {b ci : Nat} {q : vw_C} {fs : List Value} {C : String} (hP : va_P D vwCl X H) (hK : Kn D tys s) (isC : List Nat) (hC : isC.filterMap (fun i => X[i]?) = wc) (hc : vwCl[ci]? = some q) (he : wc[0]? = some (b, .inr (ci, fs))) (hCC : q.1 = C) : ∃ cellB : Cell, H[b]? = some cellB ∧ cellB.vm.isStatics = false ∧ s.vm.findClass C = some cellB.cls := by
  subst hCC
  exact va_recv hK.1 (hP.sub isC hC) hc he
variable {nL maxL index n fr lo mc ms : Nat} {w Ts : List Cond} {own C host : String} {y : MethodName} {bytes : ByteArray} {ret : Option FieldType} {b : Addr} {As : List Value} {X wc : va_W}
theorem run_RV {Qa : Array Value → State → Outcome → State → Prop} {ci : Nat} {q : vw_C} {fs : List Value} (S : CallFix p m c cc nL s args Ts own) (hM : RG l y w fr lo D tys (.ref b :: As) wc Qa) (cw : CallW R s args own C index y bytes maxL ret w { frames := fr, cells := 0, slots := 0, locals := lo } 0 0 n) (hP : va_P D vwCl X H) (hK : Kn D tys s) (isC : List Nat) (hC : isC.filterMap (fun i => X[i]?) = wc) (hc : vwCl[ci]? = some q) (he : wc[0]? = some (b, .inr (ci, fs))) (hCC : q.1 = C) (hn : As.length = n) (hsz : ls.size = nL) (hst : st = As.reverse ++ .ref b :: rest) (hW : (rest.map fun v => v.category).sum ≤ 8) (hdg : decode cc pc = .ok (.invokevirtual index, 3)) (hf : cells ≤ R.cells ∧ slots ≤ R.slots) :
    va_Run p l e R s m args below meth c H locs cells slots 0 0 (F0 m pc ls st) rest (Qa (Value.ref b :: As).toArray) (fun _ => False) :=
  va_runV (As := As) (rest := rest) S hM cw ⟨(P0.pre (As := .ref b :: As) hP hK isC hC).1, rcv hP hK isC hC hc he hCC, (P0.pre (As := .ref b :: As) hP hK isC hC).2⟩ rfl hn hsz hst (lv_room hW) hdg hf
theorem run_RN {Qa : Array Value → State → Outcome → State → Prop} {ci : Nat} {q : vw_C} {fs : List Value} (S : CallFix p m c cc nL s args Ts own) (hM : RG l y w fr lo D tys (.ref b :: As) wc Qa) (cw : va_CN R s args own index y host bytes maxL ret w { frames := fr, cells := 0, slots := 0, locals := lo } 0 0 n ∧ (Cond.instanceMethod y).before args s = true ∧ (Cond.selects C y y).before args s = true) (hP : va_P D vwCl X H) (hK : Kn D tys s) (isC : List Nat) (hC : isC.filterMap (fun i => X[i]?) = wc) (hc : vwCl[ci]? = some q) (he : wc[0]? = some (b, .inr (ci, fs))) (hCC : q.1 = C) (hn : As.length = n) (hsz : ls.size = nL) (hst : st = As.reverse ++ .ref b :: rest) (hW : (rest.map fun v => v.category).sum ≤ 8) (hdg : decode cc pc = .ok (.invokevirtual index, 3)) (hf : cells ≤ R.cells ∧ slots ≤ R.slots) :
    va_Run p l e R s m args below meth c H locs cells slots 0 0 (F0 m pc ls st) rest (Qa (Value.ref b :: As).toArray) (fun _ => False) :=
  va_runVN (As := As) (rest := rest) S hM cw ⟨(P0.pre (As := .ref b :: As) hP hK isC hC).1, rcv hP hK isC hC hc he hCC, (P0.pre (As := .ref b :: As) hP hK isC hC).2⟩ rfl hn hsz hst (lv_room hW) hdg hf
theorem run_RS {Qa : Array Value → State → Outcome → State → Prop} (S : CallFix p m c cc nL s args Ts own) (hM : RG l y w fr lo D tys As wc Qa) (cw : CallB R s args own index y bytes maxL ret w { frames := fr, cells := 0, slots := 0, locals := lo } 0 0 n ∧ (Cond.static y).before args s = true) (hP : va_P D vwCl X H) (hK : Kn D tys s) (isC : List Nat) (hC : isC.filterMap (fun i => X[i]?) = wc) (hn : As.length = n) (hsz : ls.size = nL) (hst : st = As.reverse ++ rest) (hW : (rest.map fun v => v.category).sum ≤ 8) (hdg : decode cc pc = .ok (.invokestatic index, 3)) (hf : cells ≤ R.cells ∧ slots ≤ R.slots) :
    va_Run p l e R s m args below meth c H locs cells slots 0 0 (F0 m pc ls st) rest (Qa As.toArray) (fun _ => False) :=
  va_runS (As := As) (rest := rest) S hM cw (P0.pre (As := As) hP hK isC hC) rfl hn hsz hst (lv_room hW) hdg hf
theorem run_RSN {Qa : Array Value → State → Outcome → State → Prop} (S : CallFix p m c cc nL s args Ts own) (hM : RG l y w fr lo D tys As wc Qa) (cw : va_CN R s args own index y host bytes maxL ret w { frames := fr, cells := 0, slots := 0, locals := lo } 0 0 n ∧ (Cond.static y).before args s = true ∧ True) (hP : va_P D vwCl X H) (hK : Kn D tys s) (isC : List Nat) (hC : isC.filterMap (fun i => X[i]?) = wc) (hn : As.length = n) (hsz : ls.size = nL) (hst : st = As.reverse ++ rest) (hW : (rest.map fun v => v.category).sum ≤ 8) (hdg : decode cc pc = .ok (.invokestatic index, 3)) (hf : cells ≤ R.cells ∧ slots ≤ R.slots) :
    va_Run p l e R s m args below meth c H locs cells slots 0 0 (F0 m pc ls st) rest (Qa As.toArray) (fun _ => False) :=
  va_runSN (As := As) (rest := rest) S hM cw (P0.pre (As := As) hP hK isC hC) rfl hn hsz hst (lv_room hW) hdg hf
theorem run_MV {Qa : (Nat → Prop) → Array Value → State → Outcome → State → Prop} {ci : Nat} {q : vw_C} {fs : List Value} (S : CallFix p m c cc nL s args Ts own) (hM : MG l y w fr lo mc ms D tys (.ref b :: As) wc Qa) (cw : CallW R s args own C index y bytes maxL ret w { frames := fr, cells := mc, slots := ms, locals := lo } mc ms n) (hP : va_P D vwCl X H) (hK : Kn D tys s) (hD : va_D A X) (isC : List Nat) (hnd : va_nd isC = true) (hC : isC.map (fun i => X[i]?) = wc.map some) (hc : vwCl[ci]? = some q) (he : wc[0]? = some (b, .inr (ci, fs))) (hCC : q.1 = C) (hn : As.length = n) (hsz : ls.size = nL) (hst : st = As.reverse ++ .ref b :: rest) (hW : (rest.map fun v => v.category).sum ≤ 8) (hdg : decode cc pc = .ok (.invokevirtual index, 3)) (hf : cells + mc ≤ R.cells ∧ slots + ms ≤ R.slots) :
    va_Run p l e R s m args below meth c H locs cells slots mc ms (F0 m pc ls st) rest (Qa (va_A wc H.size) (Value.ref b :: As).toArray) (va_A wc H.size) :=
  va_runV (As := As) (rest := rest) S (hM H.size) cw ⟨(P1.pre (As := .ref b :: As) hP hK hD isC hnd hC).1, rcv hP hK isC (fm_of_map hC) hc he hCC, (P1.pre (As := .ref b :: As) hP hK hD isC hnd hC).2⟩ rfl hn hsz hst (lv_room hW) hdg hf
theorem run_MN {Qa : (Nat → Prop) → Array Value → State → Outcome → State → Prop} {ci : Nat} {q : vw_C} {fs : List Value} (S : CallFix p m c cc nL s args Ts own) (hM : MG l y w fr lo mc ms D tys (.ref b :: As) wc Qa) (cw : va_CN R s args own index y host bytes maxL ret w { frames := fr, cells := mc, slots := ms, locals := lo } mc ms n ∧ (Cond.instanceMethod y).before args s = true ∧ (Cond.selects C y y).before args s = true) (hP : va_P D vwCl X H) (hK : Kn D tys s) (hD : va_D A X) (isC : List Nat) (hnd : va_nd isC = true) (hC : isC.map (fun i => X[i]?) = wc.map some) (hc : vwCl[ci]? = some q) (he : wc[0]? = some (b, .inr (ci, fs))) (hCC : q.1 = C) (hn : As.length = n) (hsz : ls.size = nL) (hst : st = As.reverse ++ .ref b :: rest) (hW : (rest.map fun v => v.category).sum ≤ 8) (hdg : decode cc pc = .ok (.invokevirtual index, 3)) (hf : cells + mc ≤ R.cells ∧ slots + ms ≤ R.slots) :
    va_Run p l e R s m args below meth c H locs cells slots mc ms (F0 m pc ls st) rest (Qa (va_A wc H.size) (Value.ref b :: As).toArray) (va_A wc H.size) :=
  va_runVN (As := As) (rest := rest) S (hM H.size) cw ⟨(P1.pre (As := .ref b :: As) hP hK hD isC hnd hC).1, rcv hP hK isC (fm_of_map hC) hc he hCC, (P1.pre (As := .ref b :: As) hP hK hD isC hnd hC).2⟩ rfl hn hsz hst (lv_room hW) hdg hf
theorem run_MS {Qa : (Nat → Prop) → Array Value → State → Outcome → State → Prop} (S : CallFix p m c cc nL s args Ts own) (hM : MG l y w fr lo mc ms D tys As wc Qa) (cw : CallB R s args own index y bytes maxL ret w { frames := fr, cells := mc, slots := ms, locals := lo } mc ms n ∧ (Cond.static y).before args s = true) (hP : va_P D vwCl X H) (hK : Kn D tys s) (hD : va_D A X) (isC : List Nat) (hnd : va_nd isC = true) (hC : isC.map (fun i => X[i]?) = wc.map some) (hn : As.length = n) (hsz : ls.size = nL) (hst : st = As.reverse ++ rest) (hW : (rest.map fun v => v.category).sum ≤ 8) (hdg : decode cc pc = .ok (.invokestatic index, 3)) (hf : cells + mc ≤ R.cells ∧ slots + ms ≤ R.slots) :
    va_Run p l e R s m args below meth c H locs cells slots mc ms (F0 m pc ls st) rest (Qa (va_A wc H.size) As.toArray) (va_A wc H.size) :=
  va_runS (As := As) (rest := rest) S (hM H.size) cw (P1.pre (As := As) hP hK hD isC hnd hC) rfl hn hsz hst (lv_room hW) hdg hf
theorem run_MI {Qa : (Nat → Prop) → Array Value → State → Outcome → State → Prop} (S : CallFix p m c cc nL s args Ts own) (hM : MG l y w fr lo mc ms D tys (.ref b :: As) wc Qa) (cw : CallB R s args own index y bytes maxL none w { frames := fr, cells := mc, slots := ms, locals := lo } mc ms n ∧ y.name = "<init>" ∧ (Cond.instanceMethod y).before args s = true) (hP : va_P D vwCl X H) (hK : Kn D tys s) (hD : va_D A X) (isC : List Nat) (hnd : va_nd isC = true) (hC : isC.map (fun i => X[i]?) = wc.map some) (hn : As.length = n) (hsz : ls.size = nL) (hst : st = As.reverse ++ .ref b :: rest) (hW : (rest.map fun v => v.category).sum ≤ 8) (hdg : decode cc pc = .ok (.invokespecial index, 3)) (hf : cells + mc ≤ R.cells ∧ slots + ms ≤ R.slots) :
    va_Run p l e R s m args below meth c H locs cells slots mc ms (F0 m pc ls st) rest (Qa (va_A wc H.size) (Value.ref b :: As).toArray) (va_A wc H.size) :=
  va_runI (As := As) (rest := rest) S (hM H.size) cw (P1.pre (As := .ref b :: As) hP hK hD isC hnd hC) rfl hn hsz hst (lv_room hW) hdg hf
theorem run_MIN {Qa : (Nat → Prop) → Array Value → State → Outcome → State → Prop} (S : CallFix p m c cc nL s args Ts own) (hM : MG l y w fr lo mc ms D tys (.ref b :: As) wc Qa) (cw : va_CN R s args own index y host bytes maxL none w { frames := fr, cells := mc, slots := ms, locals := lo } mc ms n ∧ y.name = "<init>" ∧ (Cond.instanceMethod y).before args s = true) (hP : va_P D vwCl X H) (hK : Kn D tys s) (hD : va_D A X) (isC : List Nat) (hnd : va_nd isC = true) (hC : isC.map (fun i => X[i]?) = wc.map some) (hn : As.length = n) (hsz : ls.size = nL) (hst : st = As.reverse ++ .ref b :: rest) (hW : (rest.map fun v => v.category).sum ≤ 8) (hdg : decode cc pc = .ok (.invokespecial index, 3)) (hf : cells + mc ≤ R.cells ∧ slots + ms ≤ R.slots) :
    va_Run p l e R s m args below meth c H locs cells slots mc ms (F0 m pc ls st) rest (Qa (va_A wc H.size) (Value.ref b :: As).toArray) (va_A wc H.size) :=
  va_runIN (As := As) (rest := rest) S (hM H.size) cw (P1.pre (As := .ref b :: As) hP hK hD isC hnd hC) rfl hn hsz hst (lv_room hW) hdg hf
end KITB
