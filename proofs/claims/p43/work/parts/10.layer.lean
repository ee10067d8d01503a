def nS : Nat := 61
def lenS : List Nat := [147, 13, 30, 34, 14, 13, 26, 13, 17, 20, 16, 30, 13, 7, 1, 8, 7, 2, 4, 4, 0, 9, 7, 1, 7, 9, 6, 8, 6, 10, 11, 11, 1, 1, 1, 1, 4, 4, 1, 1, 1, 2, 2, 12, 6, 9, 8, 1, 3, 1, 1, 1, 2, 4, 1, 1, 3, 2, 22, 19, 24]
def bytS : List (List Int32) := [[101, 118, 101, 110, 116, 32, 116, 101, 108, 108, 101, 114, 32, 116, 101, 108, 108, 115, 32, 97, 116, 32, 116, 111, 32, 98, 101, 102, 111, 114, 101, 32, 119, 105, 116, 104, 32, 100, 111, 117, 98, 116, 32, 98, 101, 108, 105, 101, 118, 101, 32, 119, 104, 101, 110, 32, 101, 118, 101, 110, 105, 110, 103, 32, 108, 105, 97, 114, 115, 32, 99, 111, 110, 102, 108, 105, 99, 116, 115, 32, 100, 111, 117, 98, 116, 101, 100, 32, 99, 108, 97, 105, 109, 115, 32, 119, 105, 110, 100, 111, 119, 32, 111, 102, 32, 99, 111, 110, 116, 114, 97, 100, 105, 99, 116, 32, 108, 105, 97, 114, 32, 97, 103, 114, 101, 101, 100, 32, 110, 111, 116, 32, 97, 110, 100, 32, 111, 114, 32, 109, 105, 110, 32, 109, 97, 120, 32], [110, 111, 32, 115, 117, 99, 104, 32, 99, 108, 97, 105, 109], [97, 32, 99, 108, 97, 105, 109, 32, 111, 102, 32, 104, 111, 117, 114, 115, 32, 104, 97, 115, 32, 111, 110, 101, 32, 101, 118, 101, 110, 116], [97, 32, 99, 108, 97, 105, 109, 32, 111, 102, 32, 116, 119, 111, 32, 101, 118, 101, 110, 116, 115, 32, 104, 97, 115, 32, 110, 111, 32, 104, 111, 117, 114, 115], [110, 111, 32, 115, 117, 99, 104, 32, 116, 101, 108, 108, 101, 114], [110, 111, 32, 115, 117, 99, 104, 32, 101, 118, 101, 110, 116], [116, 104, 101, 32, 101, 118, 101, 110, 116, 32, 105, 115, 32, 110, 111, 116, 32, 97, 103, 114, 101, 101, 100, 32, 111, 110], [110, 111, 32, 115, 117, 99, 104, 32, 112, 108, 97, 99, 101], [116, 104, 101, 114, 101, 32, 105, 115, 32, 110, 111, 32, 111, 114, 100, 101, 114], [110, 111, 116, 32, 49, 32, 116, 111, 32, 51, 48, 32, 101, 118, 101, 110, 105, 110, 103, 115], [116, 104, 101, 32, 116, 97, 112, 101, 32, 105, 115, 32, 102, 117, 108, 108], [110, 111, 116, 32, 48, 32, 116, 111, 32, 116, 104, 101, 32, 98, 121, 116, 101, 115, 32, 111, 102, 32, 116, 104, 101, 32, 116, 97, 112, 101], [40, 41, 91, 93, 59, 44, 43, 45, 42, 47, 60, 62, 61], [101, 118, 101, 110, 116, 32, 101], [59], [116, 101, 108, 108, 101, 114, 32, 116], [116, 101, 108, 108, 115, 32, 116], [32, 101], [32, 97, 116, 32], [32, 116, 111, 32], [], [32, 98, 101, 102, 111, 114, 101, 32, 101], [32, 119, 105, 116, 104, 32, 101], [10], [100, 111, 117, 98, 116, 32, 116], [98, 101, 108, 105, 101, 118, 101, 32, 116], [32, 119, 104, 101, 110, 32], [101, 118, 101, 110, 105, 110, 103, 32], [108, 105, 97, 114, 115, 32], [99, 111, 110, 102, 108, 105, 99, 116, 115, 32], [99, 108, 97, 105, 109, 115, 32, 111, 102, 32, 116], [119, 105, 110, 100, 111, 119, 32, 111, 102, 32, 101], [43], [45], [42], [47], [109, 105, 110, 40], [109, 97, 120, 40], [60], [62], [61], [60, 61], [62, 61], [99, 111, 110, 116, 114, 97, 100, 105, 99, 116, 32, 116], [108, 105, 97, 114, 32, 116], [100, 111, 117, 98, 116, 101, 100, 32, 116], [97, 103, 114, 101, 101, 100, 32, 101], [32], [45, 32, 40], [41], [40], [44], [32, 116], [110, 111, 116, 91], [93], [91], [97, 110, 100], [111, 114], [110, 111, 116, 32, 104, 111, 117, 114, 115, 32, 102, 114, 111, 109, 32, 48, 32, 116, 111, 32, 57, 57], [116, 104, 101, 114, 101, 32, 97, 114, 101, 32, 52, 48, 32, 99, 108, 97, 105, 109, 115], [98, 111, 116, 104, 32, 101, 118, 101, 110, 116, 115, 32, 97, 114, 101, 32, 116, 104, 101, 32, 115, 97, 109, 101]]
def stS : List (String × Nat × String) := [("StoryTapestry$Tokens", 43, "event teller tells at to before with doubt believe when evening liars conflicts doubted claims window of contradict liar agreed not and or min max "), ("StoryTapestry", 151, "no such claim"), ("StoryTapestry", 134, "a claim of hours has one event"), ("StoryTapestry", 154, "a claim of two events has no hours"), ("StoryTapestry", 190, "no such teller"), ("StoryTapestry", 218, "no such event"), ("StoryTapestry", 220, "the event is not agreed on"), ("StoryTapestry", 211, "no such place"), ("StoryTapestry", 213, "there is no order"), ("StoryTapestry", 298, "not 1 to 30 evenings"), ("StoryTapestry", 64, "the tape is full"), ("StoryTapestry", 78, "not 0 to the bytes of the tape"), ("StoryTapestry$Tokens", 104, "()[];,+-*/<>="), ("StoryTapestryLaw", 114, "event e"), ("StoryTapestryLaw", 94, ";"), ("StoryTapestryLaw", 116, "teller t"), ("StoryTapestryLaw", 69, "tells t"), ("StoryTapestryLaw", 78, " e"), ("StoryTapestryLaw", 80, " at "), ("StoryTapestryLaw", 82, " to "), ("StoryTapestryLaw", 88, ""), ("StoryTapestryLaw", 90, " before e"), ("StoryTapestryLaw", 92, " with e"), ("StoryTapestryLaw", 134, "\n"), ("StoryTapestryLaw", 143, "doubt t"), ("StoryTapestryLaw", 145, "believe t"), ("StoryTapestryLaw", 147, " when "), ("StoryTapestryLaw$Tree", 70, "evening "), ("StoryTapestryLaw$Tree", 72, "liars "), ("StoryTapestryLaw$Tree", 74, "conflicts "), ("StoryTapestryLaw$Tree", 76, "claims of t"), ("StoryTapestryLaw$Tree", 78, "window of e"), ("StoryTapestryLaw$Tree", 80, "+"), ("StoryTapestryLaw$Tree", 82, "-"), ("StoryTapestryLaw$Tree", 84, "*"), ("StoryTapestryLaw$Tree", 86, "/"), ("StoryTapestryLaw$Tree", 88, "min("), ("StoryTapestryLaw$Tree", 90, "max("), ("StoryTapestryLaw$Tree", 92, "<"), ("StoryTapestryLaw$Tree", 94, ">"), ("StoryTapestryLaw$Tree", 96, "="), ("StoryTapestryLaw$Tree", 98, "<="), ("StoryTapestryLaw$Tree", 100, ">="), ("StoryTapestryLaw$Tree", 102, "contradict t"), ("StoryTapestryLaw$Tree", 104, "liar t"), ("StoryTapestryLaw$Tree", 106, "doubted t"), ("StoryTapestryLaw$Tree", 108, "agreed e"), ("StoryTapestryLaw$Tree", 124, " "), ("StoryTapestryLaw$Tree", 126, "- ("), ("StoryTapestryLaw$Tree", 131, ")"), ("StoryTapestryLaw$Tree", 133, "("), ("StoryTapestryLaw$Tree", 135, ","), ("StoryTapestryLaw$Tree", 137, " t"), ("StoryTapestryLaw$Tree", 139, "not["), ("StoryTapestryLaw$Tree", 141, "]"), ("StoryTapestryLaw$Tree", 143, "["), ("StoryTapestryLaw$Tree", 145, "and"), ("StoryTapestryLaw$Tree", 147, "or"), ("StoryTapestry", 222, "not hours from 0 to 99"), ("StoryTapestry", 240, "there are 40 claims"), ("StoryTapestry", 234, "both events are the same")]
def iE : Nat := 20
def tensB (j : Nat) : Int32 := Int32.ofNat (48 + j / 10)
def onesB (j : Nat) : Int32 := Int32.ofNat (48 + j % 10)
def ncS : List (String × String) := []
def gtbl : List Cond := lw_tbl.filter goodWord
theorem g_in {w : Cond} (h : w ∈ lw_tbl) (hg : goodWord w = true) : w ∈ gtbl := List.mem_filter.mpr ⟨h, hg⟩
theorem g_good {ws : List Cond} (h : ∀ w ∈ ws, w ∈ gtbl) : GoodIn gtbl ws := fun w hw => ⟨h w hw, good_of_word (List.mem_filter.mp (h w hw)).2⟩
/-- a method: name, code, slots of locals, what it returns, handlers -/
abbrev MT : Type := MethodName × ByteArray × Nat × Option FieldType × List (Nat × Nat × Nat × Nat)
abbrev mY (M : MT) : MethodName := M.1
abbrev mC (M : MT) : ByteArray := M.2.1
abbrev mN (M : MT) : Nat := M.2.2.1
abbrev mR (M : MT) : Option FieldType := M.2.2.2.1
abbrev mH (M : MT) : List (Nat × Nat × Nat × Nat) := M.2.2.2.2
/-- one run: where its heap begins, the classes, the rows' classes, the texts' addresses and their bytes', the digits' rows, the script -/
abbrev GG : Type := Nat × va_G × (Nat → ClassId) × (Nat → Nat) × (Nat → Nat) × (Nat → Nat) × Nat × Nat × (Nat → Int32)
abbrev gB (g : GG) : Nat := g.1
abbrev gD (g : GG) : va_G := g.2.1
abbrev gC (g : GG) : Nat → ClassId := g.2.2.1
abbrev gK (g : GG) : Nat → Nat := g.2.2.2.1
abbrev gV (g : GG) : Nat → Nat := g.2.2.2.2.1
abbrev gH (g : GG) : Nat → Nat := g.2.2.2.2.2.1
abbrev gb (g : GG) : Nat := g.2.2.2.2.2.2.1
abbrev gL (g : GG) : Nat := g.2.2.2.2.2.2.2.1
abbrev gx (g : GG) : Nat → Int32 := g.2.2.2.2.2.2.2.2
abbrev gI (g : GG) : ClassId := gC g 0
abbrev gJ (g : GG) : ClassId := gC g 1
def gA (g : GG) : Nat → Prop := fun q => gB g ≤ q
abbrev gT (g : GG) : List (ClassId × FieldType) := [(gC g 0, .int), (gC g 1, .long), (gC g 2, .byte), (gC g 3, .boolean), (gC g 4, .array .int), (gC g 5, .array .boolean), (gC g 6, .object "StoryTapestryLaw$Tree"), (gC g 7, .object "java/lang/String")]
theorem va_AOA.moved {t : FieldType} {u U : State} (hvm : u.vm.Alike U.vm) (h : va_AOA t u) : va_AOA t U := by
  obtain ⟨comp, c, k, h1, h2, h3, h4, h5⟩ := arrayOverA_spec h
  obtain ⟨k', hk', he⟩ := hvm.2.2 _ _ h3
  have hi : (U.vm.classes.findIdx? fun (x : Class) => match x.kind with | .array component _ => component == comp | _ => false) = some c := by
    rw [hvm.findIdx?_eq _ (fun _ => rfl)]
    exact h2
  have hkind : k'.kind = .array comp (.array t) := by rw [he]; exact h4
  have f1 : U.vm.findClass (FieldType.array t).toString = some comp := by rw [hvm.findClass]; exact h1
  have f2 : U.vm.findClass ("[" ++ (FieldType.array t).toString) = some c := by rw [hvm.findClass]; exact h5
  unfold va_AOA Cond.before Cond.holds
  simp only [Cond.value]
  rw [f1, Option.bind_some]
  refine (congrArg (fun o : Option Nat => (o.bind (fun c => (U.vm.classes[c]?).map fun (k : Class) => match k.kind with | .array _ ty => decide (ty = FieldType.array t) && decide (U.vm.findClass ("[" ++ (FieldType.array t).toString) = some c) | _ => false) == some true)) hi).trans ?_
  simp [hk', hkind, f2]
def isNest : Cond → Bool
  | .fieldLinkNest .. => true
  | .methodLinkNest .. => true
  | .castable .. => true
  | .declares _ => true
  | .privateMethod _ => true
  | _ => false
def gnest : List Cond := lw_tbl.filter isNest
theorem n_in {w : Cond} (h : w ∈ lw_tbl) (hg : isNest w = true) : w ∈ gnest := List.mem_filter.mpr ⟨h, hg⟩
theorem nest_tabs {w : Cond} (h : w ∈ gnest) : w.onTables = true := by
  have h1 := (List.mem_filter.mp h).2
  cases w <;> first | rfl | cases h1
/-- a private method stays one -/
theorem va_Nw_P {x : MethodName} {s U : State} (hW : s.WarmedH U.vm) (hZ : va_Nw (.privateMethod x) s) : va_Nw (.privateMethod x) U := Cond.privateMethod_warm hW hZ
theorem nest_warm {w : Cond} (h : w ∈ gnest) {s U : State} (hW : s.WarmedH U.vm) (hZ : va_Nw w s) : va_Nw w U := by
  have h1 := (List.mem_filter.mp h).2
  cases w <;> first | exact va_Nw.warmF hW hZ | exact va_Nw.warmM hW hZ | exact va_Nw.warmC hW hZ | exact va_Nw.warmD hW hZ | exact va_Nw_P hW hZ | cases h1
/-- what stays as it was at the start -/
def Kn (g : GG) (U : State) (H : Heap) : Prop :=
  va_K (gD g) vwCl (gT g) U ∧ vk_S nS lenS bytS (gK g) (gV g) (gA g) U H ∧ (∀ (i : Nat) (q : String × Nat × String), stS[i]? = some q → vk_R q.1 q.2.1 q.2.2 (gK g i) U) ∧
  (va_Z "java/lang/Integer" "DigitTens" "[B" (.ref (gH g 0)) (gA g) U H ∧ va_Z "java/lang/Integer" "DigitOnes" "[B" (.ref (gH g 1)) (gA g) U H) ∧
  (va_T .byte (gH g 0) 100 (fun j => .int (tensB j)) (gA g) U H ∧ va_T .byte (gH g 1) 100 (fun j => .int (onesB j)) (gA g) U H ∧ vk_R "StoryTapestryLaw$Tree" 68 "" (gK g iE) U ∧ va_AO "java/lang/String" U ∧ va_AO "StoryTapestryLaw$Tree" U ∧ va_AOA .int U ∧ va_AOA .boolean U) ∧
  vx_Zq Bundle.tN "UNASSIGNED_STACK" Bundle.steD (gA g) U H ∧ vx_Zq Bundle.tN "SUPPRESSED_SENTINEL" Bundle.listD (gA g) U H ∧ va_Z "java/lang/String" "COMPACT_STRINGS" "Z" (.int 1) (gA g) U H ∧
  va_Zq "jdk/internal/util/Preconditions" "SIOOBE_FORMATTER" "Ljava/util/function/BiFunction;" (gA g) U H ∧ va_X (gb g) (gL g) (gx g) U H ∧ gb g < H.size ∧ ¬ gA g (gb g) ∧ (∀ w ∈ gnest, va_Nw w U) ∧ ∀ q ∈ ncS, va_Nc q.1 q.2 U
theorem Kn.step {g : GG} {s U : State} (h : Kn g s s.heap) (hW : s.WarmedH U.vm) (hq : ∀ a : Nat, a < s.heap.size → ¬ gA g a → U.heap[a]? = s.heap[a]?) (hz : s.heap.size ≤ U.heap.size) : Kn g U U.heap := by
  obtain ⟨h1, h2, h3, h4, h5, h6, h7, h8, h9, h10, h11, h12, h13, h14⟩ := h
  exact ⟨h1.moved hW.alike, (h2.kept hq).moved hW.alike, fun i q hi => vk_R.warm hW (h3 i q hi), ⟨(h4.1.kept hq).moved hW.alike, (h4.2.kept hq).moved hW.alike⟩, ⟨(h5.1.kept hq).moved hW.alike, (h5.2.1.kept hq).moved hW.alike, vk_R.warm hW h5.2.2.1, h5.2.2.2.1.moved hW.alike, h5.2.2.2.2.1.moved hW.alike, h5.2.2.2.2.2.1.moved hW.alike, h5.2.2.2.2.2.2.moved hW.alike⟩, (h6.kept hq).moved hW.alike, (h7.kept hq).moved hW.alike, (h8.kept hq).moved hW.alike, (h9.kept hq).moved hW.alike,
    (h10.kept (hq _ h11 h12)).moved hW.alike, Nat.lt_of_lt_of_le h11 hz, h12, fun w hw => nest_warm hw hW (h13 w hw), fun q hq => (h14 q hq).moved hW.alike⟩
theorem Kn.same {g : GG} {u U : State} {H : Heap} (hv : U.vm = u.vm) (h : Kn g u H) : Kn g U H := by
  have hal : u.vm.Alike U.vm := by rw [hv]; exact (State.WarmedH.refl u).alike
  obtain ⟨h1, h2, h3, h4, h5, h6, h7, h8, h9, h10, h11, h12, h13, h14⟩ := h
  exact ⟨h1.moved hal, h2.moved hal, fun i q hi => vk_R.same hv (h3 i q hi), ⟨h4.1.moved hal, h4.2.moved hal⟩, ⟨h5.1.moved hal, h5.2.1.moved hal, vk_R.same hv h5.2.2.1, h5.2.2.2.1.moved hal, h5.2.2.2.2.1.moved hal, h5.2.2.2.2.2.1.moved hal, h5.2.2.2.2.2.2.moved hal⟩, h6.moved hal, h7.moved hal, h8.moved hal, h9.moved hal, h10.moved hal, h11, h12, fun w hw => va_Nw.same (nest_tabs hw) hv.symm (h13 w hw), fun q hq => (h14 q hq).moved hal⟩
/-- the heap holds the cells ws, and what lay there before the start -/
def HR (g : GG) (ws : va_W) (H : Heap) : Prop := va_P (gD g) vwCl ws H ∧ va_D (gA g) ws ∧ gB g ≤ H.size
abbrev Rs : Type := Option Value ⊕ String
def qC (g : GG) (Q : Rs → va_W → Prop) : Array Value → State → Outcome → State → Prop := fun _ st o t => ∃ v ws, o = .returned v ∧ Q (.inl v) ws ∧ HR g ws t.heap ∧ va_F (gA g) st t
def xC (g : GG) (Q : Rs → va_W → Prop) : String → State → State → Prop := fun E st t => ∃ ws, Q (.inr E) ws ∧ HR g ws t.heap ∧ va_F (gA g) st t
/-- the word that names a method's code -/
def wM (M : MT) : Cond := match mH M with
  | [] => .code (mY M) (mC M) (mN M) (mR M)
  | h :: hs => .codeWith (mY M) (mC M) (mN M) (mR M) (h :: hs)
abbrev rmM (d a b : Nat) : Room := { frames := d, cells := a, slots := b, locals := 60 * d }
/-- the contract of the method M, of depth d, with a cells and b slots to make, called with argv in the world ws: Q of its end -/
def Ct (g : GG) (M : MT) (d a b : Nat) (argv : List Value) (ws : va_W) (Q : Rs → va_W → Prop) : Prop :=
  ∀ l : Launch, l.flags = flags0 → vx_Met l (mY M) (wM M :: gtbl) (rmM d a b) (va_Pc argv (fun U => HR g ws U.heap ∧ Kn g U U.heap)) (qC g Q) (xC g Q) a b (gA g)
def CX (g : GG) (M : MT) (d : Nat) (p : Program) (l : Launch) (Rm : Room) (s : State) (m : MethodId) (args : Array Value) (meth : Method) (c : Code) : Prop :=
  p.tables.exec = Jvm.exec ∧ c.code = mC M ∧ s.vm.findClass (mY M).cls = some m.cls ∧ (∀ w ∈ gtbl, w.before args s = true) ∧ meth.sig.returnType = mR M ∧ c.maxLocals = mN M ∧ meth.locks = false ∧
  (mH M ≠ [(0, 0, 0, 0)] → c.exceptionTable.toList = tableOf (mH M)) ∧ l.flags = flags0 ∧ d ≤ Rm.frames ∧ 60 * d ≤ Rm.locals ∧ meth.name = (mY M).name ∧ Kn g s s.heap ∧ gB g ≤ s.heap.size
/-- the method M stands at pc with locals ls, stack st, in the world ws, with a cells and b slots left to make, at depth d: it comes to an end of Q -/
def R (g : GG) (M : MT) (d a b : Nat) (pc : Nat) (ls : List (Nat × Value)) (st : List Value) (ws : va_W) (Q : Rs → va_W → Prop) : Prop :=
  ∀ (p : Program) (l : Launch) (e : Env) (Rm : Room) (s : State) (m : MethodId) (args : Array Value) (below : List Frame) (meth : Method) (c : Code) (H : Heap) (locs : List Loc) (cells slots : Nat) (la : Array Slot),
    CX g M d p l Rm s m args meth c → HR g ws H → va_S (gA g) s.heap H locs → lv_has la (mN M) ls → cells + a ≤ Rm.cells → slots + b ≤ Rm.slots →
    W p l e Rm s m args below meth c H locs cells slots (vx_MQ below (qC g Q) (xC g Q) args s Rm.cells Rm.slots (gA g)) (F0 m pc la st)
/-- the same with an exception of the class E thrown at pc -/
def RX (g : GG) (M : MT) (d a b : Nat) (pc : Nat) (ls : List (Nat × Value)) (E : String) (ws : va_W) (Q : Rs → va_W → Prop) : Prop :=
  ∀ (p : Program) (l : Launch) (e : Env) (Rm : Room) (s : State) (m : MethodId) (args : Array Value) (below : List Frame) (meth : Method) (c : Code) (H : Heap) (locs : List Loc) (cells slots : Nat) (la : Array Slot) (rest : List Value) (q : Addr) (ce : Cell),
    CX g M d p l Rm s m args meth c → HR g ws H → va_S (gA g) s.heap H locs → lv_has la (mN M) ls → cells + a ≤ Rm.cells → slots + b ≤ Rm.slots → H[q]? = some ce → ce.vm = .none → s.vm.findClass E = some ce.cls →
    vx_W p l e Rm s m args below meth c H locs cells slots (vx_MQ below (qC g Q) (xC g Q) args s Rm.cells Rm.slots (gA g)) (F0 m pc la rest) q
section RR
variable {g : GG} {M : MT} {d x y : Nat} {pc : Nat} {ls : List (Nat × Value)} {st : List Value} {ws : va_W} {Q : Rs → va_W → Prop}
theorem va_S.A {A : Nat → Prop} {H0 H : Heap} {locs : List Loc} (h : va_S A H0 H locs) : H0.size ≤ H.size := h.1
theorem r_iconst {n : Int} {v : Int32} (hd : decode (mC M) pc = .ok (.iconst n, 1)) (hv : Int32.ofInt n = v) (kk : R g M d x y (pc + 1) ls (.int v :: st) ws Q) : R g M d x y pc ls st ws Q := by
  intro p l e Rm s m args below meth c H locs cells slots la cx hr hs hl hc1 hc2
  exact lv_iconst cx.1 cx.2.1 hd hv (kk p l e Rm s m args below meth c H locs cells slots la cx hr hs hl hc1 hc2)
theorem r_bipush {n : Int} {v : Int32} (hd : decode (mC M) pc = .ok (.bipush n, 2)) (hv : (Int8.ofInt n).toInt32 = v) (kk : R g M d x y (pc + 2) ls (.int v :: st) ws Q) : R g M d x y pc ls st ws Q := by
  intro p l e Rm s m args below meth c H locs cells slots la cx hr hs hl hc1 hc2
  exact lv_bipush cx.1 cx.2.1 hd hv (kk p l e Rm s m args below meth c H locs cells slots la cx hr hs hl hc1 hc2)
theorem r_sipush {n : Int} {v : Int32} (hd : decode (mC M) pc = .ok (.sipush n, 3)) (hv : (Int16.ofInt n).toInt32 = v) (kk : R g M d x y (pc + 3) ls (.int v :: st) ws Q) : R g M d x y pc ls st ws Q := by
  intro p l e Rm s m args below meth c H locs cells slots la cx hr hs hl hc1 hc2
  exact lv_sipush cx.1 cx.2.1 hd hv (kk p l e Rm s m args below meth c H locs cells slots la cx hr hs hl hc1 hc2)
theorem r_lconst {n : Fin 2} {v : Int64} (hd : decode (mC M) pc = .ok (.lconst n, 1)) (hv : Int64.ofNat (n : Nat) = v) (kk : R g M d x y (pc + 1) ls (.long v :: st) ws Q) : R g M d x y pc ls st ws Q := by
  intro p l e Rm s m args below meth c H locs cells slots la cx hr hs hl hc1 hc2
  exact lv_lconst cx.1 cx.2.1 hd hv (kk p l e Rm s m args below meth c H locs cells slots la cx hr hs hl hc1 hc2)
theorem r_dconst0  (hd : decode (mC M) pc = .ok (.dconst 0, 1)) (kk : R g M d x y (pc + 1) ls (.double 0 :: st) ws Q) : R g M d x y pc ls st ws Q := by
  intro p l e Rm s m args below meth c H locs cells slots la cx hr hs hl hc1 hc2
  exact lv_dconst0 cx.1 cx.2.1 hd (kk p l e Rm s m args below meth c H locs cells slots la cx hr hs hl hc1 hc2)
theorem r_ldc {i : Nat} {v : Int32} (hd : decode (mC M) pc = .ok (.ldc i, 2)) (hw : Cond.constant (mY M).cls i v ∈ gtbl) (kk : R g M d x y (pc + 2) ls (.int v :: st) ws Q) : R g M d x y pc ls st ws Q := by
  intro p l e Rm s m args below meth c H locs cells slots la cx hr hs hl hc1 hc2
  exact lv_ldc cx.1 cx.2.1 cx.2.2.1 (cx.2.2.2.1 _ hw) hd (kk p l e Rm s m args below meth c H locs cells slots la cx hr hs hl hc1 hc2)
theorem r_ldcw {i : Nat} {v : Int32} (hd : decode (mC M) pc = .ok (.ldc_w i, 3)) (hw : Cond.constant (mY M).cls i v ∈ gtbl) (kk : R g M d x y (pc + 3) ls (.int v :: st) ws Q) : R g M d x y pc ls st ws Q := by
  intro p l e Rm s m args below meth c H locs cells slots la cx hr hs hl hc1 hc2
  exact lv_ldcw cx.1 cx.2.1 cx.2.2.1 (cx.2.2.2.1 _ hw) hd (kk p l e Rm s m args below meth c H locs cells slots la cx hr hs hl hc1 hc2)
theorem r_ldc2 {i : Nat} {v : Int64} (hd : decode (mC M) pc = .ok (.ldc2_w i, 3)) (hw : Cond.constantLong (mY M).cls i v ∈ gtbl) (kk : R g M d x y (pc + 3) ls (.long v :: st) ws Q) : R g M d x y pc ls st ws Q := by
  intro p l e Rm s m args below meth c H locs cells slots la cx hr hs hl hc1 hc2
  exact lv_ldc2 cx.1 cx.2.1 cx.2.2.1 (cx.2.2.2.1 _ hw) hd (kk p l e Rm s m args below meth c H locs cells slots la cx hr hs hl hc1 hc2)
theorem r_iload_n {k : Fin 4} {v : Int32} (j : Nat) (hd : decode (mC M) pc = .ok (.iload_n k, 1)) (hj : ls[j]? = some ((k : Nat), .int v)) (kk : R g M d x y (pc + 1) ls (.int v :: st) ws Q) : R g M d x y pc ls st ws Q := by
  intro p l e Rm s m args below meth c H locs cells slots la cx hr hs hl hc1 hc2
  exact lv_iload_n cx.1 cx.2.1 hd rfl (lv_at hl j hj) (kk p l e Rm s m args below meth c H locs cells slots la cx hr hs hl hc1 hc2)
theorem r_iload {k : Nat} {v : Int32} (j : Nat) (hd : decode (mC M) pc = .ok (.iload k, 2)) (hj : ls[j]? = some (k, .int v)) (kk : R g M d x y (pc + 2) ls (.int v :: st) ws Q) : R g M d x y pc ls st ws Q := by
  intro p l e Rm s m args below meth c H locs cells slots la cx hr hs hl hc1 hc2
  exact lv_iload cx.1 cx.2.1 hd (lv_at hl j hj) (kk p l e Rm s m args below meth c H locs cells slots la cx hr hs hl hc1 hc2)
theorem r_lload_n {k : Fin 4} {v : Int64} (j : Nat) (hd : decode (mC M) pc = .ok (.lload_n k, 1)) (hj : ls[j]? = some ((k : Nat), .long v)) (kk : R g M d x y (pc + 1) ls (.long v :: st) ws Q) : R g M d x y pc ls st ws Q := by
  intro p l e Rm s m args below meth c H locs cells slots la cx hr hs hl hc1 hc2
  exact lv_lload_n cx.1 cx.2.1 hd rfl (lv_at hl j hj) (kk p l e Rm s m args below meth c H locs cells slots la cx hr hs hl hc1 hc2)
theorem r_lload {k : Nat} {v : Int64} (j : Nat) (hd : decode (mC M) pc = .ok (.lload k, 2)) (hj : ls[j]? = some (k, .long v)) (kk : R g M d x y (pc + 2) ls (.long v :: st) ws Q) : R g M d x y pc ls st ws Q := by
  intro p l e Rm s m args below meth c H locs cells slots la cx hr hs hl hc1 hc2
  exact lv_lload cx.1 cx.2.1 hd (lv_at hl j hj) (kk p l e Rm s m args below meth c H locs cells slots la cx hr hs hl hc1 hc2)
theorem r_dload_n {k : Fin 4} {v : UInt64} (j : Nat) (hd : decode (mC M) pc = .ok (.dload_n k, 1)) (hj : ls[j]? = some ((k : Nat), .double v)) (kk : R g M d x y (pc + 1) ls (.double v :: st) ws Q) : R g M d x y pc ls st ws Q := by
  intro p l e Rm s m args below meth c H locs cells slots la cx hr hs hl hc1 hc2
  exact lv_dload_n cx.1 cx.2.1 hd rfl (lv_at hl j hj) (kk p l e Rm s m args below meth c H locs cells slots la cx hr hs hl hc1 hc2)
theorem r_dload {k : Nat} {v : UInt64} (j : Nat) (hd : decode (mC M) pc = .ok (.dload k, 2)) (hj : ls[j]? = some (k, .double v)) (kk : R g M d x y (pc + 2) ls (.double v :: st) ws Q) : R g M d x y pc ls st ws Q := by
  intro p l e Rm s m args below meth c H locs cells slots la cx hr hs hl hc1 hc2
  exact lv_dload cx.1 cx.2.1 hd (lv_at hl j hj) (kk p l e Rm s m args below meth c H locs cells slots la cx hr hs hl hc1 hc2)
theorem r_aload_n {k : Fin 4} {v : Nat} (j : Nat) (hd : decode (mC M) pc = .ok (.aload_n k, 1)) (hj : ls[j]? = some ((k : Nat), .ref v)) (kk : R g M d x y (pc + 1) ls (.ref v :: st) ws Q) : R g M d x y pc ls st ws Q := by
  intro p l e Rm s m args below meth c H locs cells slots la cx hr hs hl hc1 hc2
  exact lv_aload_n cx.1 cx.2.1 hd rfl (lv_at hl j hj) (kk p l e Rm s m args below meth c H locs cells slots la cx hr hs hl hc1 hc2)
theorem r_aload {k : Nat} {v : Nat} (j : Nat) (hd : decode (mC M) pc = .ok (.aload k, 2)) (hj : ls[j]? = some (k, .ref v)) (kk : R g M d x y (pc + 2) ls (.ref v :: st) ws Q) : R g M d x y pc ls st ws Q := by
  intro p l e Rm s m args below meth c H locs cells slots la cx hr hs hl hc1 hc2
  exact lv_aload cx.1 cx.2.1 hd (lv_at hl j hj) (kk p l e Rm s m args below meth c H locs cells slots la cx hr hs hl hc1 hc2)
theorem r_istore_n {k : Fin 4} {v : Int32} (ls2 : List (Nat × Value)) (hd : decode (mC M) pc = .ok (.istore_n k, 1)) (hn : (k : Nat) < mN M) (hl2 : ((k : Nat), Value.int v) :: ls.filter (fun q => !(q.1 == (k : Nat)) && !(q.1 + 1 == (k : Nat) && q.2.category == 2)) = ls2) (kk : R g M d x y (pc + 1) ls2 st ws Q) : R g M d x y pc ls (.int v :: st) ws Q := by
  intro p l e Rm s m args below meth c H locs cells slots la cx hr hs hl hc1 hc2
  exact lv_istore_n cx.1 cx.2.1 hd rfl hl hn hl2 (fun la hl => kk p l e Rm s m args below meth c H locs cells slots la cx hr hs hl hc1 hc2)
theorem r_istore {k : Nat} {v : Int32} (ls2 : List (Nat × Value)) (hd : decode (mC M) pc = .ok (.istore k, 2)) (hn : (k : Nat) < mN M) (hl2 : ((k : Nat), Value.int v) :: ls.filter (fun q => !(q.1 == (k : Nat)) && !(q.1 + 1 == (k : Nat) && q.2.category == 2)) = ls2) (kk : R g M d x y (pc + 2) ls2 st ws Q) : R g M d x y pc ls (.int v :: st) ws Q := by
  intro p l e Rm s m args below meth c H locs cells slots la cx hr hs hl hc1 hc2
  exact lv_istore cx.1 cx.2.1 hd hl hn hl2 (fun la hl => kk p l e Rm s m args below meth c H locs cells slots la cx hr hs hl hc1 hc2)
theorem r_lstore_n {k : Fin 4} {v : Int64} (ls2 : List (Nat × Value)) (hd : decode (mC M) pc = .ok (.lstore_n k, 1)) (hn : (k : Nat) + 1 < mN M) (hl2 : ((k : Nat), Value.long v) :: ls.filter (fun q => !(q.1 == (k : Nat)) && (!(q.1 == (k : Nat) + 1) && !(q.1 + 1 == (k : Nat) && q.2.category == 2))) = ls2) (kk : R g M d x y (pc + 1) ls2 st ws Q) : R g M d x y pc ls (.long v :: st) ws Q := by
  intro p l e Rm s m args below meth c H locs cells slots la cx hr hs hl hc1 hc2
  exact lv_lstore_n cx.1 cx.2.1 hd rfl hl hn hl2 (fun la hl => kk p l e Rm s m args below meth c H locs cells slots la cx hr hs hl hc1 hc2)
theorem r_lstore {k : Nat} {v : Int64} (ls2 : List (Nat × Value)) (hd : decode (mC M) pc = .ok (.lstore k, 2)) (hn : (k : Nat) + 1 < mN M) (hl2 : ((k : Nat), Value.long v) :: ls.filter (fun q => !(q.1 == (k : Nat)) && (!(q.1 == (k : Nat) + 1) && !(q.1 + 1 == (k : Nat) && q.2.category == 2))) = ls2) (kk : R g M d x y (pc + 2) ls2 st ws Q) : R g M d x y pc ls (.long v :: st) ws Q := by
  intro p l e Rm s m args below meth c H locs cells slots la cx hr hs hl hc1 hc2
  exact lv_lstore cx.1 cx.2.1 hd hl hn hl2 (fun la hl => kk p l e Rm s m args below meth c H locs cells slots la cx hr hs hl hc1 hc2)
theorem r_dstore_n {k : Fin 4} {v : UInt64} (ls2 : List (Nat × Value)) (hd : decode (mC M) pc = .ok (.dstore_n k, 1)) (hn : (k : Nat) + 1 < mN M) (hl2 : ((k : Nat), Value.double v) :: ls.filter (fun q => !(q.1 == (k : Nat)) && (!(q.1 == (k : Nat) + 1) && !(q.1 + 1 == (k : Nat) && q.2.category == 2))) = ls2) (kk : R g M d x y (pc + 1) ls2 st ws Q) : R g M d x y pc ls (.double v :: st) ws Q := by
  intro p l e Rm s m args below meth c H locs cells slots la cx hr hs hl hc1 hc2
  exact lv_dstore_n cx.1 cx.2.1 hd rfl hl hn hl2 (fun la hl => kk p l e Rm s m args below meth c H locs cells slots la cx hr hs hl hc1 hc2)
theorem r_dstore {k : Nat} {v : UInt64} (ls2 : List (Nat × Value)) (hd : decode (mC M) pc = .ok (.dstore k, 2)) (hn : (k : Nat) + 1 < mN M) (hl2 : ((k : Nat), Value.double v) :: ls.filter (fun q => !(q.1 == (k : Nat)) && (!(q.1 == (k : Nat) + 1) && !(q.1 + 1 == (k : Nat) && q.2.category == 2))) = ls2) (kk : R g M d x y (pc + 2) ls2 st ws Q) : R g M d x y pc ls (.double v :: st) ws Q := by
  intro p l e Rm s m args below meth c H locs cells slots la cx hr hs hl hc1 hc2
  exact lv_dstore cx.1 cx.2.1 hd hl hn hl2 (fun la hl => kk p l e Rm s m args below meth c H locs cells slots la cx hr hs hl hc1 hc2)
theorem r_astore_n {k : Fin 4} {v : Nat} (ls2 : List (Nat × Value)) (hd : decode (mC M) pc = .ok (.astore_n k, 1)) (hn : (k : Nat) < mN M) (hl2 : ((k : Nat), Value.ref v) :: ls.filter (fun q => !(q.1 == (k : Nat)) && !(q.1 + 1 == (k : Nat) && q.2.category == 2)) = ls2) (kk : R g M d x y (pc + 1) ls2 st ws Q) : R g M d x y pc ls (.ref v :: st) ws Q := by
  intro p l e Rm s m args below meth c H locs cells slots la cx hr hs hl hc1 hc2
  exact lv_astore_n cx.1 cx.2.1 hd rfl hl hn hl2 (fun la hl => kk p l e Rm s m args below meth c H locs cells slots la cx hr hs hl hc1 hc2)
theorem r_astore {k : Nat} {v : Nat} (ls2 : List (Nat × Value)) (hd : decode (mC M) pc = .ok (.astore k, 2)) (hn : (k : Nat) < mN M) (hl2 : ((k : Nat), Value.ref v) :: ls.filter (fun q => !(q.1 == (k : Nat)) && !(q.1 + 1 == (k : Nat) && q.2.category == 2)) = ls2) (kk : R g M d x y (pc + 2) ls2 st ws Q) : R g M d x y pc ls (.ref v :: st) ws Q := by
  intro p l e Rm s m args below meth c H locs cells slots la cx hr hs hl hc1 hc2
  exact lv_astore cx.1 cx.2.1 hd hl hn hl2 (fun la hl => kk p l e Rm s m args below meth c H locs cells slots la cx hr hs hl hc1 hc2)
theorem r_iinc {i : Nat} {n : Int} {v v2 : Int32} (j : Nat) (ls2 : List (Nat × Value)) (hd : decode (mC M) pc = .ok (.iinc i n, 3)) (hj : ls[j]? = some (i, .int v)) (hv : v + Int32.ofInt n = v2) (hn : i < mN M) (hl2 : (i, Value.int v2) :: ls.filter (fun q => !(q.1 == i) && !(q.1 + 1 == i && q.2.category == 2)) = ls2) (kk : R g M d x y (pc + 3) ls2 st ws Q) : R g M d x y pc ls st ws Q := by
  intro p l e Rm s m args below meth c H locs cells slots la cx hr hs hl hc1 hc2
  exact lv_iinc cx.1 cx.2.1 hd hl hj hv hn hl2 (fun la hl => kk p l e Rm s m args below meth c H locs cells slots la cx hr hs hl hc1 hc2)
theorem r_iadd {a b : Int32} (hd : decode (mC M) pc = .ok (.iadd, 1)) (kk : R g M d x y (pc + 1) ls (.int (a + b) :: st) ws Q) : R g M d x y pc ls (.int b :: .int a :: st) ws Q := by
  intro p l e Rm s m args below meth c H locs cells slots la cx hr hs hl hc1 hc2
  exact lv_iadd cx.1 cx.2.1 hd (kk p l e Rm s m args below meth c H locs cells slots la cx hr hs hl hc1 hc2)
theorem r_isub {a b : Int32} (hd : decode (mC M) pc = .ok (.isub, 1)) (kk : R g M d x y (pc + 1) ls (.int (a - b) :: st) ws Q) : R g M d x y pc ls (.int b :: .int a :: st) ws Q := by
  intro p l e Rm s m args below meth c H locs cells slots la cx hr hs hl hc1 hc2
  exact lv_isub cx.1 cx.2.1 hd (kk p l e Rm s m args below meth c H locs cells slots la cx hr hs hl hc1 hc2)
theorem r_imul {a b : Int32} (hd : decode (mC M) pc = .ok (.imul, 1)) (kk : R g M d x y (pc + 1) ls (.int (a * b) :: st) ws Q) : R g M d x y pc ls (.int b :: .int a :: st) ws Q := by
  intro p l e Rm s m args below meth c H locs cells slots la cx hr hs hl hc1 hc2
  exact lv_imul cx.1 cx.2.1 hd (kk p l e Rm s m args below meth c H locs cells slots la cx hr hs hl hc1 hc2)
theorem r_iand {a b : Int32} (hd : decode (mC M) pc = .ok (.iand, 1)) (kk : R g M d x y (pc + 1) ls (.int (a &&& b) :: st) ws Q) : R g M d x y pc ls (.int b :: .int a :: st) ws Q := by
  intro p l e Rm s m args below meth c H locs cells slots la cx hr hs hl hc1 hc2
  exact lv_iand cx.1 cx.2.1 hd (kk p l e Rm s m args below meth c H locs cells slots la cx hr hs hl hc1 hc2)
theorem r_ior {a b : Int32} (hd : decode (mC M) pc = .ok (.ior, 1)) (kk : R g M d x y (pc + 1) ls (.int (a ||| b) :: st) ws Q) : R g M d x y pc ls (.int b :: .int a :: st) ws Q := by
  intro p l e Rm s m args below meth c H locs cells slots la cx hr hs hl hc1 hc2
  exact lv_ior cx.1 cx.2.1 hd (kk p l e Rm s m args below meth c H locs cells slots la cx hr hs hl hc1 hc2)
theorem r_ixor {a b : Int32} (hd : decode (mC M) pc = .ok (.ixor, 1)) (kk : R g M d x y (pc + 1) ls (.int (a ^^^ b) :: st) ws Q) : R g M d x y pc ls (.int b :: .int a :: st) ws Q := by
  intro p l e Rm s m args below meth c H locs cells slots la cx hr hs hl hc1 hc2
  exact lv_ixor cx.1 cx.2.1 hd (kk p l e Rm s m args below meth c H locs cells slots la cx hr hs hl hc1 hc2)
theorem r_ladd {a b : Int64} (hd : decode (mC M) pc = .ok (.ladd, 1)) (kk : R g M d x y (pc + 1) ls (.long (a + b) :: st) ws Q) : R g M d x y pc ls (.long b :: .long a :: st) ws Q := by
  intro p l e Rm s m args below meth c H locs cells slots la cx hr hs hl hc1 hc2
  exact lv_ladd cx.1 cx.2.1 hd (kk p l e Rm s m args below meth c H locs cells slots la cx hr hs hl hc1 hc2)
theorem r_lmul {a b : Int64} (hd : decode (mC M) pc = .ok (.lmul, 1)) (kk : R g M d x y (pc + 1) ls (.long (a * b) :: st) ws Q) : R g M d x y pc ls (.long b :: .long a :: st) ws Q := by
  intro p l e Rm s m args below meth c H locs cells slots la cx hr hs hl hc1 hc2
  exact lv_lmul cx.1 cx.2.1 hd (kk p l e Rm s m args below meth c H locs cells slots la cx hr hs hl hc1 hc2)
theorem r_idiv {a b : Int32} (hd : decode (mC M) pc = .ok (.idiv, 1)) (hb : ¬ b = 0) (kk : R g M d x y (pc + 1) ls (.int (a / b) :: st) ws Q) : R g M d x y pc ls (.int b :: .int a :: st) ws Q := by
  intro p l e Rm s m args below meth c H locs cells slots la cx hr hs hl hc1 hc2
  exact lv_idiv cx.1 cx.2.1 hd hb (kk p l e Rm s m args below meth c H locs cells slots la cx hr hs hl hc1 hc2)
theorem r_irem {a b : Int32} (hd : decode (mC M) pc = .ok (.irem, 1)) (hb : ¬ b = 0) (kk : R g M d x y (pc + 1) ls (.int (a - a / b * b) :: st) ws Q) : R g M d x y pc ls (.int b :: .int a :: st) ws Q := by
  intro p l e Rm s m args below meth c H locs cells slots la cx hr hs hl hc1 hc2
  exact lv_irem cx.1 cx.2.1 hd hb (kk p l e Rm s m args below meth c H locs cells slots la cx hr hs hl hc1 hc2)
theorem r_ineg {a : Int32} (hd : decode (mC M) pc = .ok (.ineg, 1)) (kk : R g M d x y (pc + 1) ls (.int (-a) :: st) ws Q) : R g M d x y pc ls (.int a :: st) ws Q := by
  intro p l e Rm s m args below meth c H locs cells slots la cx hr hs hl hc1 hc2
  exact lv_ineg cx.1 cx.2.1 hd (kk p l e Rm s m args below meth c H locs cells slots la cx hr hs hl hc1 hc2)
theorem r_ishl {a b : Int32} (hd : decode (mC M) pc = .ok (.ishl, 1)) (kk : R g M d x y (pc + 1) ls (.int (a <<< (b &&& 31)) :: st) ws Q) : R g M d x y pc ls (.int b :: .int a :: st) ws Q := by
  intro p l e Rm s m args below meth c H locs cells slots la cx hr hs hl hc1 hc2
  exact lv_ishl cx.1 cx.2.1 hd (kk p l e Rm s m args below meth c H locs cells slots la cx hr hs hl hc1 hc2)
theorem r_ishr {a b : Int32} (hd : decode (mC M) pc = .ok (.ishr, 1)) (kk : R g M d x y (pc + 1) ls (.int (a >>> (b &&& 31)) :: st) ws Q) : R g M d x y pc ls (.int b :: .int a :: st) ws Q := by
  intro p l e Rm s m args below meth c H locs cells slots la cx hr hs hl hc1 hc2
  exact lv_ishr cx.1 cx.2.1 hd (kk p l e Rm s m args below meth c H locs cells slots la cx hr hs hl hc1 hc2)
theorem r_iushr {a b : Int32} (hd : decode (mC M) pc = .ok (.iushr, 1)) (kk : R g M d x y (pc + 1) ls (.int (a.toUInt32 >>> (b.toUInt32 &&& Int32.toUInt32 31)).toInt32 :: st) ws Q) : R g M d x y pc ls (.int b :: .int a :: st) ws Q := by
  intro p l e Rm s m args below meth c H locs cells slots la cx hr hs hl hc1 hc2
  exact lv_iushr cx.1 cx.2.1 hd rfl (kk p l e Rm s m args below meth c H locs cells slots la cx hr hs hl hc1 hc2)
theorem r_i2l {a : Int32} (hd : decode (mC M) pc = .ok (.i2l, 1)) (kk : R g M d x y (pc + 1) ls (.long a.toInt64 :: st) ws Q) : R g M d x y pc ls (.int a :: st) ws Q := by
  intro p l e Rm s m args below meth c H locs cells slots la cx hr hs hl hc1 hc2
  exact lv_i2l cx.1 cx.2.1 hd rfl (kk p l e Rm s m args below meth c H locs cells slots la cx hr hs hl hc1 hc2)
theorem r_l2i {a : Int64} (hd : decode (mC M) pc = .ok (.l2i, 1)) (kk : R g M d x y (pc + 1) ls (.int a.toInt32 :: st) ws Q) : R g M d x y pc ls (.long a :: st) ws Q := by
  intro p l e Rm s m args below meth c H locs cells slots la cx hr hs hl hc1 hc2
  exact lv_l2i cx.1 cx.2.1 hd rfl (kk p l e Rm s m args below meth c H locs cells slots la cx hr hs hl hc1 hc2)
theorem r_i2c {a : Int32} (hd : decode (mC M) pc = .ok (.i2c, 1)) (kk : R g M d x y (pc + 1) ls (.int (a.toUInt32 % 65536).toInt32 :: st) ws Q) : R g M d x y pc ls (.int a :: st) ws Q := by
  intro p l e Rm s m args below meth c H locs cells slots la cx hr hs hl hc1 hc2
  exact lv_i2c cx.1 cx.2.1 hd rfl (kk p l e Rm s m args below meth c H locs cells slots la cx hr hs hl hc1 hc2)
theorem r_i2b {a : Int32} (hd : decode (mC M) pc = .ok (.i2b, 1)) (kk : R g M d x y (pc + 1) ls (.int a.toInt8.toInt32 :: st) ws Q) : R g M d x y pc ls (.int a :: st) ws Q := by
  intro p l e Rm s m args below meth c H locs cells slots la cx hr hs hl hc1 hc2
  exact lv_i2b cx.1 cx.2.1 hd rfl (kk p l e Rm s m args below meth c H locs cells slots la cx hr hs hl hc1 hc2)
theorem r_i2d {a : Int32} (hd : decode (mC M) pc = .ok (.i2d, 1)) (kk : R g M d x y (pc + 1) ls (.double (FP.i2d a) :: st) ws Q) : R g M d x y pc ls (.int a :: st) ws Q := by
  intro p l e Rm s m args below meth c H locs cells slots la cx hr hs hl hc1 hc2
  exact lv_i2d cx.1 cx.2.1 hd (kk p l e Rm s m args below meth c H locs cells slots la cx hr hs hl hc1 hc2)
theorem r_ddiv {a b : UInt64} (hd : decode (mC M) pc = .ok (.ddiv, 1)) (hb : vf_n64 (FP.ddiv a b)) (kk : R g M d x y (pc + 1) ls (.double (FP.ddiv a b) :: st) ws Q) : R g M d x y pc ls (.double b :: .double a :: st) ws Q := by
  intro p l e Rm s m args below meth c H locs cells slots la cx hr hs hl hc1 hc2
  exact lv_ddiv cx.1 cx.2.1 hd hb (kk p l e Rm s m args below meth c H locs cells slots la cx hr hs hl hc1 hc2)
theorem r_dcmp {a b : UInt64} {op : CmpOp} (hd : decode (mC M) pc = .ok (.dcmp op, 1)) (kk : R g M d x y (pc + 1) ls (.int (Op.cmpValue (FP.dcmp a b) op) :: st) ws Q) : R g M d x y pc ls (.double b :: .double a :: st) ws Q := by
  intro p l e Rm s m args below meth c H locs cells slots la cx hr hs hl hc1 hc2
  exact lv_dcmp cx.1 cx.2.1 hd (kk p l e Rm s m args below meth c H locs cells slots la cx hr hs hl hc1 hc2)
theorem r_dup {v : Value} (hd : decode (mC M) pc = .ok (.dup, 1)) (hv : v.category = 1) (kk : R g M d x y (pc + 1) ls (v :: v :: st) ws Q) : R g M d x y pc ls (v :: st) ws Q := by
  intro p l e Rm s m args below meth c H locs cells slots la cx hr hs hl hc1 hc2
  exact lv_dup cx.1 cx.2.1 hd hv (kk p l e Rm s m args below meth c H locs cells slots la cx hr hs hl hc1 hc2)
theorem r_dup2 {v u : Value} (hd : decode (mC M) pc = .ok (.dup2, 1)) (hv : v.category = 1) (hu : u.category = 1) (kk : R g M d x y (pc + 1) ls (v :: u :: v :: u :: st) ws Q) : R g M d x y pc ls (v :: u :: st) ws Q := by
  intro p l e Rm s m args below meth c H locs cells slots la cx hr hs hl hc1 hc2
  exact lv_dup2_11 cx.1 cx.2.1 hd hv hu (kk p l e Rm s m args below meth c H locs cells slots la cx hr hs hl hc1 hc2)
theorem r_pop {v : Value} (hd : decode (mC M) pc = .ok (.pop, 1)) (hv : v.category = 1) (kk : R g M d x y (pc + 1) ls st ws Q) : R g M d x y pc ls (v :: st) ws Q := by
  intro p l e Rm s m args below meth c H locs cells slots la cx hr hs hl hc1 hc2
  exact lv_pop cx.1 cx.2.1 hd hv (kk p l e Rm s m args below meth c H locs cells slots la cx hr hs hl hc1 hc2)
theorem r_goto {off : Int} {tgt : Nat} (hd : decode (mC M) pc = .ok (.goto off, 3)) (ht : (pc : Int) + off = (tgt : Int)) (kk : R g M d x y tgt ls st ws Q) : R g M d x y pc ls st ws Q := by
  intro p l e Rm s m args below meth c H locs cells slots la cx hr hs hl hc1 hc2
  exact lv_goto cx.1 cx.2.1 hd ht (kk p l e Rm s m args below meth c H locs cells slots la cx hr hs hl hc1 hc2)
theorem r_if_eq {a : Int32} {off : Int} {tgt : Nat} (hd : decode (mC M) pc = .ok (.ifCond .eq off, 3)) (ht : (pc : Int) + off = (tgt : Int)) (kt : a = 0 → R g M d x y tgt ls st ws Q) (kf : ¬ a = 0 → R g M d x y (pc + 3) ls st ws Q) : R g M d x y pc ls (.int a :: st) ws Q := by
  intro p l e Rm s m args below meth c H locs cells slots la cx hr hs hl hc1 hc2
  exact lv_if_eq cx.1 cx.2.1 hd ht (fun h => kt h p l e Rm s m args below meth c H locs cells slots la cx hr hs hl hc1 hc2) (fun h => kf h p l e Rm s m args below meth c H locs cells slots la cx hr hs hl hc1 hc2)
theorem r_icmp_eq {a b : Int32} {off : Int} {tgt : Nat} (hd : decode (mC M) pc = .ok (.if_icmp .eq off, 3)) (ht : (pc : Int) + off = (tgt : Int)) (kt : a = b → R g M d x y tgt ls st ws Q) (kf : ¬ a = b → R g M d x y (pc + 3) ls st ws Q) : R g M d x y pc ls (.int b :: .int a :: st) ws Q := by
  intro p l e Rm s m args below meth c H locs cells slots la cx hr hs hl hc1 hc2
  exact lv_icmp_eq cx.1 cx.2.1 hd ht (fun h => kt h p l e Rm s m args below meth c H locs cells slots la cx hr hs hl hc1 hc2) (fun h => kf h p l e Rm s m args below meth c H locs cells slots la cx hr hs hl hc1 hc2)
theorem r_if_ne {a : Int32} {off : Int} {tgt : Nat} (hd : decode (mC M) pc = .ok (.ifCond .ne off, 3)) (ht : (pc : Int) + off = (tgt : Int)) (kt : ¬ a = 0 → R g M d x y tgt ls st ws Q) (kf : a = 0 → R g M d x y (pc + 3) ls st ws Q) : R g M d x y pc ls (.int a :: st) ws Q := by
  intro p l e Rm s m args below meth c H locs cells slots la cx hr hs hl hc1 hc2
  exact lv_if_ne cx.1 cx.2.1 hd ht (fun h => kt h p l e Rm s m args below meth c H locs cells slots la cx hr hs hl hc1 hc2) (fun h => kf h p l e Rm s m args below meth c H locs cells slots la cx hr hs hl hc1 hc2)
theorem r_icmp_ne {a b : Int32} {off : Int} {tgt : Nat} (hd : decode (mC M) pc = .ok (.if_icmp .ne off, 3)) (ht : (pc : Int) + off = (tgt : Int)) (kt : ¬ a = b → R g M d x y tgt ls st ws Q) (kf : a = b → R g M d x y (pc + 3) ls st ws Q) : R g M d x y pc ls (.int b :: .int a :: st) ws Q := by
  intro p l e Rm s m args below meth c H locs cells slots la cx hr hs hl hc1 hc2
  exact lv_icmp_ne cx.1 cx.2.1 hd ht (fun h => kt h p l e Rm s m args below meth c H locs cells slots la cx hr hs hl hc1 hc2) (fun h => kf h p l e Rm s m args below meth c H locs cells slots la cx hr hs hl hc1 hc2)
theorem r_if_lt {a : Int32} {off : Int} {tgt : Nat} (hd : decode (mC M) pc = .ok (.ifCond .lt off, 3)) (ht : (pc : Int) + off = (tgt : Int)) (kt : a < 0 → R g M d x y tgt ls st ws Q) (kf : ¬ a < 0 → R g M d x y (pc + 3) ls st ws Q) : R g M d x y pc ls (.int a :: st) ws Q := by
  intro p l e Rm s m args below meth c H locs cells slots la cx hr hs hl hc1 hc2
  exact lv_if_lt cx.1 cx.2.1 hd ht (fun h => kt h p l e Rm s m args below meth c H locs cells slots la cx hr hs hl hc1 hc2) (fun h => kf h p l e Rm s m args below meth c H locs cells slots la cx hr hs hl hc1 hc2)
theorem r_icmp_lt {a b : Int32} {off : Int} {tgt : Nat} (hd : decode (mC M) pc = .ok (.if_icmp .lt off, 3)) (ht : (pc : Int) + off = (tgt : Int)) (kt : a < b → R g M d x y tgt ls st ws Q) (kf : ¬ a < b → R g M d x y (pc + 3) ls st ws Q) : R g M d x y pc ls (.int b :: .int a :: st) ws Q := by
  intro p l e Rm s m args below meth c H locs cells slots la cx hr hs hl hc1 hc2
  exact lv_icmp_lt cx.1 cx.2.1 hd ht (fun h => kt h p l e Rm s m args below meth c H locs cells slots la cx hr hs hl hc1 hc2) (fun h => kf h p l e Rm s m args below meth c H locs cells slots la cx hr hs hl hc1 hc2)
theorem r_if_ge {a : Int32} {off : Int} {tgt : Nat} (hd : decode (mC M) pc = .ok (.ifCond .ge off, 3)) (ht : (pc : Int) + off = (tgt : Int)) (kt : 0 ≤ a → R g M d x y tgt ls st ws Q) (kf : ¬ 0 ≤ a → R g M d x y (pc + 3) ls st ws Q) : R g M d x y pc ls (.int a :: st) ws Q := by
  intro p l e Rm s m args below meth c H locs cells slots la cx hr hs hl hc1 hc2
  exact lv_if_ge cx.1 cx.2.1 hd ht (fun h => kt h p l e Rm s m args below meth c H locs cells slots la cx hr hs hl hc1 hc2) (fun h => kf h p l e Rm s m args below meth c H locs cells slots la cx hr hs hl hc1 hc2)
theorem r_icmp_ge {a b : Int32} {off : Int} {tgt : Nat} (hd : decode (mC M) pc = .ok (.if_icmp .ge off, 3)) (ht : (pc : Int) + off = (tgt : Int)) (kt : b ≤ a → R g M d x y tgt ls st ws Q) (kf : ¬ b ≤ a → R g M d x y (pc + 3) ls st ws Q) : R g M d x y pc ls (.int b :: .int a :: st) ws Q := by
  intro p l e Rm s m args below meth c H locs cells slots la cx hr hs hl hc1 hc2
  exact lv_icmp_ge cx.1 cx.2.1 hd ht (fun h => kt h p l e Rm s m args below meth c H locs cells slots la cx hr hs hl hc1 hc2) (fun h => kf h p l e Rm s m args below meth c H locs cells slots la cx hr hs hl hc1 hc2)
theorem r_if_gt {a : Int32} {off : Int} {tgt : Nat} (hd : decode (mC M) pc = .ok (.ifCond .gt off, 3)) (ht : (pc : Int) + off = (tgt : Int)) (kt : 0 < a → R g M d x y tgt ls st ws Q) (kf : ¬ 0 < a → R g M d x y (pc + 3) ls st ws Q) : R g M d x y pc ls (.int a :: st) ws Q := by
  intro p l e Rm s m args below meth c H locs cells slots la cx hr hs hl hc1 hc2
  exact lv_if_gt cx.1 cx.2.1 hd ht (fun h => kt h p l e Rm s m args below meth c H locs cells slots la cx hr hs hl hc1 hc2) (fun h => kf h p l e Rm s m args below meth c H locs cells slots la cx hr hs hl hc1 hc2)
theorem r_icmp_gt {a b : Int32} {off : Int} {tgt : Nat} (hd : decode (mC M) pc = .ok (.if_icmp .gt off, 3)) (ht : (pc : Int) + off = (tgt : Int)) (kt : b < a → R g M d x y tgt ls st ws Q) (kf : ¬ b < a → R g M d x y (pc + 3) ls st ws Q) : R g M d x y pc ls (.int b :: .int a :: st) ws Q := by
  intro p l e Rm s m args below meth c H locs cells slots la cx hr hs hl hc1 hc2
  exact lv_icmp_gt cx.1 cx.2.1 hd ht (fun h => kt h p l e Rm s m args below meth c H locs cells slots la cx hr hs hl hc1 hc2) (fun h => kf h p l e Rm s m args below meth c H locs cells slots la cx hr hs hl hc1 hc2)
theorem r_if_le {a : Int32} {off : Int} {tgt : Nat} (hd : decode (mC M) pc = .ok (.ifCond .le off, 3)) (ht : (pc : Int) + off = (tgt : Int)) (kt : a ≤ 0 → R g M d x y tgt ls st ws Q) (kf : ¬ a ≤ 0 → R g M d x y (pc + 3) ls st ws Q) : R g M d x y pc ls (.int a :: st) ws Q := by
  intro p l e Rm s m args below meth c H locs cells slots la cx hr hs hl hc1 hc2
  exact lv_if_le cx.1 cx.2.1 hd ht (fun h => kt h p l e Rm s m args below meth c H locs cells slots la cx hr hs hl hc1 hc2) (fun h => kf h p l e Rm s m args below meth c H locs cells slots la cx hr hs hl hc1 hc2)
theorem r_icmp_le {a b : Int32} {off : Int} {tgt : Nat} (hd : decode (mC M) pc = .ok (.if_icmp .le off, 3)) (ht : (pc : Int) + off = (tgt : Int)) (kt : a ≤ b → R g M d x y tgt ls st ws Q) (kf : ¬ a ≤ b → R g M d x y (pc + 3) ls st ws Q) : R g M d x y pc ls (.int b :: .int a :: st) ws Q := by
  intro p l e Rm s m args below meth c H locs cells slots la cx hr hs hl hc1 hc2
  exact lv_icmp_le cx.1 cx.2.1 hd ht (fun h => kt h p l e Rm s m args below meth c H locs cells slots la cx hr hs hl hc1 hc2) (fun h => kf h p l e Rm s m args below meth c H locs cells slots la cx hr hs hl hc1 hc2)
theorem r_tableIn {dflt lo hi : Int} {offs : Array Int} {len : Nat} {a : Int32} {off : Int} {tgt : Nat} (hd : decode (mC M) pc = .ok (.tableswitch dflt lo hi offs, len)) (h1 : ¬ a.toInt < lo) (h2 : ¬ hi < a.toInt) (ho : offs[(a.toInt - lo).toNat]? = some off) (ht : (pc : Int) + off = (tgt : Int)) (kk : R g M d x y tgt ls st ws Q) : R g M d x y pc ls (.int a :: st) ws Q := by
  intro p l e Rm s m args below meth c H locs cells slots la cx hr hs hl hc1 hc2
  exact lv_tableIn cx.1 cx.2.1 hd h1 h2 ho ht (kk p l e Rm s m args below meth c H locs cells slots la cx hr hs hl hc1 hc2)
theorem r_tableOut {dflt lo hi : Int} {offs : Array Int} {len : Nat} {a : Int32} {tgt : Nat} (hd : decode (mC M) pc = .ok (.tableswitch dflt lo hi offs, len)) (h : a.toInt < lo ∨ hi < a.toInt) (ht : (pc : Int) + dflt = (tgt : Int)) (kk : R g M d x y tgt ls st ws Q) : R g M d x y pc ls (.int a :: st) ws Q := by
  intro p l e Rm s m args below meth c H locs cells slots la cx hr hs hl hc1 hc2
  exact lv_tableOut cx.1 cx.2.1 hd h ht (kk p l e Rm s m args below meth c H locs cells slots la cx hr hs hl hc1 hc2)
theorem r_lookup {dflt : Int} {ps : Array (Int × Int)} {len : Nat} {a : Int32} {off : Int} {tgt : Nat} (hd : decode (mC M) pc = .ok (.lookupswitch dflt ps, len)) (hp : (ps.toList.zip (ps.toList.drop 1)).all (fun (a, next) => a.1 < next.1) = true) (ho : Op.lookupswitch.offset ps.toList dflt a.toInt = off) (ht : (pc : Int) + off = (tgt : Int)) (kk : R g M d x y tgt ls st ws Q) : R g M d x y pc ls (.int a :: st) ws Q := by
  intro p l e Rm s m args below meth c H locs cells slots la cx hr hs hl hc1 hc2
  exact lv_lookup cx.1 cx.2.1 hd hp ho ht (kk p l e Rm s m args below meth c H locs cells slots la cx hr hs hl hc1 hc2)
theorem r_lcmp {a b : Int64} (hd : decode (mC M) pc = .ok (.lcmp, 1)) (kk : R g M d x y (pc + 1) ls (.int (lg_cmp a b) :: st) ws Q) : R g M d x y pc ls (.long b :: .long a :: st) ws Q := by
  intro p l e Rm s m args below meth c H locs cells slots la cx hr hs hl hc1 hc2
  exact W.lcmp cx.1 cx.2.1 hd (kk p l e Rm s m args below meth c H locs cells slots la cx hr hs hl hc1 hc2)
/-- fewer locals, in another order -/
theorem r_ls (ks : List Nat) {ls2 : List (Nat × Value)} (h : lv_pick ls ks = ls2) (kk : R g M d x y pc ls2 st ws Q) : R g M d x y pc ls st ws Q := by
  intro p l e Rm s m args below meth c H locs cells slots la cx hr hs hl hc1 hc2
  exact kk p l e Rm s m args below meth c H locs cells slots la cx hr hs (lv_sub hl ks h) hc1 hc2
theorem r_room {x2 y2 : Nat} (h1 : x2 ≤ x) (h2 : y2 ≤ y) (kk : R g M d x2 y2 pc ls st ws Q) : R g M d x y pc ls st ws Q := by
  intro p l e Rm s m args below meth c H locs cells slots la cx hr hs hl hc1 hc2
  exact kk p l e Rm s m args below meth c H locs cells slots la cx hr hs hl (by omega) (by omega)
theorem nd_of {A : Nat → Prop} {ws : va_W} (h : va_D A ws) : (ws.map Prod.fst).Nodup := by
  refine List.pairwise_iff_getElem.mpr fun i j hi hj hij he => ?_
  simp only [List.length_map] at hi hj
  simp only [List.getElem_map] at he
  have := h.1 i j _ _ (List.getElem?_eq_getElem hi) (List.getElem?_eq_getElem hj) he
  omega
theorem of_nd {ws : va_W} (h : (ws.map Prod.fst).Nodup) (i j : Nat) (p q : Nat × va_E) (hi : ws[i]? = some p) (hj : ws[j]? = some q) (he : p.1 = q.1) : i = j := by
  obtain ⟨h1, e1⟩ := List.getElem?_eq_some_iff.mp hi
  obtain ⟨h2, e2⟩ := List.getElem?_eq_some_iff.mp hj
  have hp := List.pairwise_iff_getElem.mp h
  rcases Nat.lt_trichotomy i j with hij | hij | hij
  · exact (hp i j (by simpa using h1) (by simpa using h2) hij (by rw [List.getElem_map, List.getElem_map, e1, e2]; exact he)).elim
  · exact hij
  · exact (hp j i (by simpa using h2) (by simpa using h1) hij (by rw [List.getElem_map, List.getElem_map, e1, e2]; exact he.symm)).elim
theorem HR.perm {ws ws2 : va_W} {H : Heap} (h : HR g ws H) (hp : ws2.Perm ws) : HR g ws2 H := by
  obtain ⟨h1, h2, h3⟩ := h
  have key : ∀ (k : Nat) (q : Nat × va_E), ws2[k]? = some q → ∃ j : Nat, ws[j]? = some q := fun k q hk => List.getElem?_of_mem (hp.mem_iff.mp (List.mem_of_getElem? hk))
  refine ⟨fun k q hk => ?_, ⟨of_nd ((hp.map Prod.fst).nodup_iff.mpr (nd_of h2)), fun k q hk => ?_⟩, h3⟩
  · obtain ⟨j, hj⟩ := key k q hk
    exact h1 j q hj
  · obtain ⟨j, hj⟩ := key k q hk
    exact h2.2 j q hj
theorem r_perm {ws2 : va_W} (h : ws2.Perm ws) (kk : R g M d x y pc ls st ws2 Q) : R g M d x y pc ls st ws Q := by
  intro p l e Rm s m args below meth c H locs cells slots la cx hr hs hl hc1 hc2
  exact kk p l e Rm s m args below meth c H locs cells slots la cx (hr.perm h) hs hl hc1 hc2
end RR
