/-! THE FRAME: an abstract heap (a list of cells, in the order in which they are made; a reference is a place in it) and a judgement GG over it.
 K: the heap at the law's entry, the addresses of what is read there, the classes' numbers and slots, the array classes' numbers, the script. -/
abbrev cK : Type := Heap × (Nat → Nat) × va_G × (Nat → ClassId) × Nat × (Nat → Int32)
abbrev cE : Type := (Nat × vp_A) ⊕ (Nat × List Value)
abbrev cH : Type := List cE
abbrev MI : Type := MethodName × ByteArray × Nat × Option FieldType
def cA (K : cK) : Nat → Prop := fun q => K.1.size ≤ q
/-- an abstract value: .ref k is the k-th made cell, .retAddr j the j-th of the cells that were there -/
def cv (K : cK) : Value → Value
  | .ref k => .ref (K.1.size + k)
  | .retAddr j => .ref (K.2.1 j)
  | v => v
def cx (K : cK) (a : vp_A) : vp_A := match a with
  | (n, .inr (.inr (.inr (.inr f)))) => (n, .inr (.inr (.inr (.inr (fun j => (f j).map (fun k => K.1.size + k))))))
  | x => x
def ce (K : cK) : cE → va_E
  | .inl a => .inl (K.2.2.2.1 a.1, cx K a.2)
  | .inr o => .inr (o.1, o.2.map (cv K))
def wl (K : cK) (h : cH) : va_W := h.mapIdx (fun k e => (K.1.size + k, ce K e))
theorem wl_at {K : cK} {h : cH} {k : Nat} {e : cE} (he : h[k]? = some e) : (wl K h)[k]? = some (K.1.size + k, ce K e) := by
  simp [wl, List.getElem?_mapIdx, he]
theorem wl_of {K : cK} {h : cH} {k : Nat} {q : Nat × va_E} (hq : (wl K h)[k]? = some q) : ∃ e, h[k]? = some e ∧ q = (K.1.size + k, ce K e) := by
  simp only [wl, List.getElem?_mapIdx, Option.map_eq_some_iff] at hq
  obtain ⟨e, h1, h2⟩ := hq
  exact ⟨e, h1, h2.symm⟩
theorem wl_set {K : cK} {h : cH} {k : Nat} {e : cE} : (wl K h).set k (K.1.size + k, ce K e) = wl K (h.set k e) := by
  apply List.ext_getElem?
  intro i
  simp only [wl, List.getElem?_set, List.getElem?_mapIdx, List.length_mapIdx]
  by_cases hi : k = i
  · subst hi
    by_cases hl : k < h.length <;> simp [hl]
  · simp [hi]
theorem wl_app {K : cK} {h : cH} {e : cE} : wl K (h ++ [e]) = wl K h ++ [(K.1.size + h.length, ce K e)] := by
  simp [wl, List.mapIdx_append]
theorem wl_D {K : cK} {h : cH} : va_D (cA K) (wl K h) := by
  refine ⟨fun i j p q hp hq hpq => ?_, fun k q hq => ?_⟩
  · obtain ⟨e, -, rfl⟩ := wl_of hp
    obtain ⟨e', -, rfl⟩ := wl_of hq
    have : K.1.size + i = K.1.size + j := hpq
    omega
  · obtain ⟨e, -, rfl⟩ := wl_of hq
    exact Nat.le_add_right _ _
/-- the array classes -/
def tys (K : cK) : List (ClassId × FieldType) := [(K.2.2.2.1 0, .int), (K.2.2.2.1 1, .long), (K.2.2.2.1 2, .boolean), (K.2.2.2.1 3, .object "CoinsWarden$Text"), (K.2.2.2.1 4, .object "CoinsWarden$State")]
/-- the static arrays: name, descriptor, type, length, contents -/
def stL (l : List Int64) : Nat → Value := fun j => .long (l.getD j 0)
def stI (l : List Int32) : Nat → Value := fun j => .int (l.getD j 0)
def stA : List (String × String × FieldType × Nat × (Nat → Value)) := [
  ("TENS", "[J", .long, 13, stL [1, 10, 100, 1000, 10000, 100000, 1000000, 10000000, 100000000, 1000000000, 10000000000, 100000000000, 1000000000000]),
  ("REFUSALS", "[I", .int, 5, stI [-1, -2, -3, -5, -6]),
  ("FACT_HIGH", "[I", .int, 4, stI [11, 11, 1, 9]),
  ("TERM_LOW", "[I", .int, 8, stI [1, 1, 0, 0, 1, 0, 0, 0]),
  ("TERM_HIGH", "[I", .int, 8, stI [9, 4, 99, 9, 12, 3, 99, 9]),
  ("TERM_FIRST", "[I", .int, 8, stI [1, 1, 40, 0, 12, 1, 20, 0])]
/-- the String constants: their entries, texts, bytes -/
def sIx : List Nat := [84, 86, 118, 116, 107, 137, 139, 95]
def sTx : List String := ["comes fines spares", "throw", "not", "and", "or", "slot since rain wardens car stay mood", "slot left stay more since coin per", "if"]
def sBy : List (List Int32) := sTx.map (fun t => t.toList.map (fun c => Int32.ofNat c.toNat))
def sLn : List Nat := sBy.map List.length
/-- words that do not keep by themselves -/
def nW : List Cond := [
  .methodLinkNest "CoinsWarden" 26 ⟨"CoinsWarden$Tape", "<init>", "()V"⟩ "CoinsWarden",
  .methodLinkNest "CoinsWarden" 42 ⟨"CoinsWarden$Warden", "<init>", "()V"⟩ "CoinsWarden",
  .methodLinkNest "CoinsWarden$Warden" 11 ⟨"CoinsWarden$Reckoner", "<init>", "()V"⟩ "CoinsWarden",
  .methodLinkNest "CoinsWarden" 49 ⟨"CoinsWarden$Stay", "<init>", "()V"⟩ "CoinsWarden",
  .methodLinkNest "CoinsWarden$Costs" 11 ⟨"CoinsWarden$Reckoner", "<init>", "()V"⟩ "CoinsWarden",
  .methodLinkNest "CoinsWarden" 81 ⟨"CoinsWarden$Game", "<init>", "()V"⟩ "CoinsWarden",
  .fieldLinkNest "CoinsWarden$State" 43 "CoinsWarden" "TERM_FIRST" "[I" "CoinsWarden",
  .fieldLinkNest "CoinsWarden$Plans" 53 "CoinsWarden" "TENS" "[J" "CoinsWarden"]
def cN (U : State) : Prop := (∀ w ∈ nW, va_Nw w U) ∧ va_AO "CoinsWarden$Text" U ∧ va_AO "CoinsWarden$State" U ∧ va_Nw (.castable "[I" "java/lang/Cloneable") U
def cT (K : cK) (U : State) : Prop :=
  (∀ (j : Nat) (q : String × String × FieldType × Nat × (Nat → Value)), stA[j]? = some q → va_Z "CoinsWarden" q.1 q.2.1 (.ref (K.2.1 j)) (cA K) U K.1 ∧ va_T q.2.2.1 (K.2.1 j) q.2.2.2.1 q.2.2.2.2 (cA K) U K.1) ∧
  va_Z "java/lang/String" "COMPACT_STRINGS" "Z" (.int 1) (cA K) U K.1 ∧ va_Zq "jdk/internal/util/Preconditions" "SIOOBE_FORMATTER" "Ljava/util/function/BiFunction;" (cA K) U K.1 ∧
  (∀ i : Nat, i < 8 → vk_R "CoinsWarden$Reading" (sIx.getD i 0) (sTx.getD i "") (K.2.1 (8 + i)) U) ∧ vk_S 8 sLn sBy (fun i => K.2.1 (8 + i)) (fun i => K.2.1 (16 + i)) (cA K) U K.1 ∧
  va_X (K.2.1 24) K.2.2.2.2.1 K.2.2.2.2.2 U K.1 ∧ K.2.1 24 < K.1.size
def cU (K : cK) (U : State) : Prop := va_K K.2.2.1 classes (tys K) U ∧ cN U ∧ cT K U
theorem cN.warm {s U : State} (hW : s.WarmedH U.vm) (h : cN s) : cN U := by
  refine ⟨fun w hw => ?_, h.2.1.moved hW.alike, h.2.2.1.moved hW.alike, h.2.2.2.warmC hW⟩
  have h1 := h.1 w hw
  simp only [nW, List.mem_cons, List.not_mem_nil, or_false] at hw
  rcases hw with rfl | rfl | rfl | rfl | rfl | rfl | rfl | rfl <;> first | exact h1.warmM hW | exact h1.warmF hW
theorem cN.same {s U : State} (hv : s.vm = U.vm) (h : cN s) : cN U := by
  refine ⟨fun w hw => ?_, h.2.1.moved (by rw [hv]; exact Vm.Alike.refl _), h.2.2.1.moved (by rw [hv]; exact Vm.Alike.refl _), h.2.2.2.same rfl hv⟩
  have h1 := h.1 w hw
  simp only [nW, List.mem_cons, List.not_mem_nil, or_false] at hw
  rcases hw with rfl | rfl | rfl | rfl | rfl | rfl | rfl | rfl <;> exact h1.same rfl hv
theorem cT.mv {K : cK} {s U : State} (hv : s.vm.Alike U.vm) (hR : ∀ i : Nat, i < 8 → vk_R "CoinsWarden$Reading" (sIx.getD i 0) (sTx.getD i "") (K.2.1 (8 + i)) U) (h : cT K s) : cT K U :=
  ⟨fun j q hq => ⟨(h.1 j q hq).1.moved hv, (h.1 j q hq).2.moved hv⟩, h.2.1.moved hv, h.2.2.1.moved hv, hR, h.2.2.2.2.1.moved hv, h.2.2.2.2.2.1.moved hv, h.2.2.2.2.2.2⟩
theorem cU.warm {K : cK} {s U : State} (hW : s.WarmedH U.vm) (h : cU K s) : cU K U :=
  ⟨va_K.moved hW.alike h.1, h.2.1.warm hW, cT.mv hW.alike (fun i hi => (h.2.2.2.2.2.1 i hi).warm hW) h.2.2⟩
theorem cU.same {K : cK} {s U : State} (hv : s.vm = U.vm) (h : cU K s) : cU K U :=
  ⟨va_K.moved (by rw [hv]; exact Vm.Alike.refl _) h.1, h.2.1.same hv, cT.mv (by rw [hv]; exact Vm.Alike.refl _) (fun i hi => (h.2.2.2.2.2.1 i hi).same hv.symm) h.2.2⟩
/-- the heap is the abstract one -/
def cR (K : cK) (h : cH) (H : Heap) : Prop := H.size = K.1.size + h.length ∧ va_P K.2.2.1 classes (wl K h) H ∧ ∀ q : Nat, q < K.1.size → H[q]? = K.1[q]?
/-- a method that can be called -/
def okM (M : MI) : Prop := Cond.code M.1 M.2.1 M.2.2.1 M.2.2.2 ∈ tblG ∧ plainName M.1.cls = true ∧ Cond.initialized M.1.cls ∈ tblG ∧ (M.1.cls ≠ "java/lang/invoke/MethodHandle" ∧ M.1.cls ≠ "java/lang/invoke/VarHandle") ∧ M.2.2.1 ≤ 40
def wsM (M : MI) : List Cond := Cond.code M.1 M.2.1 M.2.2.1 M.2.2.2 :: tblG
def rmM (D kc ks : Nat) : Room := { frames := D, cells := kc, slots := ks, locals := 64 * D }
def cP (K : cK) (as : List Value) (h : cH) : Array Value → State → Prop := fun v U => v = (as.map (cv K)).toArray ∧ cR K h U.heap ∧ cU K U
def cQ (K : cK) (Q : Option Value → cH → Prop) : Array Value → State → Outcome → State → Prop := fun _ st o t => ∃ (r : Option Value) (h : cH), o = .returned (r.map (cv K)) ∧ cR K h t.heap ∧ Q r h ∧ st.heap.size ≤ t.heap.size
/-- the contract of a method at these arguments and this heap: it returns, Q of its answer and its heap; at most kc cells of ks slots come, at most d frames stand -/
def CC (l : Launch) (K : cK) (M : MI) (d kc ks : Nat) (as : List Value) (h : cH) (Q : Option Value → cH → Prop) : Prop :=
  ∀ D : Nat, d ≤ D → Met l M.1 (wsM M) (rmM D kc ks) (cP K as h) (cQ K Q) kc ks (cA K)
/-- what holds in a method's body -/
def cB (K : cK) (M : MI) (p : Program) (s : State) (m : MethodId) (args : Array Value) (meth : Method) (c : Code) : Prop :=
  p.tables.exec = Jvm.exec ∧ c.code = M.2.1 ∧ c.maxLocals = M.2.2.1 ∧ meth.sig.returnType = M.2.2.2 ∧ s.vm.findClass M.1.cls = some m.cls ∧ (∀ w ∈ tblG, w.before args s = true) ∧ meth.locks = false ∧ meth.name = M.1.name ∧ cU K s ∧
  K.1.size ≤ s.heap.size ∧ ∀ q : Nat, q < K.1.size → s.heap[q]? = K.1[q]?
def lc (K : cK) (lo : List (Nat × Value)) : List (Nat × Value) := lo.map (fun q => (q.1, cv K q.2))
def GG (l : Launch) (K : cK) (M : MI) (d kc ks pc : Nat) (lo : List (Nat × Value)) (st : List Value) (h : cH) (Q : Option Value → cH → Prop) : Prop :=
  ∀ (p : Program) (e : Env) (R : Room) (s : State) (m : MethodId) (args : Array Value) (below : List Frame) (meth : Method) (c : Code) (H : Heap) (locs : List Loc) (cells slots mc ms : Nat) (ls : Array Slot),
    cB K M p s m args meth c → d ≤ R.frames → 64 * d ≤ R.locals → mc ≤ R.cells → ms ≤ R.slots → cells + kc ≤ mc → slots + ks ≤ ms → cR K h H → s.heap.size ≤ H.size → (∀ q ∈ locs, cA K q.base) → lv_has ls M.2.2.1 (lc K lo) →
    W p l e R s m args below meth c H locs cells slots (MQ below (cQ K Q) args s mc ms (cA K)) (F0 m pc ls (st.map (cv K)))
/-- a decoded instruction, and where the next one is -/
def dc (M : MI) (pc : Nat) (i : Instr) (len n : Nat) : Prop := decode M.2.1 pc = .ok (i, len) ∧ pc + len = n
/-- a field link: the class's number, the field's place, its type, whether it is final -/
def fl (own : String) (ix ci j : Nat) (ty : FieldType) (fin : Bool) : Prop := ∃ r : vw_C, classes[ci]? = some r ∧ j < r.2.2 ∧ Cond.fieldLink own ix (r.2.1 j).1 (r.2.1 j).2.1 (r.2.1 j).2.2.1 ∈ tblG ∧ parseFieldDescriptor (r.2.1 j).2.2.1 = some ty ∧ (r.2.1 j).2.2.2 = fin ∧ (r.2.1 j).1 = r.1
/-- a new object: its class's number, how many fields, what they hold -/
def nw (own : String) (ix ci N : Nat) (fs : List Value) : Prop := ∃ (C : String) (T : u_T), classes[ci]? = some (C, T, N) ∧ Cond.classLink own ix C ∈ tblG ∧ Cond.instantiable C N ∈ tblG ∧ Cond.initialized C ∈ tblG ∧ ∀ j, j < N → (parseFieldDescriptor (T j).2.2.1).map defaultValue = some (vp_V fs j)
def okV (Y : MI) : Prop := okM Y ∧ Cond.instanceMethod Y.1 ∈ tblG ∧ Cond.selects Y.1.cls Y.1 Y.1 ∈ tblG
def okS (Y : MI) : Prop := okM Y ∧ Cond.static Y.1 ∈ tblG
def okI (Y : MI) : Prop := okM Y ∧ Cond.instanceMethod Y.1 ∈ tblG ∧ Y.1.name = "<init>" ∧ Y.2.2.2 = none
def ml (own : String) (ix : Nat) (Y : MI) (n : Nat) : Prop := Cond.methodLink own ix Y.1 ∈ tblG ∧ (parseMethodDescriptor Y.1.desc).map (fun d => d.parameters.length) = some n
def mN (own : String) (ix : Nat) (Y : MI) (n : Nat) : Prop := Cond.methodLinkNest own ix Y.1 "CoinsWarden" ∈ nW ∧ (parseMethodDescriptor Y.1.desc).map (fun d => d.parameters.length) = some n
