/-! THE JUDGEMENT OVER AN ABSTRACT HEAP. Cells are numbered in the order in which they are made (1, 2, ..; 0 is the script); ints, longs and references are three tables. Rn: from here the method comes to an end with Q, in every frame. -/
section Core
abbrev aS : Type := (Nat → Nat → Int32) × (Nat → Nat → Int64) × (Nat → Nat → Option Nat) × Nat × Nat × Nat
abbrev aI (σ : aS) : Nat → Nat → Int32 := σ.1
abbrev aJ (σ : aS) : Nat → Nat → Int64 := σ.2.1
abbrev aR (σ : aS) : Nat → Nat → Option Nat := σ.2.2.1
abbrev aL (σ : aS) : Nat := σ.2.2.2.1
abbrev aN (σ : aS) : Nat := σ.2.2.2.2.1
abbrev aW (σ : aS) : Nat := σ.2.2.2.2.2
abbrev aM : Type := MethodName × ByteArray × Nat × Option FieldType × List (Nat × Nat × Nat × Nat)
abbrev aO : Type := Option Value ⊕ Nat
abbrev aG : Type := Launch × State × Nat × Nat × (Nat → Int32) × va_G × (Nat → ClassId) × (Nat → Nat) × (Nat → Nat)
def gl (g : aG) : Launch := g.1
def gs (g : aG) : State := g.2.1
def gb (g : aG) : Nat := g.2.2.1
def gL (g : aG) : Nat := g.2.2.2.1
def gx (g : aG) : Nat → Int32 := g.2.2.2.2.1
def gD (g : aG) : va_G := g.2.2.2.2.2.1
def gA (g : aG) : Nat → ClassId := g.2.2.2.2.2.2.1
def gK (g : aG) : Nat → Nat := g.2.2.2.2.2.2.2.1
def gV (g : aG) : Nat → Nat := g.2.2.2.2.2.2.2.2
def gz (g : aG) : Nat := (gs g).heap.size
/-- from an abstract place to the machine's address -/
def aφ (g : aG) (a : Nat) : Nat := if a = 0 then gb g else if a < 1000000 then gz g + (a - 1) else if a % 2 = 0 then gK g ((a - 1000000) / 2) else gV g ((a - 1000000) / 2)
def cv (g : aG) : Value → Value
  | .ref a => .ref (aφ g a)
  | v => v
theorem cv_cat (g : aG) (v : Value) : (cv g v).category = v.category := by cases v <;> rfl
def isj : Value → Bool
  | .retAddr _ => true
  | _ => false
/-- which texts the program holds: their bytes -/
def stx : List String := ["back", "council", "king", "weight", "held", "lie", "hours", "care", "tired", "knows", "day", "least", "most", "sit", "tell", "hold", "rest", "again", "no such back", "no such council", "a number outside its range", "bits of none such"]
def xNm (k : Nat) : String := if k = 0 then "java/util/NoSuchElementException" else "java/lang/IllegalArgumentException"
def aty (t : Nat) : FieldType := if t = 64 then .int else if t = 65 then .byte else if t = 66 then .long else if t = 67 then .object "ThroneBacks$State" else .object "ThroneBacks$Past"
def fval (σ : aS) (a k : Nat) : Value := if (cty (S0 a) k).isReference then va_rf (aR σ a k) else .int (aI σ a k)
def elem (σ : aS) (a j : Nat) : Value := if S0 a = 66 then .long (aJ σ a j) else if 67 ≤ S0 a then va_rf (aR σ a j) else .int (aI σ a j)
def wcell (g : aG) (σ : aS) (a : Nat) (H : Heap) : Prop :=
  if S0 a < 64 then t_OB (aφ g a) ((gD g).1 (S0 a)) (cN (S0 a)) ((gD g).2 (S0 a)) H (fun k => cv g (fval σ a k))
  else H[aφ g a]? = some (arrV (gA g (S0 a)) (L0 a) (fun j => cv g (elem σ a j)))
/-- the world -/
def aWd (g : aG) (σ : aS) (H : Heap) : Prop :=
  H.size = gz g + aN σ ∧ aL σ ≤ aN σ ∧ (aN σ ≤ 600000 ∧ aW σ ≤ 7000000) ∧ (∀ q : Nat, q < gz g → H[q]? = (gs g).heap[q]?) ∧ ∀ a : Nat, 1 ≤ a → a ≤ aL σ → wcell g σ a H
def aStr (g : aG) (U : State) (H : Heap) : Prop :=
  ∀ j : Nat, j < 18 → va_OF "java/lang/String" "value" "[B" (.ref (gV g j)) (gK g j) (fun q => gz g ≤ q) U H ∧ va_OF "java/lang/String" "coder" "B" (.int 0) (gK g j) (fun q => gz g ≤ q) U H
    ∧ va_T .byte (gV g j) (stx.getD j "").length (fun i => .int (nI (((stx.getD j "").toList.getD i 'a').toNat))) (fun q => gz g ≤ q) U H ∧ va_O "java/lang/String" (gK g j) (fun q => gz g ≤ q) U H
/-- what holds at the law's entry -/
def aE (g : aG) : Prop :=
  (gl g).stackTraces = false ∧ (∀ w ∈ lw_tbl, w.before #[Value.ref (gb g)] (gs g) = true) ∧
  (∀ (c : Nat) (q : vw_C), cl[c]? = some q → u_Kn (gs g) q.1 q.2.1 q.2.2 ((gD g).1 c) ((gD g).2 c)) ∧
  (∀ t : Nat, 64 ≤ t → t ≤ 68 → ArrOfT (gs g) (gA g t) (aty t) ∧ va_RA (gs g) (gA g t) (aty t)) ∧
  va_X (gb g) (gL g) (gx g) (gs g) (gs g).heap ∧ gb g < gz g ∧
  (∀ (own tx : String) (k : Nat), Cond.stringRef own k tx ∈ lw_tbl → ∀ j : Nat, stx[j]? = some tx → vk_R own k tx (gK g j) (gs g)) ∧
  aStr g (gs g) (gs g).heap ∧
  va_Z "java/lang/String" "COMPACT_STRINGS" "Z" (.int 1) (fun q => gz g ≤ q) (gs g) (gs g).heap ∧
  vx_Zq Bundle.tN "UNASSIGNED_STACK" Bundle.steD (fun q => gz g ≤ q) (gs g) (gs g).heap ∧ vx_Zq Bundle.tN "SUPPRESSED_SENTINEL" Bundle.listD (fun q => gz g ≤ q) (gs g) (gs g).heap ∧
  ∃ v : Value, (v = .null ∨ v = .ref (gK g 100)) ∧ va_Z "jdk/internal/util/Preconditions" "SIOOBE_FORMATTER" "Ljava/util/function/BiFunction;" v (fun q => gz g ≤ q) (gs g) (gs g).heap
/-- the locals: those of one slot by their places, longs in a list of their own -/
def lok (g : aG) (ls : Array Slot) (l : List Value) (ll : List (Nat × Int64)) (nL : Nat) : Prop :=
  ls.size = nL ∧ l.length = nL ∧ lv_wf ls ∧ (∀ v ∈ l, v.category = 1) ∧ (∀ (i : Nat) (v : Value), l[i]? = some v → isj v = false → ls[i]? = some (.val (cv g v))) ∧ ∀ q ∈ ll, ls[q.1]? = some (.val (.long q.2))
def aOut (g : aG) (s : State) (out : aO) (o : Outcome) (t : State) : Prop := match out with
  | .inl v => o = .returned (v.map (cv g))
  | .inr k => ∃ (q : Nat) (ce : Cell), o = .threw q ∧ gz g ≤ q ∧ q < gz g + 900000 ∧ t.heap[q]? = some ce ∧ ce.vm = .none ∧ s.vm.findClass (xNm k) = some ce.cls
def aQ (g : aG) (below : List Frame) (s : State) (nc0 ns0 : Nat) (Q : aO → aS → Prop) : State → Prop := fun t =>
  ∃ (o : Outcome) (out : aO) (σ : aS) (Ls : List Loc) (k n : Nat), t.status = .running ∧ Ended t below o ∧ s.WarmedH t.vm ∧ s.sameButNew ({ t with vm := s.vm } : State) Ls k n ∧ (∀ q ∈ Ls, gz g ≤ q.base) ∧
    k + nc0 = aN σ ∧ n + ns0 = aW σ ∧ aWd g σ t.heap ∧ aOut g s out o t ∧ Q out σ
/-- a frame of method y, d calls deep at most from here on -/
def aX (g : aG) (d : Nat) (y : aM) (l : List Value) (ll : List (Nat × Int64)) (σ : aS) (p : Program) (e : Env) (R : Room) (s : State) (m : MethodId) (args : Array Value) (below : List Frame) (meth : Method) (c : Code) (H : Heap) (locs : List Loc) (cells slots : Nat) (ls : Array Slot) (nc0 ns0 : Nat) : Prop :=
  aE g ∧ (p.tables.exec = Jvm.exec ∧ c.code = y.2.1 ∧ c.maxLocals = y.2.2.1 ∧ meth.sig.returnType = y.2.2.2.1 ∧ meth.locks = false ∧ s.vm.findClass y.1.cls = some m.cls ∧ (gs g).WarmedH s.vm ∧ meth.name = y.1.name ∧ c.exceptionTable.toList.map (fun h => (h.startPc, h.endPc, h.handlerPc, h.catchType)) = y.2.2.2.2 ∧
    s.heap.size = gz g + nc0 ∧ (∀ q : Nat, q < gz g → s.heap[q]? = (gs g).heap[q]?)) ∧
  (d ≤ R.frames ∧ 200 * d ≤ R.locals ∧ 600000 ≤ R.cells + nc0 ∧ 7000000 ≤ R.slots + ns0) ∧ lok g ls l ll y.2.2.1 ∧ aWd g σ H ∧ (∀ q ∈ locs, gz g ≤ q.base) ∧ cells + nc0 = aN σ ∧ slots + ns0 = aW σ
def Rn (g : aG) (d : Nat) (y : aM) (pc : Nat) (l : List Value) (ll : List (Nat × Int64)) (st : List Value) (σ : aS) (Q : aO → aS → Prop) : Prop :=
  ∀ (p : Program) (e : Env) (R : Room) (s : State) (m : MethodId) (args : Array Value) (below : List Frame) (meth : Method) (c : Code) (H : Heap) (locs : List Loc) (cells slots : Nat) (ls : Array Slot) (nc0 ns0 : Nat),
    aX g d y l ll σ p e R s m args below meth c H locs cells slots ls nc0 ns0 →
    W p (gl g) e R s m args below meth c H locs cells slots (aQ g below s nc0 ns0 Q) (F0 m pc ls (st.map (cv g)))
end Core
