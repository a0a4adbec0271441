/-! static rows, the script, a call with a world in front, permutations -/
def gZ (X : gX) (C n d : String) (v : Value) : Prop := match X with
  | (_, _, _, _, s, _, _, _, _, _, A, _) => va_Z C n d v A s s.heap
def gT (X : gX) (t N : Nat) (f : Nat → Value) : Prop := match X with
  | (_, _, _, _, s, _, _, _, _, _, A, _) => va_T .int t N f A s s.heap
def gZz (X : gX) (Z : (Nat → Prop) → State → Prop) : Prop := match X with
  | (_, _, _, _, s, _, _, _, _, _, A, _) => Z A s
/-- a contract with something more asked of its start -/
def Ctz (l : Launch) (E : gE) (y : MethodName) (Ts : List Cond) (rm : Room) (av : List Value) (w0 : va_W) {S : Type} (rv : S → Option Value) (post : S → Prop) (wP : S → va_W) (Z : (Nat → Prop) → State → Prop) : Prop := ∀ sz : Nat, Met l y Ts rm (va_Pc av (fun U => (U.heap.size = sz ∧ va_P E.D vwCl w0 U.heap ∧ KU E U ∧ va_D (fun _ => True) w0) ∧ Z (va_A w0 sz) U)) (gQ rv post E wP w0 sz) rm.cells rm.slots (va_A w0 sz)
section GL
variable {X : gX} {E : gE} {nL : Nat} {cc : ByteArray} {Ts : List Cond} {own : String} {R0 : Room} {l0 : Launch} {ws : va_W} {cs ss pc : Nat} {lv : List (Nat × Value)} {st : List Value}
theorem g_gets (C0 : gC X E nL cc Ts own R0 l0) {C n d ref : String} {v : Value} {index : Nat} (hZ : gZ X C n d v) (hd : decode cc pc = .ok (.getstatic index, 3)) (hlink : Cond.fieldLink own index ref n d ∈ Ts) (href : ref = C) (k : G X E nL ws cs ss (pc + 3) lv (v :: st)) : G X E nL ws cs ss pc lv st := by
  obtain ⟨p, l, e, R, s, m, args, below, meth, c, A, Q⟩ := X
  obtain ⟨⟨hx, hb, hml, hown, hts⟩, hK, hA, rfl, rfl, hlk⟩ := C0
  intro ls H locs hl hP hD hS
  exact va_gets hx hb hZ hS hown (hts _ hlink) (fun _ h9 => by rw [href]; exact h9) hd (k ls H locs hl hP hD hS)
theorem g_ti (C0 : gC X E nL cc Ts own R0 l0) {t N : Nat} {f : Nat → Value} {i : Int32} {v : Value} (hT : gT X t N f) (hd : decode cc pc = .ok (.iaload, 1)) (hin : vp_in i N) (hv : f i.toNatClampNeg = v) (k : G X E nL ws cs ss (pc + 1) lv (v :: st)) : G X E nL ws cs ss pc lv (.int i :: .ref t :: st) := by
  obtain ⟨p, l, e, R, s, m, args, below, meth, c, A, Q⟩ := X
  obtain ⟨⟨hx, hb, hml, hown, hts⟩, hK, hA, rfl, rfl, hlk⟩ := C0
  intro ls H locs hl hP hD hS
  exact va_ti hx hb hT hS hin hv hd (k ls H locs hl hP hD hS)
theorem g_startZ {l : Launch} {y : MethodName} {Ts' : List Cond} {rm : Room} {av : List Value} {w0 : va_W} {S : Type} {rv : S → Option Value} {post : S → Prop} {wP : S → va_W} {ret : Option FieldType} {Z : (Nat → Prop) → State → Prop} (hw : Ts = Cond.code y cc nL ret :: Ts') (hy : plainName y.cls = true) (ho : y.cls = own) (hn : (lg_sl av).length ≤ nL) {lv0 : List (Nat × Value)} (hlv : lv_args 0 av = lv0)
    (k : ∀ X : gX, gC X E nL cc Ts own rm l → gR X E ret rm w0 rv post wP → gZz X Z → G X E nL w0 0 0 0 lv0 []) : Ctz l E y Ts rm av w0 rv post wP Z := by
  intro sz
  refine Met.ofW (cc := cc) (maxL := nL) (ret := ret) hy hw ?_
  intro p e s m args below meth c s₁ B hml hv
  obtain ⟨rfl, ⟨hsz, hP, hK, hD0⟩, hZ⟩ := hv
  subst hsz
  have hts := atoms_spec (ws := Ts) B.pre
  have hown : s.vm.findClass own = some m.cls := by rw [← ho]; exact findClass_of_methodNamed B.named
  have h := k (p, l, e, (headSpec Ts rm).room, s, m, av.toArray, below, meth, c, va_A w0 s.heap.size, MQ below (gQ rv post E wP w0 s.heap.size) av.toArray s rm.cells rm.slots (va_A w0 s.heap.size)) ⟨⟨B.exec, B.bytes, hml, hown, hts⟩, hK, fun q h => Or.inr h, rfl, rfl, B.notSynchronized⟩ ⟨B.returns, rfl, rfl⟩ hZ
  rw [lg_entry_eq]
  exact h _ _ _ (hlv ▸ lv_entry av hn) hP hD0.self va_S.rf
end GL
/-- the statics that set() reads -/
def zLEAST : Nat → Int32 := fun j => [1, 0, 0, 0, 1, 0, 0, 0].getD j 0
def zMOST : Nat → Int32 := fun j => [1000000, 50, 1000, 49, 3, 10000, 3, 100].getD j 0
def zSet (tL tM : Nat) (A : Nat → Prop) (U : State) : Prop := va_Z "GlueHouse" "LEAST_SETTINGS" "[I" (.ref tL) A U U.heap ∧ va_T .int tL 8 (fun j => .int (zLEAST j)) A U U.heap ∧ va_Z "GlueHouse" "MOST_SETTINGS" "[I" (.ref tM) A U U.heap ∧ va_T .int tM 8 (fun j => .int (zMOST j)) A U U.heap
theorem gZz_set {X : gX} {tL tM : Nat} (h : gZz X (zSet tL tM)) : gZ X "GlueHouse" "LEAST_SETTINGS" "[I" (.ref tL) ∧ gT X tL 8 (fun j => .int (zLEAST j)) ∧ gZ X "GlueHouse" "MOST_SETTINGS" "[I" (.ref tM) ∧ gT X tM 8 (fun j => .int (zMOST j)) := by
  obtain ⟨p, l, e, R, s, m, args, below, meth, c, A, Q⟩ := X
  exact h
