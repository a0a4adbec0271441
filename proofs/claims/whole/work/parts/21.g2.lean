theorem neI {x c : Int32} {z : Int} (h : ¬ x = c) (hc : c.toInt = z) : x.toInt ≠ z := fun e => h (Int32.toInt_inj.mp (e.trans hc.symm))
section GL
variable {X : gX} {E : gE} {nL : Nat} {cc : ByteArray} {Ts : List Cond} {own : String} {R0 : Room} {l0 : Launch} {ws : va_W} {cs ss pc : Nat} {lv : List (Nat × Value)} {st : List Value}
theorem g_ifnullQ (C0 : gC X E nL cc Ts own R0 l0) {r : Option Nat} {off : Int} {tgt : Nat} (hd : decode cc pc = .ok (.ifnull off, 3)) (ht : (pc : Int) + off = (tgt : Int)) (kt : r = none → G X E nL ws cs ss tgt lv st) (kf : ¬ r = none → G X E nL ws cs ss (pc + 3) lv st) : G X E nL ws cs ss pc lv (va_rf r :: st) := by
  cases r with
  | none => exact g_ifnullN C0 hd ht (kt rfl)
  | some x => exact g_ifnull C0 hd (kf (fun h => by cases h))
theorem g_ifnonnullQ (C0 : gC X E nL cc Ts own R0 l0) {r : Option Nat} {off : Int} {tgt : Nat} (hd : decode cc pc = .ok (.ifnonnull off, 3)) (ht : (pc : Int) + off = (tgt : Int)) (kt : ¬ r = none → G X E nL ws cs ss tgt lv st) (kf : r = none → G X E nL ws cs ss (pc + 3) lv st) : G X E nL ws cs ss pc lv (va_rf r :: st) := by
  cases r with
  | none => exact g_ifnonnullN C0 hd (kf rfl)
  | some x => exact g_ifnonnull C0 hd ht (kt (fun h => by cases h))
theorem g_copyi (C0 : gC X E nL cc Ts own R0 l0) {index a0 a n0 n1 : Nat} {f g : Nat → Int32} {sp dp n : Int32} (hd : decode cc pc = .ok (.invokestatic index, 3)) (h1 : Cond.methodLink own index arraycopyName ∈ Ts) (h2 : Cond.native arraycopyName ∈ Ts) (h3 : Cond.static arraycopyName ∈ Ts) (h4 : Cond.initialized "java/lang/System" ∈ Ts) (q0 q1 : Nat) (ha0 : ws[q0]? = some (a0, .inl (E.I, n0, .inl f))) (ha1 : ws[q1]? = some (a, .inl (E.I, n1, .inl g))) (k1 : ¬ sp < 0) (k2 : ¬ dp < 0) (k3 : ¬ n < 0) (k4 : sp.toNatClampNeg + n.toNatClampNeg ≤ n0) (k5 : dp.toNatClampNeg + n.toNatClampNeg ≤ n1) (hf : 1 ≤ R0.frames) (hlo : (st.map fun v => v.category).sum + (nativeFrameWords "java/lang/System" "arraycopy" 5 + 11) ≤ R0.locals) {ws2 : va_W} (hw2 : ws.set q1 (a, .inl (E.I, n1, .inl (va_cpy f g sp.toNatClampNeg dp.toNatClampNeg n.toNatClampNeg))) = ws2) (k : G X E nL ws2 cs ss (pc + 3) lv st) : G X E nL ws cs ss pc lv (.int n :: .int dp :: .ref a :: .int sp :: .ref a0 :: st) := by
  obtain ⟨p, l, e, R, s, m, args, below, meth, c, A, Q⟩ := X
  obtain ⟨⟨hx, hb, hml, hown, hts⟩, hK, hA, rfl, rfl, hlk⟩ := C0
  intro ls H locs hl hP hD hS
  subst hw2
  exact va_copyi (ty := .int) hx hb (hml.trans hl.1.symm) hown (hts _ h1) (hts _ h2) (hts _ h3) (hts _ h4) hK.1 hP hD hS q0 q1 0 0 ha0 ha1 rfl rfl rfl k1 k2 k3 k4 k5 (fun _ _ => rfl) hf hlo hd (fun H locs hP hD hS => k ls H locs hl hP hD hS)
theorem g_objInit (C0 : gC X E nL cc Ts own R0 l0) {idx a : Nat} (hd : decode cc pc = .ok (.invokespecial idx, 3)) (h1 : Cond.methodLink own idx objectInit ∈ Ts) (h2 : Cond.instanceMethod objectInit ∈ Ts) (h3 : Cond.code objectInit ⟨#[0xb1]⟩ 1 none ∈ Ts) (hf : 1 ≤ R0.frames) (hlo : (st.map fun v => v.category).sum + 12 ≤ R0.locals) (k : G X E nL ws cs ss (pc + 3) lv st) : G X E nL ws cs ss pc lv (.ref a :: st) := by
  obtain ⟨p, l, e, R, s, m, args, below, meth, c, A, Q⟩ := X
  obtain ⟨⟨hx, hb, hml, hown, hts⟩, hK, hA, rfl, rfl, hlk⟩ := C0
  intro ls H locs hl hP hD hS
  exact W.objInit hx hb hown (hts _ h1) (hts _ h2) (hts _ h3) rfl (hl.1.trans hml.symm) rfl hd hf (by show 2 * 0 + _ + 12 ≤ _; omega) (k ls H locs hl hP hD hS)
theorem g_newI (C0 : gC X E nL cc Ts own R0 l0) {n : Int32} (N : Nat) (hd : decode cc pc = .ok (.newarray .int, 2)) (harr : Cond.arrayClass .int ∈ Ts) (hn : ¬ n < 0) (hN : n.toNatClampNeg = N) (hb2 : N * componentBytes .int ≤ 536870912) (hc : cs + 1 ≤ R0.cells) (hs : ss + N ≤ R0.slots) (k : ∀ q : Nat, G X E nL (ws ++ [(q, .inl (E.I, N, .inl (fun _ => 0)))]) (cs + 1) (ss + N) (pc + 2) lv (.ref q :: st)) : G X E nL ws cs ss pc lv (.int n :: st) := by
  obtain ⟨p, l, e, R, s, m, args, below, meth, c, A, Q⟩ := X
  obtain ⟨⟨hx, hb, hml, hown, hts⟩, hK, hA, rfl, rfl, hlk⟩ := C0
  intro ls H locs hl hP hD hS
  refine va_newa (atype := .int) (ty := .int) (a0 := (N, .inl (fun _ => 0))) hx hb (hts _ harr) rfl hK.1 hP hD hS hA (fun _ => rfl) hn hN hb2 hc hs hd (fun q cA H1 hK1 hP1 hD1 hS1 => ?_)
  have e1 : s.vm.findClass ("[" ++ (FieldType.int).toString) = some E.I := (hK.1.2 0 (E.I, .int) rfl).2
  have e2 : s.vm.findClass ("[" ++ (FieldType.int).toString) = some cA := (hK1.2 4 (cA, .int) rfl).2
  have e : cA = E.I := Option.some.inj (e2.symm.trans e1)
  subst e
  exact k q ls H1 locs hl hP1 hD1 hS1
theorem g_newJ (C0 : gC X E nL cc Ts own R0 l0) {n : Int32} (N : Nat) (hd : decode cc pc = .ok (.newarray .long, 2)) (harr : Cond.arrayClass .long ∈ Ts) (hn : ¬ n < 0) (hN : n.toNatClampNeg = N) (hb2 : N * componentBytes .long ≤ 536870912) (hc : cs + 1 ≤ R0.cells) (hs : ss + N ≤ R0.slots) (k : ∀ q : Nat, G X E nL (ws ++ [(q, .inl (E.J, N, .inr (.inl (fun _ => 0))))]) (cs + 1) (ss + N) (pc + 2) lv (.ref q :: st)) : G X E nL ws cs ss pc lv (.int n :: st) := by
  obtain ⟨p, l, e, R, s, m, args, below, meth, c, A, Q⟩ := X
  obtain ⟨⟨hx, hb, hml, hown, hts⟩, hK, hA, rfl, rfl, hlk⟩ := C0
  intro ls H locs hl hP hD hS
  refine va_newa (atype := .long) (ty := .long) (a0 := (N, .inr (.inl (fun _ => 0)))) hx hb (hts _ harr) rfl hK.1 hP hD hS hA (fun _ => rfl) hn hN hb2 hc hs hd (fun q cA H1 hK1 hP1 hD1 hS1 => ?_)
  have e1 : s.vm.findClass ("[" ++ (FieldType.long).toString) = some E.J := (hK.1.2 1 (E.J, .long) rfl).2
  have e2 : s.vm.findClass ("[" ++ (FieldType.long).toString) = some cA := (hK1.2 4 (cA, .long) rfl).2
  have e : cA = E.J := Option.some.inj (e2.symm.trans e1)
  subst e
  exact k q ls H1 locs hl hP1 hD1 hS1
theorem g_newZ (C0 : gC X E nL cc Ts own R0 l0) {n : Int32} (N : Nat) (hd : decode cc pc = .ok (.newarray .boolean, 2)) (harr : Cond.arrayClass .boolean ∈ Ts) (hn : ¬ n < 0) (hN : n.toNatClampNeg = N) (hb2 : N * componentBytes .boolean ≤ 536870912) (hc : cs + 1 ≤ R0.cells) (hs : ss + N ≤ R0.slots) (k : ∀ q : Nat, G X E nL (ws ++ [(q, .inl (E.Z, N, .inl (fun j => bI ((fun _ => false) j))))]) (cs + 1) (ss + N) (pc + 2) lv (.ref q :: st)) : G X E nL ws cs ss pc lv (.int n :: st) := by
  obtain ⟨p, l, e, R, s, m, args, below, meth, c, A, Q⟩ := X
  obtain ⟨⟨hx, hb, hml, hown, hts⟩, hK, hA, rfl, rfl, hlk⟩ := C0
  intro ls H locs hl hP hD hS
  refine va_newa (atype := .boolean) (ty := .boolean) (a0 := (N, .inl (fun j => bI ((fun _ => false) j)))) hx hb (hts _ harr) rfl hK.1 hP hD hS hA (fun _ => rfl) hn hN hb2 hc hs hd (fun q cA H1 hK1 hP1 hD1 hS1 => ?_)
  have e1 : s.vm.findClass ("[" ++ (FieldType.boolean).toString) = some E.Z := (hK.1.2 2 (E.Z, .boolean) rfl).2
  have e2 : s.vm.findClass ("[" ++ (FieldType.boolean).toString) = some cA := (hK1.2 4 (cA, .boolean) rfl).2
  have e : cA = E.Z := Option.some.inj (e2.symm.trans e1)
  subst e
  exact k q ls H1 locs hl hP1 hD1 hS1
theorem g_new (C0 : gC X E nL cc Ts own R0 l0) {C : String} {T : u_T} {N ci index : Nat} (hd : decode cc pc = .ok (.new index, 3)) (hc : vwCl[ci]? = some (C, T, N)) (hin : ∀ w ∈ u_ws C T N, w ∈ Ts) (ty : Nat → FieldType) (hty : ∀ k, k < N → parseFieldDescriptor (T k).2.2.1 = some (ty k)) (hcl : Cond.classLink own index C ∈ Ts) (hinst : Cond.instantiable C N ∈ Ts) (hini : Cond.initialized C ∈ Ts) {fs : List Value} (hfs : ∀ j, j < N → defaultValue (ty j) = vp_V fs j) (hc1 : cs + 1 ≤ R0.cells) (hs1 : ss + N ≤ R0.slots) (k : ∀ q : Nat, G X E nL (ws ++ [(q, .inr (ci, fs))]) (cs + 1) (ss + N) (pc + 3) lv (.ref q :: st)) : G X E nL ws cs ss pc lv st := by
  obtain ⟨p, l, e, R, s, m, args, below, meth, c, A, Q⟩ := X
  obtain ⟨⟨hx, hb, hml, hown, hts⟩, hK, hA, rfl, rfl, hlk⟩ := C0
  intro ls H locs hl hP hD hS
  exact va_new hx hb hts hin ty hty hown (hts _ hcl) (hts _ hinst) (hts _ hini) hK.1 hP hD hS hA hc hfs hc1 hs1 hd (fun q H1 hP1 hD1 hS1 => k q ls H1 locs hl hP1 hD1 hS1)
def gN (X : gX) : Prop := match X with
  | (_, _, _, _, _, _, _, _, meth, _, _, _) => meth.name = "<init>"
theorem g_putF (C0 : gC X E nL cc Ts own R0 l0) (N0 : gN X) {ref C : String} {T : u_T} {N ci index a : Nat} {v : Value} {ty : FieldType} (hd : decode cc pc = .ok (.putfield index, 3)) (q0 : Nat) {fs : List Value} (he : ws[q0]? = some (a, .inr (ci, fs))) (f : Nat) (hc : vwCl[ci]? = some (C, T, N)) (hin : ∀ w ∈ u_ws C T N, w ∈ Ts) (ty0 : Nat → FieldType) (hty : ∀ k, k < N → parseFieldDescriptor (T k).2.2.1 = some (ty0 k)) (hnm : ∀ a, a < N → ∀ b, b < N → a ≠ b → (T a).2.1 ≠ (T b).2.1) (hf : f < N) (hlink : Cond.fieldLink own index ref (T f).2.1 (T f).2.2.1 ∈ Ts) (href : ref = (T f).1) (hfin : (T f).2.2.2 = true) (hdecl : (T f).1 = own) (hdd : parseFieldDescriptor (T f).2.2.1 = some ty) (hn : narrow ty v = v) (hfit : fits ty v = true) (hl2 : f < fs.length) {ws2 : va_W} (hw2 : ws.set q0 (a, .inr (ci, fs.set f v)) = ws2) (k : G X E nL ws2 cs ss (pc + 3) lv st) : G X E nL ws cs ss pc lv (v :: .ref a :: st) := by
  obtain ⟨p, l, e, R, s, m, args, below, meth, c, A, Q⟩ := X
  obtain ⟨⟨hx, hb, hml, hown, hts⟩, hK, hA, rfl, rfl, hlk⟩ := C0
  intro ls H locs hl hP hD hS
  subst hw2
  exact va_putF hx hb hts hin ty0 hty hnm hown hK.1 hP hD hS q0 he hc f hf (hts _ hlink) (fun _ h9 => by rw [href]; exact h9) hfin N0 hdecl hdd hn hfit hl2 hd (fun H locs hP hD hS => k ls H locs hl hP hD hS)
theorem g_startI {l : Launch} {y : MethodName} {Ts' : List Cond} {rm : Room} {av : List Value} {w0 : va_W} {S : Type} {rv : S → Option Value} {post : S → Prop} {wP : S → va_W} {ret : Option FieldType} (hw : Ts = Cond.code y cc nL ret :: Ts') (hy : plainName y.cls = true) (ho : y.cls = own) (hni : y.name = "<init>") (hn : (lg_sl av).length ≤ nL) {lv0 : List (Nat × Value)} (hlv : lv_args 0 av = lv0)
    (k : ∀ X : gX, gC X E nL cc Ts own rm l → gR X E ret rm w0 rv post wP → gN X → G X E nL w0 0 0 0 lv0 []) : Ct l E y Ts rm av w0 rv post wP := by
  intro sz
  refine Met.ofW (cc := cc) (maxL := nL) (ret := ret) hy hw ?_
  intro p e s m args below meth c s₁ B hml hv
  obtain ⟨rfl, hsz, hP, hK, hD0⟩ := hv
  subst hsz
  have hts := atoms_spec (ws := Ts) B.pre
  have hown : s.vm.findClass own = some m.cls := by rw [← ho]; exact findClass_of_methodNamed B.named
  have hmn : meth.name = "<init>" := by rw [← hni]; exact (name_of_methodNamed B.named B.method).1
  have h := k (p, l, e, (headSpec Ts rm).room, s, m, av.toArray, below, meth, c, va_A w0 s.heap.size, MQ below (gQ rv post E wP w0 s.heap.size) av.toArray s rm.cells rm.slots (va_A w0 s.heap.size)) ⟨⟨B.exec, B.bytes, hml, hown, hts⟩, hK, fun q h => Or.inr h, rfl, rfl, B.notSynchronized⟩ ⟨B.returns, rfl, rfl⟩ hmn
  rw [lg_entry_eq]
  exact h _ _ _ (hlv ▸ lv_entry av hn) hP hD0.self va_S.rf
end GL
