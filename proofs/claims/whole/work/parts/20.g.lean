/-! a symbolic state as data: G X nL ws cs ss pc lv st; gC: what holds in a method's body -/
def bI (b : Bool) : Int32 := if b = true then 1 else 0
theorem bI_0 (b : Bool) : bI b = 0 ↔ b = false := by cases b <;> decide
theorem bI_n (b : Bool) : ¬ bI b = 0 ↔ b = true := by cases b <;> decide
theorem bI_nar (b : Bool) : narrow .boolean (.int (bI b)) = .int (bI b) := by cases b <;> rfl
theorem bI_vnar (b : Bool) : vp_nar .boolean (bI b) = bI b := by cases b <;> rfl
def updB (f : Nat → Bool) (k : Nat) (x : Bool) : Nat → Bool := fun j => if j = k then x else f j
theorem updB_e (f : Nat → Bool) (k : Nat) (b : Bool) : upd (fun j => bI (f j)) k (vp_nar .boolean (bI b)) = fun j => bI (updB f k b j) := by
  funext j
  rw [bI_vnar]
  unfold upd updB
  by_cases h : j = k
  · rw [if_pos h, if_pos h]
  · rw [if_neg h, if_neg h]
abbrev ob (ci a : Nat) (fs : List Value) : Nat × va_E := (a, .inr (ci, fs))
abbrev aI (cI : ClassId) (a n : Nat) (f : Nat → Int32) : Nat × va_E := (a, .inl (cI, n, .inl f))
abbrev aJ (cJ : ClassId) (a n : Nat) (f : Nat → Int64) : Nat × va_E := (a, .inl (cJ, n, .inr (.inl f)))
abbrev aZ (cZ : ClassId) (a n : Nat) (f : Nat → Bool) : Nat × va_E := (a, .inl (cZ, n, .inl (fun j => bI (f j))))
abbrev aO (cO : ClassId) (a n : Nat) (f : Nat → Option Nat) : Nat × va_E := (a, .inl (cO, n, .inr (.inr (.inr (.inr f)))))
abbrev gE : Type := va_G × ClassId × ClassId × ClassId × ClassId
abbrev gE.D (E : gE) : va_G := E.1
abbrev gE.I (E : gE) : ClassId := E.2.1
abbrev gE.J (E : gE) : ClassId := E.2.2.1
abbrev gE.Z (E : gE) : ClassId := E.2.2.2.1
abbrev gE.O (E : gE) : ClassId := E.2.2.2.2
abbrev tyL (E : gE) : List (ClassId × FieldType) := [(E.I, .int), (E.J, .long), (E.Z, .boolean), (E.O, .object "GlueHouse$Lap")]
def nestW : List Cond := [.methodLinkNest RX0 30 yX9_within RX9, .methodLinkNest RX3 33 yX9_within RX9, .methodLinkNest RX4 33 yX9_within RX9, .methodLinkNest RX5 58 yX9_within RX9, .methodLinkNest RX7 33 yX9_within RX9, .methodLinkNest RX8 27 yX9_within RX9]
def KU (E : gE) (U : State) : Prop := va_K E.D vwCl (tyL E) U ∧ ∀ w ∈ nestW, va_Nw w U
theorem nestW_k {w : Cond} (h : w ∈ nestW) : ∃ a i x hh, w = .methodLinkNest a i x hh := by
  simp only [nestW, List.mem_cons, List.not_mem_nil, or_false] at h
  rcases h with rfl | rfl | rfl | rfl | rfl | rfl <;> exact ⟨_, _, _, _, rfl⟩
theorem KU.warm {E : gE} {s U : State} (hW : s.WarmedH U.vm) (h : KU E s) : KU E U := ⟨va_K.moved hW.alike h.1, fun w hw => by
  obtain ⟨a, i, x, hh, rfl⟩ := nestW_k hw
  exact va_Nw.warmM hW (h.2 _ hw)⟩
theorem KU.calling {E : gE} {U : State} {g : JFrame} {mk : MethodId} {a : Array Value} (h : KU E U) : KU E (U.calling g mk a) := ⟨va_K.moved (u := U) (U := U.calling g mk a) (Vm.Alike.refl U.vm) h.1, fun w hw => by
  obtain ⟨a, i, x, hh, rfl⟩ := nestW_k hw
  exact va_Nw.same rfl rfl (h.2 _ hw)⟩
abbrev gX : Type := Program × Launch × Env × Room × State × MethodId × Array Value × List Frame × Method × Code × (Nat → Prop) × (State → Prop)
def G (X : gX) (E : gE) (nL : Nat) (ws : va_W) (cs ss pc : Nat) (lv : List (Nat × Value)) (st : List Value) : Prop := match X with
  | (p, l, e, R, s, m, args, below, meth, c, A, Q) => ∀ (ls : Array Slot) (H : Heap) (locs : List Loc), lv_has ls nL lv → va_P E.D vwCl ws H → va_D A ws → va_S A s.heap H locs → W p l e R s m args below meth c H locs cs ss Q (F0 m pc ls st)
def gC (X : gX) (E : gE) (nL : Nat) (cc : ByteArray) (Ts : List Cond) (own : String) (R0 : Room) (l0 : Launch) : Prop := match X with
  | (p, l, _, R, s, m, args, _, meth, c, A, _) => (p.tables.exec = Jvm.exec ∧ c.code = cc ∧ c.maxLocals = nL ∧ s.vm.findClass own = some m.cls ∧ ∀ w ∈ Ts, w.before args s = true) ∧ KU E s ∧ (∀ q : Nat, s.heap.size ≤ q → A q) ∧ R = R0 ∧ l = l0 ∧ meth.locks = false
theorem sub_fm {α β : Type} {f : α → Option β} : ∀ {is : List α} {l : List β}, is.map f = l.map some → is.filterMap f = l
  | [], [], _ => rfl
  | [], _ :: _, h => by simp at h
  | _ :: _, [], h => by simp at h
  | a :: is, b :: l, h => by
    simp only [List.map_cons, List.cons.injEq] at h
    rw [List.filterMap_cons, h.1]
    simp only [sub_fm h.2]
section GL
variable {X : gX} {E : gE} {nL : Nat} {cc : ByteArray} {Ts : List Cond} {own : String} {R0 : Room} {l0 : Launch} {ws : va_W} {cs ss pc : Nat} {lv : List (Nat × Value)} {st : List Value}
theorem g_iconst (C0 : gC X E nL cc Ts own R0 l0) {n : Int} {v : Int32} (hd : decode cc pc = .ok (.iconst n, 1)) (hv : Int32.ofInt n = v) (k : G X E nL ws cs ss (pc + 1) lv (.int v :: st)) : G X E nL ws cs ss pc lv st := by
  obtain ⟨p, l, e, R, s, m, args, below, meth, c, A, Q⟩ := X
  obtain ⟨⟨hx, hb, hml, hown, hts⟩, hK, hA, rfl, rfl, hlk⟩ := C0
  intro ls H locs hl hP hD hS
  exact lv_iconst hx hb hd hv (k ls H locs hl hP hD hS)
theorem g_bipush (C0 : gC X E nL cc Ts own R0 l0) {n : Int} {v : Int32} (hd : decode cc pc = .ok (.bipush n, 2)) (hv : (Int8.ofInt n).toInt32 = v) (k : G X E nL ws cs ss (pc + 2) lv (.int v :: st)) : G X E nL ws cs ss pc lv st := by
  obtain ⟨p, l, e, R, s, m, args, below, meth, c, A, Q⟩ := X
  obtain ⟨⟨hx, hb, hml, hown, hts⟩, hK, hA, rfl, rfl, hlk⟩ := C0
  intro ls H locs hl hP hD hS
  exact lv_bipush hx hb hd hv (k ls H locs hl hP hD hS)
theorem g_sipush (C0 : gC X E nL cc Ts own R0 l0) {n : Int} {v : Int32} (hd : decode cc pc = .ok (.sipush n, 3)) (hv : (Int16.ofInt n).toInt32 = v) (k : G X E nL ws cs ss (pc + 3) lv (.int v :: st)) : G X E nL ws cs ss pc lv st := by
  obtain ⟨p, l, e, R, s, m, args, below, meth, c, A, Q⟩ := X
  obtain ⟨⟨hx, hb, hml, hown, hts⟩, hK, hA, rfl, rfl, hlk⟩ := C0
  intro ls H locs hl hP hD hS
  exact lv_sipush hx hb hd hv (k ls H locs hl hP hD hS)
theorem g_lconst (C0 : gC X E nL cc Ts own R0 l0) {n : Fin 2} {v : Int64} (hd : decode cc pc = .ok (.lconst n, 1)) (hv : Int64.ofNat (n : Nat) = v) (k : G X E nL ws cs ss (pc + 1) lv (.long v :: st)) : G X E nL ws cs ss pc lv st := by
  obtain ⟨p, l, e, R, s, m, args, below, meth, c, A, Q⟩ := X
  obtain ⟨⟨hx, hb, hml, hown, hts⟩, hK, hA, rfl, rfl, hlk⟩ := C0
  intro ls H locs hl hP hD hS
  exact lv_lconst hx hb hd hv (k ls H locs hl hP hD hS)
theorem g_ldc (C0 : gC X E nL cc Ts own R0 l0) {index : Nat} {v : Int32} (hd : decode cc pc = .ok (.ldc index, 2)) (hv : (Cond.constant own index v) ∈ Ts) (k : G X E nL ws cs ss (pc + 2) lv (.int v :: st)) : G X E nL ws cs ss pc lv st := by
  obtain ⟨p, l, e, R, s, m, args, below, meth, c, A, Q⟩ := X
  obtain ⟨⟨hx, hb, hml, hown, hts⟩, hK, hA, rfl, rfl, hlk⟩ := C0
  intro ls H locs hl hP hD hS
  exact lv_ldc hx hb hown (hts _ hv) hd (k ls H locs hl hP hD hS)
theorem g_ldcw (C0 : gC X E nL cc Ts own R0 l0) {index : Nat} {v : Int32} (hd : decode cc pc = .ok (.ldc_w index, 3)) (hv : (Cond.constant own index v) ∈ Ts) (k : G X E nL ws cs ss (pc + 3) lv (.int v :: st)) : G X E nL ws cs ss pc lv st := by
  obtain ⟨p, l, e, R, s, m, args, below, meth, c, A, Q⟩ := X
  obtain ⟨⟨hx, hb, hml, hown, hts⟩, hK, hA, rfl, rfl, hlk⟩ := C0
  intro ls H locs hl hP hD hS
  exact lv_ldcw hx hb hown (hts _ hv) hd (k ls H locs hl hP hD hS)
theorem g_ldc2 (C0 : gC X E nL cc Ts own R0 l0) {index : Nat} {v : Int64} (hd : decode cc pc = .ok (.ldc2_w index, 3)) (hv : (Cond.constantLong own index v) ∈ Ts) (k : G X E nL ws cs ss (pc + 3) lv (.long v :: st)) : G X E nL ws cs ss pc lv st := by
  obtain ⟨p, l, e, R, s, m, args, below, meth, c, A, Q⟩ := X
  obtain ⟨⟨hx, hb, hml, hown, hts⟩, hK, hA, rfl, rfl, hlk⟩ := C0
  intro ls H locs hl hP hD hS
  exact lv_ldc2 hx hb hown (hts _ hv) hd (k ls H locs hl hP hD hS)
theorem g_null (C0 : gC X E nL cc Ts own R0 l0) (hd : decode cc pc = .ok (.aconst_null, 1)) (k : G X E nL ws cs ss (pc + 1) lv (.null :: st)) : G X E nL ws cs ss pc lv st := by
  obtain ⟨p, l, e, R, s, m, args, below, meth, c, A, Q⟩ := X
  obtain ⟨⟨hx, hb, hml, hown, hts⟩, hK, hA, rfl, rfl, hlk⟩ := C0
  intro ls H locs hl hP hD hS
  exact lv_null hx hb hd (k ls H locs hl hP hD hS)
theorem g_iload_n (C0 : gC X E nL cc Ts own R0 l0) {i : Fin 4} {x : Int32} (hd : decode cc pc = .ok (.iload_n i, 1)) (q : Nat) (hq : lv[q]? = some ((i : Nat), .int x)) (k : G X E nL ws cs ss (pc + 1) lv (.int x :: st)) : G X E nL ws cs ss pc lv st := by
  obtain ⟨p, l, e, R, s, m, args, below, meth, c, A, Q⟩ := X
  obtain ⟨⟨hx, hb, hml, hown, hts⟩, hK, hA, rfl, rfl, hlk⟩ := C0
  intro ls H locs hl hP hD hS
  exact lv_iload_n hx hb hd rfl (lv_at hl q hq) (k ls H locs hl hP hD hS)
theorem g_iload (C0 : gC X E nL cc Ts own R0 l0) {i : Nat} {x : Int32} (hd : decode cc pc = .ok (.iload i, 2)) (q : Nat) (hq : lv[q]? = some (i, .int x)) (k : G X E nL ws cs ss (pc + 2) lv (.int x :: st)) : G X E nL ws cs ss pc lv st := by
  obtain ⟨p, l, e, R, s, m, args, below, meth, c, A, Q⟩ := X
  obtain ⟨⟨hx, hb, hml, hown, hts⟩, hK, hA, rfl, rfl, hlk⟩ := C0
  intro ls H locs hl hP hD hS
  exact lv_iload hx hb hd (lv_at hl q hq) (k ls H locs hl hP hD hS)
theorem g_lload_n (C0 : gC X E nL cc Ts own R0 l0) {i : Fin 4} {x : Int64} (hd : decode cc pc = .ok (.lload_n i, 1)) (q : Nat) (hq : lv[q]? = some ((i : Nat), .long x)) (k : G X E nL ws cs ss (pc + 1) lv (.long x :: st)) : G X E nL ws cs ss pc lv st := by
  obtain ⟨p, l, e, R, s, m, args, below, meth, c, A, Q⟩ := X
  obtain ⟨⟨hx, hb, hml, hown, hts⟩, hK, hA, rfl, rfl, hlk⟩ := C0
  intro ls H locs hl hP hD hS
  exact lv_lload_n hx hb hd rfl (lv_at hl q hq) (k ls H locs hl hP hD hS)
theorem g_lload (C0 : gC X E nL cc Ts own R0 l0) {i : Nat} {x : Int64} (hd : decode cc pc = .ok (.lload i, 2)) (q : Nat) (hq : lv[q]? = some (i, .long x)) (k : G X E nL ws cs ss (pc + 2) lv (.long x :: st)) : G X E nL ws cs ss pc lv st := by
  obtain ⟨p, l, e, R, s, m, args, below, meth, c, A, Q⟩ := X
  obtain ⟨⟨hx, hb, hml, hown, hts⟩, hK, hA, rfl, rfl, hlk⟩ := C0
  intro ls H locs hl hP hD hS
  exact lv_lload hx hb hd (lv_at hl q hq) (k ls H locs hl hP hD hS)
theorem g_aload_n (C0 : gC X E nL cc Ts own R0 l0) {i : Fin 4} {x : Nat} (hd : decode cc pc = .ok (.aload_n i, 1)) (q : Nat) (hq : lv[q]? = some ((i : Nat), .ref x)) (k : G X E nL ws cs ss (pc + 1) lv (.ref x :: st)) : G X E nL ws cs ss pc lv st := by
  obtain ⟨p, l, e, R, s, m, args, below, meth, c, A, Q⟩ := X
  obtain ⟨⟨hx, hb, hml, hown, hts⟩, hK, hA, rfl, rfl, hlk⟩ := C0
  intro ls H locs hl hP hD hS
  exact lv_aload_n hx hb hd rfl (lv_at hl q hq) (k ls H locs hl hP hD hS)
theorem g_aload (C0 : gC X E nL cc Ts own R0 l0) {i : Nat} {x : Nat} (hd : decode cc pc = .ok (.aload i, 2)) (q : Nat) (hq : lv[q]? = some (i, .ref x)) (k : G X E nL ws cs ss (pc + 2) lv (.ref x :: st)) : G X E nL ws cs ss pc lv st := by
  obtain ⟨p, l, e, R, s, m, args, below, meth, c, A, Q⟩ := X
  obtain ⟨⟨hx, hb, hml, hown, hts⟩, hK, hA, rfl, rfl, hlk⟩ := C0
  intro ls H locs hl hP hD hS
  exact lv_aload hx hb hd (lv_at hl q hq) (k ls H locs hl hP hD hS)
theorem g_aload_nN (C0 : gC X E nL cc Ts own R0 l0) {i : Fin 4} (hd : decode cc pc = .ok (.aload_n i, 1)) (q : Nat) (hq : lv[q]? = some ((i : Nat), .null)) (k : G X E nL ws cs ss (pc + 1) lv (.null :: st)) : G X E nL ws cs ss pc lv st := by
  obtain ⟨p, l, e, R, s, m, args, below, meth, c, A, Q⟩ := X
  obtain ⟨⟨hx, hb, hml, hown, hts⟩, hK, hA, rfl, rfl, hlk⟩ := C0
  intro ls H locs hl hP hD hS
  exact lv_aload_nN hx hb hd rfl (lv_at hl q hq) (k ls H locs hl hP hD hS)
theorem g_aloadN (C0 : gC X E nL cc Ts own R0 l0) {i : Nat} (hd : decode cc pc = .ok (.aload i, 2)) (q : Nat) (hq : lv[q]? = some (i, .null)) (k : G X E nL ws cs ss (pc + 2) lv (.null :: st)) : G X E nL ws cs ss pc lv st := by
  obtain ⟨p, l, e, R, s, m, args, below, meth, c, A, Q⟩ := X
  obtain ⟨⟨hx, hb, hml, hown, hts⟩, hK, hA, rfl, rfl, hlk⟩ := C0
  intro ls H locs hl hP hD hS
  exact lv_aloadN hx hb hd (lv_at hl q hq) (k ls H locs hl hP hD hS)
theorem g_istore_n (C0 : gC X E nL cc Ts own R0 l0) {i : Fin 4} {x : Int32} {lv2 : List (Nat × Value)} (hd : decode cc pc = .ok (.istore_n i, 1)) (hn : (i : Nat) < nL) (h2 : ((i : Nat), Value.int x) :: lv.filter (fun q => !(q.1 == (i : Nat)) && !(q.1 + 1 == (i : Nat) && q.2.category == 2)) = lv2) (k : G X E nL ws cs ss (pc + 1) lv2 st) : G X E nL ws cs ss pc lv (Value.int x :: st) := by
  obtain ⟨p, l, e, R, s, m, args, below, meth, c, A, Q⟩ := X
  obtain ⟨⟨hx, hb, hml, hown, hts⟩, hK, hA, rfl, rfl, hlk⟩ := C0
  intro ls H locs hl hP hD hS
  exact lv_istore_n hx hb hd rfl hl hn h2 (fun ls hl => k ls H locs hl hP hD hS)
theorem g_istore (C0 : gC X E nL cc Ts own R0 l0) {i : Nat} {x : Int32} {lv2 : List (Nat × Value)} (hd : decode cc pc = .ok (.istore i, 2)) (hn : i < nL) (h2 : (i, Value.int x) :: lv.filter (fun q => !(q.1 == i) && !(q.1 + 1 == i && q.2.category == 2)) = lv2) (k : G X E nL ws cs ss (pc + 2) lv2 st) : G X E nL ws cs ss pc lv (Value.int x :: st) := by
  obtain ⟨p, l, e, R, s, m, args, below, meth, c, A, Q⟩ := X
  obtain ⟨⟨hx, hb, hml, hown, hts⟩, hK, hA, rfl, rfl, hlk⟩ := C0
  intro ls H locs hl hP hD hS
  exact lv_istore hx hb hd hl hn h2 (fun ls hl => k ls H locs hl hP hD hS)
theorem g_astore_n (C0 : gC X E nL cc Ts own R0 l0) {i : Fin 4} {x : Nat} {lv2 : List (Nat × Value)} (hd : decode cc pc = .ok (.astore_n i, 1)) (hn : (i : Nat) < nL) (h2 : ((i : Nat), Value.ref x) :: lv.filter (fun q => !(q.1 == (i : Nat)) && !(q.1 + 1 == (i : Nat) && q.2.category == 2)) = lv2) (k : G X E nL ws cs ss (pc + 1) lv2 st) : G X E nL ws cs ss pc lv (Value.ref x :: st) := by
  obtain ⟨p, l, e, R, s, m, args, below, meth, c, A, Q⟩ := X
  obtain ⟨⟨hx, hb, hml, hown, hts⟩, hK, hA, rfl, rfl, hlk⟩ := C0
  intro ls H locs hl hP hD hS
  exact lv_astore_n hx hb hd rfl hl hn h2 (fun ls hl => k ls H locs hl hP hD hS)
theorem g_astore (C0 : gC X E nL cc Ts own R0 l0) {i : Nat} {x : Nat} {lv2 : List (Nat × Value)} (hd : decode cc pc = .ok (.astore i, 2)) (hn : i < nL) (h2 : (i, Value.ref x) :: lv.filter (fun q => !(q.1 == i) && !(q.1 + 1 == i && q.2.category == 2)) = lv2) (k : G X E nL ws cs ss (pc + 2) lv2 st) : G X E nL ws cs ss pc lv (Value.ref x :: st) := by
  obtain ⟨p, l, e, R, s, m, args, below, meth, c, A, Q⟩ := X
  obtain ⟨⟨hx, hb, hml, hown, hts⟩, hK, hA, rfl, rfl, hlk⟩ := C0
  intro ls H locs hl hP hD hS
  exact lv_astore hx hb hd hl hn h2 (fun ls hl => k ls H locs hl hP hD hS)
theorem g_astore_nN (C0 : gC X E nL cc Ts own R0 l0) {i : Fin 4}  {lv2 : List (Nat × Value)} (hd : decode cc pc = .ok (.astore_n i, 1)) (hn : (i : Nat) < nL) (h2 : ((i : Nat), Value.null) :: lv.filter (fun q => !(q.1 == (i : Nat)) && !(q.1 + 1 == (i : Nat) && q.2.category == 2)) = lv2) (k : G X E nL ws cs ss (pc + 1) lv2 st) : G X E nL ws cs ss pc lv (Value.null :: st) := by
  obtain ⟨p, l, e, R, s, m, args, below, meth, c, A, Q⟩ := X
  obtain ⟨⟨hx, hb, hml, hown, hts⟩, hK, hA, rfl, rfl, hlk⟩ := C0
  intro ls H locs hl hP hD hS
  exact lv_astore_nN hx hb hd rfl hl hn h2 (fun ls hl => k ls H locs hl hP hD hS)
theorem g_astoreN (C0 : gC X E nL cc Ts own R0 l0) {i : Nat}  {lv2 : List (Nat × Value)} (hd : decode cc pc = .ok (.astore i, 2)) (hn : i < nL) (h2 : (i, Value.null) :: lv.filter (fun q => !(q.1 == i) && !(q.1 + 1 == i && q.2.category == 2)) = lv2) (k : G X E nL ws cs ss (pc + 2) lv2 st) : G X E nL ws cs ss pc lv (Value.null :: st) := by
  obtain ⟨p, l, e, R, s, m, args, below, meth, c, A, Q⟩ := X
  obtain ⟨⟨hx, hb, hml, hown, hts⟩, hK, hA, rfl, rfl, hlk⟩ := C0
  intro ls H locs hl hP hD hS
  exact lv_astoreN hx hb hd hl hn h2 (fun ls hl => k ls H locs hl hP hD hS)
theorem g_lstore_n (C0 : gC X E nL cc Ts own R0 l0) {i : Fin 4} {x : Int64} {lv2 : List (Nat × Value)} (hd : decode cc pc = .ok (.lstore_n i, 1)) (hn : (i : Nat) + 1 < nL) (h2 : ((i : Nat), Value.long x) :: lv.filter (fun q => !(q.1 == (i : Nat)) && (!(q.1 == (i : Nat) + 1) && !(q.1 + 1 == (i : Nat) && q.2.category == 2))) = lv2) (k : G X E nL ws cs ss (pc + 1) lv2 st) : G X E nL ws cs ss pc lv (.long x :: st) := by
  obtain ⟨p, l, e, R, s, m, args, below, meth, c, A, Q⟩ := X
  obtain ⟨⟨hx, hb, hml, hown, hts⟩, hK, hA, rfl, rfl, hlk⟩ := C0
  intro ls H locs hl hP hD hS
  exact lv_lstore_n hx hb hd rfl hl hn h2 (fun ls hl => k ls H locs hl hP hD hS)
theorem g_lstore (C0 : gC X E nL cc Ts own R0 l0) {i : Nat} {x : Int64} {lv2 : List (Nat × Value)} (hd : decode cc pc = .ok (.lstore i, 2)) (hn : i + 1 < nL) (h2 : (i, Value.long x) :: lv.filter (fun q => !(q.1 == i) && (!(q.1 == i + 1) && !(q.1 + 1 == i && q.2.category == 2))) = lv2) (k : G X E nL ws cs ss (pc + 2) lv2 st) : G X E nL ws cs ss pc lv (.long x :: st) := by
  obtain ⟨p, l, e, R, s, m, args, below, meth, c, A, Q⟩ := X
  obtain ⟨⟨hx, hb, hml, hown, hts⟩, hK, hA, rfl, rfl, hlk⟩ := C0
  intro ls H locs hl hP hD hS
  exact lv_lstore hx hb hd hl hn h2 (fun ls hl => k ls H locs hl hP hD hS)
theorem g_iinc (C0 : gC X E nL cc Ts own R0 l0) {i : Nat} {n : Int} {x v : Int32} {lv2 : List (Nat × Value)} (hd : decode cc pc = .ok (.iinc i n, 3)) (q : Nat) (hq : lv[q]? = some (i, .int x)) (hv : x + Int32.ofInt n = v) (hn : i < nL) (h2 : (i, Value.int v) :: lv.filter (fun q => !(q.1 == i) && !(q.1 + 1 == i && q.2.category == 2)) = lv2) (k : G X E nL ws cs ss (pc + 3) lv2 st) : G X E nL ws cs ss pc lv st := by
  obtain ⟨p, l, e, R, s, m, args, below, meth, c, A, Q⟩ := X
  obtain ⟨⟨hx, hb, hml, hown, hts⟩, hK, hA, rfl, rfl, hlk⟩ := C0
  intro ls H locs hl hP hD hS
  exact lv_iinc hx hb hd hl hq hv hn h2 (fun ls hl => k ls H locs hl hP hD hS)
theorem g_iadd (C0 : gC X E nL cc Ts own R0 l0) {x y : Int32} (hd : decode cc pc = .ok (.iadd, 1)) (k : G X E nL ws cs ss (pc + 1) lv (.int (x + y) :: st)) : G X E nL ws cs ss pc lv (.int y :: .int x :: st) := by
  obtain ⟨p, l, e, R, s, m, args, below, meth, c, A, Q⟩ := X
  obtain ⟨⟨hx, hb, hml, hown, hts⟩, hK, hA, rfl, rfl, hlk⟩ := C0
  intro ls H locs hl hP hD hS
  exact lv_iadd hx hb hd  (k ls H locs hl hP hD hS)
theorem g_isub (C0 : gC X E nL cc Ts own R0 l0) {x y : Int32} (hd : decode cc pc = .ok (.isub, 1)) (k : G X E nL ws cs ss (pc + 1) lv (.int (x - y) :: st)) : G X E nL ws cs ss pc lv (.int y :: .int x :: st) := by
  obtain ⟨p, l, e, R, s, m, args, below, meth, c, A, Q⟩ := X
  obtain ⟨⟨hx, hb, hml, hown, hts⟩, hK, hA, rfl, rfl, hlk⟩ := C0
  intro ls H locs hl hP hD hS
  exact lv_isub hx hb hd  (k ls H locs hl hP hD hS)
theorem g_imul (C0 : gC X E nL cc Ts own R0 l0) {x y : Int32} (hd : decode cc pc = .ok (.imul, 1)) (k : G X E nL ws cs ss (pc + 1) lv (.int (x * y) :: st)) : G X E nL ws cs ss pc lv (.int y :: .int x :: st) := by
  obtain ⟨p, l, e, R, s, m, args, below, meth, c, A, Q⟩ := X
  obtain ⟨⟨hx, hb, hml, hown, hts⟩, hK, hA, rfl, rfl, hlk⟩ := C0
  intro ls H locs hl hP hD hS
  exact lv_imul hx hb hd  (k ls H locs hl hP hD hS)
theorem g_iand (C0 : gC X E nL cc Ts own R0 l0) {x y : Int32} (hd : decode cc pc = .ok (.iand, 1)) (k : G X E nL ws cs ss (pc + 1) lv (.int (x &&& y) :: st)) : G X E nL ws cs ss pc lv (.int y :: .int x :: st) := by
  obtain ⟨p, l, e, R, s, m, args, below, meth, c, A, Q⟩ := X
  obtain ⟨⟨hx, hb, hml, hown, hts⟩, hK, hA, rfl, rfl, hlk⟩ := C0
  intro ls H locs hl hP hD hS
  exact lv_iand hx hb hd  (k ls H locs hl hP hD hS)
theorem g_ior (C0 : gC X E nL cc Ts own R0 l0) {x y : Int32} (hd : decode cc pc = .ok (.ior, 1)) (k : G X E nL ws cs ss (pc + 1) lv (.int (x ||| y) :: st)) : G X E nL ws cs ss pc lv (.int y :: .int x :: st) := by
  obtain ⟨p, l, e, R, s, m, args, below, meth, c, A, Q⟩ := X
  obtain ⟨⟨hx, hb, hml, hown, hts⟩, hK, hA, rfl, rfl, hlk⟩ := C0
  intro ls H locs hl hP hD hS
  exact lv_ior hx hb hd  (k ls H locs hl hP hD hS)
theorem g_ixor (C0 : gC X E nL cc Ts own R0 l0) {x y : Int32} (hd : decode cc pc = .ok (.ixor, 1)) (k : G X E nL ws cs ss (pc + 1) lv (.int (x ^^^ y) :: st)) : G X E nL ws cs ss pc lv (.int y :: .int x :: st) := by
  obtain ⟨p, l, e, R, s, m, args, below, meth, c, A, Q⟩ := X
  obtain ⟨⟨hx, hb, hml, hown, hts⟩, hK, hA, rfl, rfl, hlk⟩ := C0
  intro ls H locs hl hP hD hS
  exact lv_ixor hx hb hd  (k ls H locs hl hP hD hS)
theorem g_ishl (C0 : gC X E nL cc Ts own R0 l0) {x y : Int32} (hd : decode cc pc = .ok (.ishl, 1)) (k : G X E nL ws cs ss (pc + 1) lv (.int (x <<< (y &&& 31)) :: st)) : G X E nL ws cs ss pc lv (.int y :: .int x :: st) := by
  obtain ⟨p, l, e, R, s, m, args, below, meth, c, A, Q⟩ := X
  obtain ⟨⟨hx, hb, hml, hown, hts⟩, hK, hA, rfl, rfl, hlk⟩ := C0
  intro ls H locs hl hP hD hS
  exact lv_ishl hx hb hd  (k ls H locs hl hP hD hS)
theorem g_ishr (C0 : gC X E nL cc Ts own R0 l0) {x y : Int32} (hd : decode cc pc = .ok (.ishr, 1)) (k : G X E nL ws cs ss (pc + 1) lv (.int (x >>> (y &&& 31)) :: st)) : G X E nL ws cs ss pc lv (.int y :: .int x :: st) := by
  obtain ⟨p, l, e, R, s, m, args, below, meth, c, A, Q⟩ := X
  obtain ⟨⟨hx, hb, hml, hown, hts⟩, hK, hA, rfl, rfl, hlk⟩ := C0
  intro ls H locs hl hP hD hS
  exact lv_ishr hx hb hd  (k ls H locs hl hP hD hS)
theorem g_idiv (C0 : gC X E nL cc Ts own R0 l0) {x y : Int32} (hd : decode cc pc = .ok (.idiv, 1)) (hne : ¬ y = 0) (k : G X E nL ws cs ss (pc + 1) lv (.int (x / y) :: st)) : G X E nL ws cs ss pc lv (.int y :: .int x :: st) := by
  obtain ⟨p, l, e, R, s, m, args, below, meth, c, A, Q⟩ := X
  obtain ⟨⟨hx, hb, hml, hown, hts⟩, hK, hA, rfl, rfl, hlk⟩ := C0
  intro ls H locs hl hP hD hS
  exact lv_idiv hx hb hd hne (k ls H locs hl hP hD hS)
theorem g_irem (C0 : gC X E nL cc Ts own R0 l0) {x y : Int32} (hd : decode cc pc = .ok (.irem, 1)) (hne : ¬ y = 0) (k : G X E nL ws cs ss (pc + 1) lv (.int (x - x / y * y) :: st)) : G X E nL ws cs ss pc lv (.int y :: .int x :: st) := by
  obtain ⟨p, l, e, R, s, m, args, below, meth, c, A, Q⟩ := X
  obtain ⟨⟨hx, hb, hml, hown, hts⟩, hK, hA, rfl, rfl, hlk⟩ := C0
  intro ls H locs hl hP hD hS
  exact lv_irem hx hb hd hne (k ls H locs hl hP hD hS)
theorem g_ineg (C0 : gC X E nL cc Ts own R0 l0) {x : Int32} (hd : decode cc pc = .ok (.ineg, 1)) (k : G X E nL ws cs ss (pc + 1) lv (.int (-x) :: st)) : G X E nL ws cs ss pc lv (.int x :: st) := by
  obtain ⟨p, l, e, R, s, m, args, below, meth, c, A, Q⟩ := X
  obtain ⟨⟨hx, hb, hml, hown, hts⟩, hK, hA, rfl, rfl, hlk⟩ := C0
  intro ls H locs hl hP hD hS
  exact lv_ineg hx hb hd  (k ls H locs hl hP hD hS)
theorem g_iushr (C0 : gC X E nL cc Ts own R0 l0) {x y : Int32} (hd : decode cc pc = .ok (.iushr, 1)) (k : G X E nL ws cs ss (pc + 1) lv (.int ((x.toUInt32 >>> (y.toUInt32 &&& Int32.toUInt32 31)).toInt32) :: st)) : G X E nL ws cs ss pc lv (.int y :: .int x :: st) := by
  obtain ⟨p, l, e, R, s, m, args, below, meth, c, A, Q⟩ := X
  obtain ⟨⟨hx, hb, hml, hown, hts⟩, hK, hA, rfl, rfl, hlk⟩ := C0
  intro ls H locs hl hP hD hS
  exact lv_iushr hx hb hd rfl (k ls H locs hl hP hD hS)
theorem g_ladd (C0 : gC X E nL cc Ts own R0 l0) {x y : Int64} (hd : decode cc pc = .ok (.ladd, 1)) (k : G X E nL ws cs ss (pc + 1) lv (.long (x + y) :: st)) : G X E nL ws cs ss pc lv (.long y :: .long x :: st) := by
  obtain ⟨p, l, e, R, s, m, args, below, meth, c, A, Q⟩ := X
  obtain ⟨⟨hx, hb, hml, hown, hts⟩, hK, hA, rfl, rfl, hlk⟩ := C0
  intro ls H locs hl hP hD hS
  exact lv_ladd hx hb hd  (k ls H locs hl hP hD hS)
theorem g_lsub (C0 : gC X E nL cc Ts own R0 l0) {x y : Int64} (hd : decode cc pc = .ok (.lsub, 1)) (k : G X E nL ws cs ss (pc + 1) lv (.long (x - y) :: st)) : G X E nL ws cs ss pc lv (.long y :: .long x :: st) := by
  obtain ⟨p, l, e, R, s, m, args, below, meth, c, A, Q⟩ := X
  obtain ⟨⟨hx, hb, hml, hown, hts⟩, hK, hA, rfl, rfl, hlk⟩ := C0
  intro ls H locs hl hP hD hS
  exact lv_lsub hx hb hd  (k ls H locs hl hP hD hS)
theorem g_lmul (C0 : gC X E nL cc Ts own R0 l0) {x y : Int64} (hd : decode cc pc = .ok (.lmul, 1)) (k : G X E nL ws cs ss (pc + 1) lv (.long (x * y) :: st)) : G X E nL ws cs ss pc lv (.long y :: .long x :: st) := by
  obtain ⟨p, l, e, R, s, m, args, below, meth, c, A, Q⟩ := X
  obtain ⟨⟨hx, hb, hml, hown, hts⟩, hK, hA, rfl, rfl, hlk⟩ := C0
  intro ls H locs hl hP hD hS
  exact lv_lmul hx hb hd  (k ls H locs hl hP hD hS)
theorem g_ldiv (C0 : gC X E nL cc Ts own R0 l0) {x y : Int64} (hd : decode cc pc = .ok (.ldiv, 1)) (hne : ¬ y = 0) (k : G X E nL ws cs ss (pc + 1) lv (.long (x / y) :: st)) : G X E nL ws cs ss pc lv (.long y :: .long x :: st) := by
  obtain ⟨p, l, e, R, s, m, args, below, meth, c, A, Q⟩ := X
  obtain ⟨⟨hx, hb, hml, hown, hts⟩, hK, hA, rfl, rfl, hlk⟩ := C0
  intro ls H locs hl hP hD hS
  exact lv_ldiv hx hb hd hne (k ls H locs hl hP hD hS)
theorem g_lrem (C0 : gC X E nL cc Ts own R0 l0) {x y : Int64} (hd : decode cc pc = .ok (.lrem, 1)) (hne : ¬ y = 0) (k : G X E nL ws cs ss (pc + 1) lv (.long (x - x / y * y) :: st)) : G X E nL ws cs ss pc lv (.long y :: .long x :: st) := by
  obtain ⟨p, l, e, R, s, m, args, below, meth, c, A, Q⟩ := X
  obtain ⟨⟨hx, hb, hml, hown, hts⟩, hK, hA, rfl, rfl, hlk⟩ := C0
  intro ls H locs hl hP hD hS
  exact lv_lrem hx hb hd hne (k ls H locs hl hP hD hS)
theorem g_lneg (C0 : gC X E nL cc Ts own R0 l0) {x : Int64} (hd : decode cc pc = .ok (.lneg, 1)) (k : G X E nL ws cs ss (pc + 1) lv (.long (-x) :: st)) : G X E nL ws cs ss pc lv (.long x :: st) := by
  obtain ⟨p, l, e, R, s, m, args, below, meth, c, A, Q⟩ := X
  obtain ⟨⟨hx, hb, hml, hown, hts⟩, hK, hA, rfl, rfl, hlk⟩ := C0
  intro ls H locs hl hP hD hS
  exact lv_lneg hx hb hd  (k ls H locs hl hP hD hS)
theorem g_i2l (C0 : gC X E nL cc Ts own R0 l0) {x : Int32} (hd : decode cc pc = .ok (.i2l, 1)) (k : G X E nL ws cs ss (pc + 1) lv (.long x.toInt64 :: st)) : G X E nL ws cs ss pc lv (.int x :: st) := by
  obtain ⟨p, l, e, R, s, m, args, below, meth, c, A, Q⟩ := X
  obtain ⟨⟨hx, hb, hml, hown, hts⟩, hK, hA, rfl, rfl, hlk⟩ := C0
  intro ls H locs hl hP hD hS
  exact lv_i2l hx hb hd rfl (k ls H locs hl hP hD hS)
theorem g_l2i (C0 : gC X E nL cc Ts own R0 l0) {x : Int64} (hd : decode cc pc = .ok (.l2i, 1)) (k : G X E nL ws cs ss (pc + 1) lv (.int x.toInt32 :: st)) : G X E nL ws cs ss pc lv (.long x :: st) := by
  obtain ⟨p, l, e, R, s, m, args, below, meth, c, A, Q⟩ := X
  obtain ⟨⟨hx, hb, hml, hown, hts⟩, hK, hA, rfl, rfl, hlk⟩ := C0
  intro ls H locs hl hP hD hS
  exact lv_l2i hx hb hd rfl (k ls H locs hl hP hD hS)
theorem g_dup (C0 : gC X E nL cc Ts own R0 l0) {v : Value} (hd : decode cc pc = .ok (.dup, 1)) (hv : v.category = 1) (k : G X E nL ws cs ss (pc + 1) lv (v :: v :: st)) : G X E nL ws cs ss pc lv (v :: st) := by
  obtain ⟨p, l, e, R, s, m, args, below, meth, c, A, Q⟩ := X
  obtain ⟨⟨hx, hb, hml, hown, hts⟩, hK, hA, rfl, rfl, hlk⟩ := C0
  intro ls H locs hl hP hD hS
  exact lv_dup hx hb hd hv (k ls H locs hl hP hD hS)
theorem g_pop (C0 : gC X E nL cc Ts own R0 l0) {v : Value} (hd : decode cc pc = .ok (.pop, 1)) (hv : v.category = 1) (k : G X E nL ws cs ss (pc + 1) lv st) : G X E nL ws cs ss pc lv (v :: st) := by
  obtain ⟨p, l, e, R, s, m, args, below, meth, c, A, Q⟩ := X
  obtain ⟨⟨hx, hb, hml, hown, hts⟩, hK, hA, rfl, rfl, hlk⟩ := C0
  intro ls H locs hl hP hD hS
  exact lv_pop hx hb hd hv (k ls H locs hl hP hD hS)
theorem g_dup2 (C0 : gC X E nL cc Ts own R0 l0) {v u : Value} (hd : decode cc pc = .ok (.dup2, 1)) (hv : v.category = 1) (hu : u.category = 1) (k : G X E nL ws cs ss (pc + 1) lv (v :: u :: v :: u :: st)) : G X E nL ws cs ss pc lv (v :: u :: st) := by
  obtain ⟨p, l, e, R, s, m, args, below, meth, c, A, Q⟩ := X
  obtain ⟨⟨hx, hb, hml, hown, hts⟩, hK, hA, rfl, rfl, hlk⟩ := C0
  intro ls H locs hl hP hD hS
  exact lv_dup2_11 hx hb hd hv hu (k ls H locs hl hP hD hS)
theorem g_dup2L (C0 : gC X E nL cc Ts own R0 l0) {x : Int64} (hd : decode cc pc = .ok (.dup2, 1)) (k : G X E nL ws cs ss (pc + 1) lv (.long x :: .long x :: st)) : G X E nL ws cs ss pc lv (.long x :: st) := by
  obtain ⟨p, l, e, R, s, m, args, below, meth, c, A, Q⟩ := X
  obtain ⟨⟨hx, hb, hml, hown, hts⟩, hK, hA, rfl, rfl, hlk⟩ := C0
  intro ls H locs hl hP hD hS
  exact lv_dup2_2 hx hb hd rfl (k ls H locs hl hP hD hS)
theorem g_goto (C0 : gC X E nL cc Ts own R0 l0) {off : Int} {tgt : Nat} (hd : decode cc pc = .ok (.goto off, 3)) (ht : (pc : Int) + off = (tgt : Int)) (k : G X E nL ws cs ss tgt lv st) : G X E nL ws cs ss pc lv st := by
  obtain ⟨p, l, e, R, s, m, args, below, meth, c, A, Q⟩ := X
  obtain ⟨⟨hx, hb, hml, hown, hts⟩, hK, hA, rfl, rfl, hlk⟩ := C0
  intro ls H locs hl hP hD hS
  exact lv_goto hx hb hd ht (k ls H locs hl hP hD hS)
theorem g_if_eq (C0 : gC X E nL cc Ts own R0 l0) {x : Int32} {off : Int} {tgt : Nat} (hd : decode cc pc = .ok (.ifCond .eq off, 3)) (ht : (pc : Int) + off = (tgt : Int)) (kt : x = 0 → G X E nL ws cs ss tgt lv st) (kf : ¬ x = 0 → G X E nL ws cs ss (pc + 3) lv st) : G X E nL ws cs ss pc lv (.int x :: st) := by
  obtain ⟨p, l, e, R, s, m, args, below, meth, c, A, Q⟩ := X
  obtain ⟨⟨hx, hb, hml, hown, hts⟩, hK, hA, rfl, rfl, hlk⟩ := C0
  intro ls H locs hl hP hD hS
  exact lv_if_eq hx hb hd ht (fun h => kt h ls H locs hl hP hD hS) (fun h => kf h ls H locs hl hP hD hS)
theorem g_icmp_eq (C0 : gC X E nL cc Ts own R0 l0) {x y : Int32} {off : Int} {tgt : Nat} (hd : decode cc pc = .ok (.if_icmp .eq off, 3)) (ht : (pc : Int) + off = (tgt : Int)) (kt : x = y → G X E nL ws cs ss tgt lv st) (kf : ¬ x = y → G X E nL ws cs ss (pc + 3) lv st) : G X E nL ws cs ss pc lv (.int y :: .int x :: st) := by
  obtain ⟨p, l, e, R, s, m, args, below, meth, c, A, Q⟩ := X
  obtain ⟨⟨hx, hb, hml, hown, hts⟩, hK, hA, rfl, rfl, hlk⟩ := C0
  intro ls H locs hl hP hD hS
  exact lv_icmp_eq hx hb hd ht (fun h => kt h ls H locs hl hP hD hS) (fun h => kf h ls H locs hl hP hD hS)
theorem g_lcmp_eq (C0 : gC X E nL cc Ts own R0 l0) {x y : Int64} {off : Int} {tgt : Nat} (hd : decode cc pc = .ok (.lcmp, 1)) (hd2 : decode cc (pc + 1) = .ok (.ifCond .eq off, 3)) (ht : ((pc + 1 : Nat) : Int) + off = (tgt : Int)) (kt : x = y → G X E nL ws cs ss tgt lv st) (kf : ¬ x = y → G X E nL ws cs ss (pc + 4) lv st) : G X E nL ws cs ss pc lv (.long y :: .long x :: st) := by
  obtain ⟨p, l, e, R, s, m, args, below, meth, c, A, Q⟩ := X
  obtain ⟨⟨hx, hb, hml, hown, hts⟩, hK, hA, rfl, rfl, hlk⟩ := C0
  intro ls H locs hl hP hD hS
  exact W.lcmp hx hb hd (lv_if_eq hx hb hd2 ht (fun h => kt ((lg_cmp_eq x y).mp h) ls H locs hl hP hD hS) (fun h => kf ((not_congr (lg_cmp_eq x y)).mp h) ls H locs hl hP hD hS))
theorem g_if_ne (C0 : gC X E nL cc Ts own R0 l0) {x : Int32} {off : Int} {tgt : Nat} (hd : decode cc pc = .ok (.ifCond .ne off, 3)) (ht : (pc : Int) + off = (tgt : Int)) (kt : ¬ x = 0 → G X E nL ws cs ss tgt lv st) (kf : x = 0 → G X E nL ws cs ss (pc + 3) lv st) : G X E nL ws cs ss pc lv (.int x :: st) := by
  obtain ⟨p, l, e, R, s, m, args, below, meth, c, A, Q⟩ := X
  obtain ⟨⟨hx, hb, hml, hown, hts⟩, hK, hA, rfl, rfl, hlk⟩ := C0
  intro ls H locs hl hP hD hS
  exact lv_if_ne hx hb hd ht (fun h => kt h ls H locs hl hP hD hS) (fun h => kf h ls H locs hl hP hD hS)
theorem g_icmp_ne (C0 : gC X E nL cc Ts own R0 l0) {x y : Int32} {off : Int} {tgt : Nat} (hd : decode cc pc = .ok (.if_icmp .ne off, 3)) (ht : (pc : Int) + off = (tgt : Int)) (kt : ¬ x = y → G X E nL ws cs ss tgt lv st) (kf : x = y → G X E nL ws cs ss (pc + 3) lv st) : G X E nL ws cs ss pc lv (.int y :: .int x :: st) := by
  obtain ⟨p, l, e, R, s, m, args, below, meth, c, A, Q⟩ := X
  obtain ⟨⟨hx, hb, hml, hown, hts⟩, hK, hA, rfl, rfl, hlk⟩ := C0
  intro ls H locs hl hP hD hS
  exact lv_icmp_ne hx hb hd ht (fun h => kt h ls H locs hl hP hD hS) (fun h => kf h ls H locs hl hP hD hS)
theorem g_lcmp_ne (C0 : gC X E nL cc Ts own R0 l0) {x y : Int64} {off : Int} {tgt : Nat} (hd : decode cc pc = .ok (.lcmp, 1)) (hd2 : decode cc (pc + 1) = .ok (.ifCond .ne off, 3)) (ht : ((pc + 1 : Nat) : Int) + off = (tgt : Int)) (kt : ¬ x = y → G X E nL ws cs ss tgt lv st) (kf : x = y → G X E nL ws cs ss (pc + 4) lv st) : G X E nL ws cs ss pc lv (.long y :: .long x :: st) := by
  obtain ⟨p, l, e, R, s, m, args, below, meth, c, A, Q⟩ := X
  obtain ⟨⟨hx, hb, hml, hown, hts⟩, hK, hA, rfl, rfl, hlk⟩ := C0
  intro ls H locs hl hP hD hS
  exact W.lcmp hx hb hd (lv_if_ne hx hb hd2 ht (fun h => kt ((not_congr (lg_cmp_eq x y)).mp h) ls H locs hl hP hD hS) (fun h => kf ((lg_cmp_eq x y).mp h) ls H locs hl hP hD hS))
theorem g_if_lt (C0 : gC X E nL cc Ts own R0 l0) {x : Int32} {off : Int} {tgt : Nat} (hd : decode cc pc = .ok (.ifCond .lt off, 3)) (ht : (pc : Int) + off = (tgt : Int)) (kt : x < 0 → G X E nL ws cs ss tgt lv st) (kf : ¬ x < 0 → G X E nL ws cs ss (pc + 3) lv st) : G X E nL ws cs ss pc lv (.int x :: st) := by
  obtain ⟨p, l, e, R, s, m, args, below, meth, c, A, Q⟩ := X
  obtain ⟨⟨hx, hb, hml, hown, hts⟩, hK, hA, rfl, rfl, hlk⟩ := C0
  intro ls H locs hl hP hD hS
  exact lv_if_lt hx hb hd ht (fun h => kt h ls H locs hl hP hD hS) (fun h => kf h ls H locs hl hP hD hS)
theorem g_icmp_lt (C0 : gC X E nL cc Ts own R0 l0) {x y : Int32} {off : Int} {tgt : Nat} (hd : decode cc pc = .ok (.if_icmp .lt off, 3)) (ht : (pc : Int) + off = (tgt : Int)) (kt : x < y → G X E nL ws cs ss tgt lv st) (kf : ¬ x < y → G X E nL ws cs ss (pc + 3) lv st) : G X E nL ws cs ss pc lv (.int y :: .int x :: st) := by
  obtain ⟨p, l, e, R, s, m, args, below, meth, c, A, Q⟩ := X
  obtain ⟨⟨hx, hb, hml, hown, hts⟩, hK, hA, rfl, rfl, hlk⟩ := C0
  intro ls H locs hl hP hD hS
  exact lv_icmp_lt hx hb hd ht (fun h => kt h ls H locs hl hP hD hS) (fun h => kf h ls H locs hl hP hD hS)
theorem g_lcmp_lt (C0 : gC X E nL cc Ts own R0 l0) {x y : Int64} {off : Int} {tgt : Nat} (hd : decode cc pc = .ok (.lcmp, 1)) (hd2 : decode cc (pc + 1) = .ok (.ifCond .lt off, 3)) (ht : ((pc + 1 : Nat) : Int) + off = (tgt : Int)) (kt : x < y → G X E nL ws cs ss tgt lv st) (kf : ¬ x < y → G X E nL ws cs ss (pc + 4) lv st) : G X E nL ws cs ss pc lv (.long y :: .long x :: st) := by
  obtain ⟨p, l, e, R, s, m, args, below, meth, c, A, Q⟩ := X
  obtain ⟨⟨hx, hb, hml, hown, hts⟩, hK, hA, rfl, rfl, hlk⟩ := C0
  intro ls H locs hl hP hD hS
  exact W.lcmp hx hb hd (lv_if_lt hx hb hd2 ht (fun h => kt ((lg_cmp_lt x y).mp h) ls H locs hl hP hD hS) (fun h => kf ((not_congr (lg_cmp_lt x y)).mp h) ls H locs hl hP hD hS))
theorem g_if_ge (C0 : gC X E nL cc Ts own R0 l0) {x : Int32} {off : Int} {tgt : Nat} (hd : decode cc pc = .ok (.ifCond .ge off, 3)) (ht : (pc : Int) + off = (tgt : Int)) (kt : 0 ≤ x → G X E nL ws cs ss tgt lv st) (kf : ¬ 0 ≤ x → G X E nL ws cs ss (pc + 3) lv st) : G X E nL ws cs ss pc lv (.int x :: st) := by
  obtain ⟨p, l, e, R, s, m, args, below, meth, c, A, Q⟩ := X
  obtain ⟨⟨hx, hb, hml, hown, hts⟩, hK, hA, rfl, rfl, hlk⟩ := C0
  intro ls H locs hl hP hD hS
  exact lv_if_ge hx hb hd ht (fun h => kt h ls H locs hl hP hD hS) (fun h => kf h ls H locs hl hP hD hS)
theorem g_icmp_ge (C0 : gC X E nL cc Ts own R0 l0) {x y : Int32} {off : Int} {tgt : Nat} (hd : decode cc pc = .ok (.if_icmp .ge off, 3)) (ht : (pc : Int) + off = (tgt : Int)) (kt : y ≤ x → G X E nL ws cs ss tgt lv st) (kf : ¬ y ≤ x → G X E nL ws cs ss (pc + 3) lv st) : G X E nL ws cs ss pc lv (.int y :: .int x :: st) := by
  obtain ⟨p, l, e, R, s, m, args, below, meth, c, A, Q⟩ := X
  obtain ⟨⟨hx, hb, hml, hown, hts⟩, hK, hA, rfl, rfl, hlk⟩ := C0
  intro ls H locs hl hP hD hS
  exact lv_icmp_ge hx hb hd ht (fun h => kt h ls H locs hl hP hD hS) (fun h => kf h ls H locs hl hP hD hS)
theorem g_lcmp_ge (C0 : gC X E nL cc Ts own R0 l0) {x y : Int64} {off : Int} {tgt : Nat} (hd : decode cc pc = .ok (.lcmp, 1)) (hd2 : decode cc (pc + 1) = .ok (.ifCond .ge off, 3)) (ht : ((pc + 1 : Nat) : Int) + off = (tgt : Int)) (kt : y ≤ x → G X E nL ws cs ss tgt lv st) (kf : ¬ y ≤ x → G X E nL ws cs ss (pc + 4) lv st) : G X E nL ws cs ss pc lv (.long y :: .long x :: st) := by
  obtain ⟨p, l, e, R, s, m, args, below, meth, c, A, Q⟩ := X
  obtain ⟨⟨hx, hb, hml, hown, hts⟩, hK, hA, rfl, rfl, hlk⟩ := C0
  intro ls H locs hl hP hD hS
  exact W.lcmp hx hb hd (lv_if_ge hx hb hd2 ht (fun h => kt ((lg_cmp_ge x y).mp h) ls H locs hl hP hD hS) (fun h => kf ((not_congr (lg_cmp_ge x y)).mp h) ls H locs hl hP hD hS))
theorem g_if_gt (C0 : gC X E nL cc Ts own R0 l0) {x : Int32} {off : Int} {tgt : Nat} (hd : decode cc pc = .ok (.ifCond .gt off, 3)) (ht : (pc : Int) + off = (tgt : Int)) (kt : 0 < x → G X E nL ws cs ss tgt lv st) (kf : ¬ 0 < x → G X E nL ws cs ss (pc + 3) lv st) : G X E nL ws cs ss pc lv (.int x :: st) := by
  obtain ⟨p, l, e, R, s, m, args, below, meth, c, A, Q⟩ := X
  obtain ⟨⟨hx, hb, hml, hown, hts⟩, hK, hA, rfl, rfl, hlk⟩ := C0
  intro ls H locs hl hP hD hS
  exact lv_if_gt hx hb hd ht (fun h => kt h ls H locs hl hP hD hS) (fun h => kf h ls H locs hl hP hD hS)
theorem g_icmp_gt (C0 : gC X E nL cc Ts own R0 l0) {x y : Int32} {off : Int} {tgt : Nat} (hd : decode cc pc = .ok (.if_icmp .gt off, 3)) (ht : (pc : Int) + off = (tgt : Int)) (kt : y < x → G X E nL ws cs ss tgt lv st) (kf : ¬ y < x → G X E nL ws cs ss (pc + 3) lv st) : G X E nL ws cs ss pc lv (.int y :: .int x :: st) := by
  obtain ⟨p, l, e, R, s, m, args, below, meth, c, A, Q⟩ := X
  obtain ⟨⟨hx, hb, hml, hown, hts⟩, hK, hA, rfl, rfl, hlk⟩ := C0
  intro ls H locs hl hP hD hS
  exact lv_icmp_gt hx hb hd ht (fun h => kt h ls H locs hl hP hD hS) (fun h => kf h ls H locs hl hP hD hS)
theorem g_lcmp_gt (C0 : gC X E nL cc Ts own R0 l0) {x y : Int64} {off : Int} {tgt : Nat} (hd : decode cc pc = .ok (.lcmp, 1)) (hd2 : decode cc (pc + 1) = .ok (.ifCond .gt off, 3)) (ht : ((pc + 1 : Nat) : Int) + off = (tgt : Int)) (kt : y < x → G X E nL ws cs ss tgt lv st) (kf : ¬ y < x → G X E nL ws cs ss (pc + 4) lv st) : G X E nL ws cs ss pc lv (.long y :: .long x :: st) := by
  obtain ⟨p, l, e, R, s, m, args, below, meth, c, A, Q⟩ := X
  obtain ⟨⟨hx, hb, hml, hown, hts⟩, hK, hA, rfl, rfl, hlk⟩ := C0
  intro ls H locs hl hP hD hS
  exact W.lcmp hx hb hd (lv_if_gt hx hb hd2 ht (fun h => kt ((lg_cmp_gt x y).mp h) ls H locs hl hP hD hS) (fun h => kf ((not_congr (lg_cmp_gt x y)).mp h) ls H locs hl hP hD hS))
theorem g_if_le (C0 : gC X E nL cc Ts own R0 l0) {x : Int32} {off : Int} {tgt : Nat} (hd : decode cc pc = .ok (.ifCond .le off, 3)) (ht : (pc : Int) + off = (tgt : Int)) (kt : x ≤ 0 → G X E nL ws cs ss tgt lv st) (kf : ¬ x ≤ 0 → G X E nL ws cs ss (pc + 3) lv st) : G X E nL ws cs ss pc lv (.int x :: st) := by
  obtain ⟨p, l, e, R, s, m, args, below, meth, c, A, Q⟩ := X
  obtain ⟨⟨hx, hb, hml, hown, hts⟩, hK, hA, rfl, rfl, hlk⟩ := C0
  intro ls H locs hl hP hD hS
  exact lv_if_le hx hb hd ht (fun h => kt h ls H locs hl hP hD hS) (fun h => kf h ls H locs hl hP hD hS)
theorem g_icmp_le (C0 : gC X E nL cc Ts own R0 l0) {x y : Int32} {off : Int} {tgt : Nat} (hd : decode cc pc = .ok (.if_icmp .le off, 3)) (ht : (pc : Int) + off = (tgt : Int)) (kt : x ≤ y → G X E nL ws cs ss tgt lv st) (kf : ¬ x ≤ y → G X E nL ws cs ss (pc + 3) lv st) : G X E nL ws cs ss pc lv (.int y :: .int x :: st) := by
  obtain ⟨p, l, e, R, s, m, args, below, meth, c, A, Q⟩ := X
  obtain ⟨⟨hx, hb, hml, hown, hts⟩, hK, hA, rfl, rfl, hlk⟩ := C0
  intro ls H locs hl hP hD hS
  exact lv_icmp_le hx hb hd ht (fun h => kt h ls H locs hl hP hD hS) (fun h => kf h ls H locs hl hP hD hS)
theorem g_lcmp_le (C0 : gC X E nL cc Ts own R0 l0) {x y : Int64} {off : Int} {tgt : Nat} (hd : decode cc pc = .ok (.lcmp, 1)) (hd2 : decode cc (pc + 1) = .ok (.ifCond .le off, 3)) (ht : ((pc + 1 : Nat) : Int) + off = (tgt : Int)) (kt : x ≤ y → G X E nL ws cs ss tgt lv st) (kf : ¬ x ≤ y → G X E nL ws cs ss (pc + 4) lv st) : G X E nL ws cs ss pc lv (.long y :: .long x :: st) := by
  obtain ⟨p, l, e, R, s, m, args, below, meth, c, A, Q⟩ := X
  obtain ⟨⟨hx, hb, hml, hown, hts⟩, hK, hA, rfl, rfl, hlk⟩ := C0
  intro ls H locs hl hP hD hS
  exact W.lcmp hx hb hd (lv_if_le hx hb hd2 ht (fun h => kt ((lg_cmp_le x y).mp h) ls H locs hl hP hD hS) (fun h => kf ((not_congr (lg_cmp_le x y)).mp h) ls H locs hl hP hD hS))
theorem g_ifb_eq (C0 : gC X E nL cc Ts own R0 l0) {b : Bool} {off : Int} {tgt : Nat} (hd : decode cc pc = .ok (.ifCond .eq off, 3)) (ht : (pc : Int) + off = (tgt : Int)) (kt : b = false → G X E nL ws cs ss tgt lv st) (kf : b = true → G X E nL ws cs ss (pc + 3) lv st) : G X E nL ws cs ss pc lv (.int (bI b) :: st) := by
  obtain ⟨p, l, e, R, s, m, args, below, meth, c, A, Q⟩ := X
  obtain ⟨⟨hx, hb, hml, hown, hts⟩, hK, hA, rfl, rfl, hlk⟩ := C0
  intro ls H locs hl hP hD hS
  exact lv_if_eq hx hb hd ht (fun h => kt ((bI_0 b).mp h) ls H locs hl hP hD hS) (fun h => kf ((bI_n b).mp h) ls H locs hl hP hD hS)
theorem g_ifb_ne (C0 : gC X E nL cc Ts own R0 l0) {b : Bool} {off : Int} {tgt : Nat} (hd : decode cc pc = .ok (.ifCond .ne off, 3)) (ht : (pc : Int) + off = (tgt : Int)) (kt : b = true → G X E nL ws cs ss tgt lv st) (kf : b = false → G X E nL ws cs ss (pc + 3) lv st) : G X E nL ws cs ss pc lv (.int (bI b) :: st) := by
  obtain ⟨p, l, e, R, s, m, args, below, meth, c, A, Q⟩ := X
  obtain ⟨⟨hx, hb, hml, hown, hts⟩, hK, hA, rfl, rfl, hlk⟩ := C0
  intro ls H locs hl hP hD hS
  exact lv_if_ne hx hb hd ht (fun h => kt ((bI_n b).mp h) ls H locs hl hP hD hS) (fun h => kf ((bI_0 b).mp h) ls H locs hl hP hD hS)
theorem g_ifnull (C0 : gC X E nL cc Ts own R0 l0) {x : Nat} {off : Int} (hd : decode cc pc = .ok (.ifnull off, 3)) (k : G X E nL ws cs ss (pc + 3) lv st) : G X E nL ws cs ss pc lv (.ref x :: st) := by
  obtain ⟨p, l, e, R, s, m, args, below, meth, c, A, Q⟩ := X
  obtain ⟨⟨hx, hb, hml, hown, hts⟩, hK, hA, rfl, rfl, hlk⟩ := C0
  intro ls H locs hl hP hD hS
  exact lv_ifnull hx hb hd (k ls H locs hl hP hD hS)
theorem g_ifnullN (C0 : gC X E nL cc Ts own R0 l0) {off : Int} {tgt : Nat} (hd : decode cc pc = .ok (.ifnull off, 3)) (ht : (pc : Int) + off = (tgt : Int)) (k : G X E nL ws cs ss tgt lv st) : G X E nL ws cs ss pc lv (.null :: st) := by
  obtain ⟨p, l, e, R, s, m, args, below, meth, c, A, Q⟩ := X
  obtain ⟨⟨hx, hb, hml, hown, hts⟩, hK, hA, rfl, rfl, hlk⟩ := C0
  intro ls H locs hl hP hD hS
  exact lv_ifnullN hx hb hd ht (k ls H locs hl hP hD hS)
theorem g_ifnonnull (C0 : gC X E nL cc Ts own R0 l0) {x : Nat} {off : Int} {tgt : Nat} (hd : decode cc pc = .ok (.ifnonnull off, 3)) (ht : (pc : Int) + off = (tgt : Int)) (k : G X E nL ws cs ss tgt lv st) : G X E nL ws cs ss pc lv (.ref x :: st) := by
  obtain ⟨p, l, e, R, s, m, args, below, meth, c, A, Q⟩ := X
  obtain ⟨⟨hx, hb, hml, hown, hts⟩, hK, hA, rfl, rfl, hlk⟩ := C0
  intro ls H locs hl hP hD hS
  exact lv_ifnonnull hx hb hd ht (k ls H locs hl hP hD hS)
theorem g_ifnonnullN (C0 : gC X E nL cc Ts own R0 l0) {off : Int} (hd : decode cc pc = .ok (.ifnonnull off, 3)) (k : G X E nL ws cs ss (pc + 3) lv st) : G X E nL ws cs ss pc lv (.null :: st) := by
  obtain ⟨p, l, e, R, s, m, args, below, meth, c, A, Q⟩ := X
  obtain ⟨⟨hx, hb, hml, hown, hts⟩, hK, hA, rfl, rfl, hlk⟩ := C0
  intro ls H locs hl hP hD hS
  exact lv_ifnonnullN hx hb hd (k ls H locs hl hP hD hS)
theorem g_tabOut (C0 : gC X E nL cc Ts own R0 l0) {dflt lo hi : Int} {offs : Array Int} {len : Nat} {x : Int32} {tgt : Nat} (hd : decode cc pc = .ok (.tableswitch dflt lo hi offs, len)) (h : x.toInt < lo ∨ hi < x.toInt) (ht : (pc : Int) + dflt = (tgt : Int)) (k : G X E nL ws cs ss tgt lv st) : G X E nL ws cs ss pc lv (.int x :: st) := by
  obtain ⟨p, l, e, R, s, m, args, below, meth, c, A, Q⟩ := X
  obtain ⟨⟨hx, hb, hml, hown, hts⟩, hK, hA, rfl, rfl, hlk⟩ := C0
  intro ls H locs hl hP hD hS
  exact lv_tableOut hx hb hd h ht (k ls H locs hl hP hD hS)
theorem g_tabIn (C0 : gC X E nL cc Ts own R0 l0) {dflt lo hi : Int} {offs : Array Int} {len : Nat} {x : Int32} {off : Int} {tgt : Nat} (hd : decode cc pc = .ok (.tableswitch dflt lo hi offs, len)) (z : Int) (hz : x.toInt = z) (h1 : lo ≤ z) (h2 : z ≤ hi) (ho : offs[(z - lo).toNat]? = some off) (ht : (pc : Int) + off = (tgt : Int)) (k : G X E nL ws cs ss tgt lv st) : G X E nL ws cs ss pc lv (.int x :: st) := by
  obtain ⟨p, l, e, R, s, m, args, below, meth, c, A, Q⟩ := X
  obtain ⟨⟨hx, hb, hml, hown, hts⟩, hK, hA, rfl, rfl, hlk⟩ := C0
  intro ls H locs hl hP hD hS
  exact lv_tableIn hx hb hd (by omega) (by omega) (by rw [hz]; exact ho) ht (k ls H locs hl hP hD hS)
theorem g_get (C0 : gC X E nL cc Ts own R0 l0) {ref C : String} {T : u_T} {N ci index a : Nat} {v : Value} (hd : decode cc pc = .ok (.getfield index, 3)) (q0 : Nat) {fs : List Value} (he : ws[q0]? = some (a, .inr (ci, fs))) (f : Nat) (hv : fs[f]? = some v) (hc : vwCl[ci]? = some (C, T, N)) (hin : ∀ w ∈ u_ws C T N, w ∈ Ts) (hf : f < N) (hlink : Cond.fieldLink own index ref (T f).2.1 (T f).2.2.1 ∈ Ts) (href : ref = (T f).1) (k : G X E nL ws cs ss (pc + 3) lv (v :: st)) : G X E nL ws cs ss pc lv (.ref a :: st) := by
  obtain ⟨p, l, e, R, s, m, args, below, meth, c, A, Q⟩ := X
  obtain ⟨⟨hx, hb, hml, hown, hts⟩, hK, hA, rfl, rfl, hlk⟩ := C0
  intro ls H locs hl hP hD hS
  exact va_get hx hb hts hin hown hK.1 hP q0 he hc f hf (hts _ hlink) (fun _ h9 => by rw [href]; exact h9) hv hd (k ls H locs hl hP hD hS)
theorem g_put (C0 : gC X E nL cc Ts own R0 l0) {ref C : String} {T : u_T} {N ci index a : Nat} {v : Value} {ty : FieldType} (hd : decode cc pc = .ok (.putfield index, 3)) (q0 : Nat) {fs : List Value} (he : ws[q0]? = some (a, .inr (ci, fs))) (f : Nat) (hc : vwCl[ci]? = some (C, T, N)) (hin : ∀ w ∈ u_ws C T N, w ∈ Ts) (ty0 : Nat → FieldType) (hty : ∀ k, k < N → parseFieldDescriptor (T k).2.2.1 = some (ty0 k)) (hnm : ∀ a, a < N → ∀ b, b < N → a ≠ b → (T a).2.1 ≠ (T b).2.1) (hf : f < N) (hlink : Cond.fieldLink own index ref (T f).2.1 (T f).2.2.1 ∈ Ts) (href : ref = (T f).1) (hfin : (T f).2.2.2 = false) (hdd : parseFieldDescriptor (T f).2.2.1 = some ty) (hn : narrow ty v = v) (hfit : fits ty v = true) (hl2 : f < fs.length) {ws2 : va_W} (hw2 : ws.set q0 (a, .inr (ci, fs.set f v)) = ws2) (k : G X E nL ws2 cs ss (pc + 3) lv st) : G X E nL ws cs ss pc lv (v :: .ref a :: st) := by
  obtain ⟨p, l, e, R, s, m, args, below, meth, c, A, Q⟩ := X
  obtain ⟨⟨hx, hb, hml, hown, hts⟩, hK, hA, rfl, rfl, hlk⟩ := C0
  intro ls H locs hl hP hD hS
  subst hw2
  exact va_put hx hb hts hin ty0 hty hnm hown hK.1 hP hD hS q0 he hc f hf (hts _ hlink) (fun _ h9 => by rw [href]; exact h9) hfin hdd hn hfit hl2 hd (fun H locs hP hD hS => k ls H locs hl hP hD hS)
theorem g_iald (C0 : gC X E nL cc Ts own R0 l0) {a n : Nat} {cA : ClassId} {f : Nat → Int32} {i : Int32} (hd : decode cc pc = .ok (.iaload, 1)) (q0 : Nat) (ha : ws[q0]? = some (a, .inl (E.I, n, .inl f))) (hin : vp_in i n) (k : G X E nL ws cs ss (pc + 1) lv (.int (f i.toNatClampNeg) :: st)) : G X E nL ws cs ss pc lv (.int i :: .ref a :: st) := by
  obtain ⟨p, l, e, R, s, m, args, below, meth, c, A, Q⟩ := X
  obtain ⟨⟨hx, hb, hml, hown, hts⟩, hK, hA, rfl, rfl, hlk⟩ := C0
  intro ls H locs hl hP hD hS
  exact va_iald hx hb hK.1 hP q0 0 ha rfl hin hd (k ls H locs hl hP hD hS)
theorem g_lald (C0 : gC X E nL cc Ts own R0 l0) {a n : Nat} {f : Nat → Int64} {i : Int32} (hd : decode cc pc = .ok (.laload, 1)) (q0 : Nat) (ha : ws[q0]? = some (a, .inl (E.J, n, .inr (.inl f)))) (hin : vp_in i n) (k : G X E nL ws cs ss (pc + 1) lv (.long (f i.toNatClampNeg) :: st)) : G X E nL ws cs ss pc lv (.int i :: .ref a :: st) := by
  obtain ⟨p, l, e, R, s, m, args, below, meth, c, A, Q⟩ := X
  obtain ⟨⟨hx, hb, hml, hown, hts⟩, hK, hA, rfl, rfl, hlk⟩ := C0
  intro ls H locs hl hP hD hS
  exact va_lald hx hb hK.1 hP q0 1 ha rfl hin hd (k ls H locs hl hP hD hS)
theorem g_zald (C0 : gC X E nL cc Ts own R0 l0) {a n : Nat} {f : Nat → Bool} {i : Int32} (hd : decode cc pc = .ok (.baload, 1)) (q0 : Nat) (ha : ws[q0]? = some (a, .inl (E.Z, n, .inl (fun j => bI (f j))))) (hin : vp_in i n) (k : G X E nL ws cs ss (pc + 1) lv (.int (bI (f i.toNatClampNeg)) :: st)) : G X E nL ws cs ss pc lv (.int i :: .ref a :: st) := by
  obtain ⟨p, l, e, R, s, m, args, below, meth, c, A, Q⟩ := X
  obtain ⟨⟨hx, hb, hml, hown, hts⟩, hK, hA, rfl, rfl, hlk⟩ := C0
  intro ls H locs hl hP hD hS
  exact va_zald hx hb hK.1 hP q0 2 ha rfl hin hd (k ls H locs hl hP hD hS)
theorem g_aald (C0 : gC X E nL cc Ts own R0 l0) {a n : Nat} {f : Nat → Option Nat} {i : Int32} (hd : decode cc pc = .ok (.aaload, 1)) (q0 : Nat) (ha : ws[q0]? = some (a, .inl (E.O, n, .inr (.inr (.inr (.inr f)))))) (hin : vp_in i n) {v : Value} (hv : va_rf (f i.toNatClampNeg) = v) (k : G X E nL ws cs ss (pc + 1) lv (v :: st)) : G X E nL ws cs ss pc lv (.int i :: .ref a :: st) := by
  obtain ⟨p, l, e, R, s, m, args, below, meth, c, A, Q⟩ := X
  obtain ⟨⟨hx, hb, hml, hown, hts⟩, hK, hA, rfl, rfl, hlk⟩ := C0
  intro ls H locs hl hP hD hS
  subst hv
  exact va_aldq hx hb hK.1 hP q0 3 ha rfl hin hd (k ls H locs hl hP hD hS)
theorem g_iast (C0 : gC X E nL cc Ts own R0 l0) {a n : Nat} {f : Nat → Int32} {i x : Int32} (hd : decode cc pc = .ok (.iastore, 1)) (q0 : Nat) (ha : ws[q0]? = some (a, .inl (E.I, n, .inl f))) (hin : vp_in i n) {ws2 : va_W} (hw2 : ws.set q0 (a, .inl (E.I, n, .inl (upd f i.toNatClampNeg x))) = ws2) (k : G X E nL ws2 cs ss (pc + 1) lv st) : G X E nL ws cs ss pc lv (.int x :: .int i :: .ref a :: st) := by
  obtain ⟨p, l, e, R, s, m, args, below, meth, c, A, Q⟩ := X
  obtain ⟨⟨hx, hb, hml, hown, hts⟩, hK, hA, rfl, rfl, hlk⟩ := C0
  intro ls H locs hl hP hD hS
  subst hw2
  exact va_iast hx hb hK.1 hP hD hS q0 0 ha rfl hin hd (fun H locs hP hD hS => k ls H locs hl hP hD hS)
theorem g_last (C0 : gC X E nL cc Ts own R0 l0) {a n : Nat} {f : Nat → Int64} {i : Int32} {x : Int64} (hd : decode cc pc = .ok (.lastore, 1)) (q0 : Nat) (ha : ws[q0]? = some (a, .inl (E.J, n, .inr (.inl f)))) (hin : vp_in i n) {ws2 : va_W} (hw2 : ws.set q0 (a, .inl (E.J, n, .inr (.inl (vp_updL f i.toNatClampNeg x)))) = ws2) (k : G X E nL ws2 cs ss (pc + 1) lv st) : G X E nL ws cs ss pc lv (.long x :: .int i :: .ref a :: st) := by
  obtain ⟨p, l, e, R, s, m, args, below, meth, c, A, Q⟩ := X
  obtain ⟨⟨hx, hb, hml, hown, hts⟩, hK, hA, rfl, rfl, hlk⟩ := C0
  intro ls H locs hl hP hD hS
  subst hw2
  exact va_last hx hb hK.1 hP hD hS q0 1 ha rfl hin hd (fun H locs hP hD hS => k ls H locs hl hP hD hS)
theorem g_zast (C0 : gC X E nL cc Ts own R0 l0) {a n : Nat} {f : Nat → Bool} {i : Int32} {b : Bool} (hd : decode cc pc = .ok (.bastore, 1)) (q0 : Nat) (ha : ws[q0]? = some (a, .inl (E.Z, n, .inl (fun j => bI (f j))))) (hin : vp_in i n) {ws2 : va_W} (hw2 : ws.set q0 (a, .inl (E.Z, n, .inl (fun j => bI (updB f i.toNatClampNeg b j)))) = ws2) (k : G X E nL ws2 cs ss (pc + 1) lv st) : G X E nL ws cs ss pc lv (.int (bI b) :: .int i :: .ref a :: st) := by
  obtain ⟨p, l, e, R, s, m, args, below, meth, c, A, Q⟩ := X
  obtain ⟨⟨hx, hb, hml, hown, hts⟩, hK, hA, rfl, rfl, hlk⟩ := C0
  intro ls H locs hl hP hD hS
  subst hw2
  exact va_zast hx hb hK.1 hP hD hS q0 2 ha rfl hin hd (fun H locs hP hD hS => k ls H locs hl (by rw [← updB_e]; exact hP) (by rw [← updB_e]; exact hD) hS)
theorem g_aast (C0 : gC X E nL cc Ts own R0 l0) {a n v ci : Nat} {vs : List Value} {T : u_T} {N : Nat} {f : Nat → Option Nat} {i : Int32} (hd : decode cc pc = .ok (.aastore, 1)) (q0 q1 : Nat) (ha : ws[q0]? = some (a, .inl (E.O, n, .inr (.inr (.inr (.inr f)))))) (hv : ws[q1]? = some (v, .inr (ci, vs))) (hc : vwCl[ci]? = some ("GlueHouse$Lap", T, N)) (hin : vp_in i n) {ws2 : va_W} (hw2 : ws.set q0 (a, .inl (E.O, n, .inr (.inr (.inr (.inr (va_up f i.toNatClampNeg (some v))))))) = ws2) (k : G X E nL ws2 cs ss (pc + 1) lv st) : G X E nL ws cs ss pc lv (.ref v :: .int i :: .ref a :: st) := by
  obtain ⟨p, l, e, R, s, m, args, below, meth, c, A, Q⟩ := X
  obtain ⟨⟨hx, hb, hml, hown, hts⟩, hK, hA, rfl, rfl, hlk⟩ := C0
  intro ls H locs hl hP hD hS
  subst hw2
  exact va_astq hx hb hK.1 hP hD hS q0 3 q1 ci ha rfl hv hc hin hd (fun H locs hP hD hS => k ls H locs hl hP hD hS)
theorem g_alen (C0 : gC X E nL cc Ts own R0 l0) {a : Nat} {cA : ClassId} {x : vp_A} {ty : FieldType} {v : Int32} (hd : decode cc pc = .ok (.arraylength, 1)) (q0 t0 : Nat) (ha : ws[q0]? = some (a, .inl (cA, x))) (ht : (tyL E)[t0]? = some (cA, ty)) (hv : Int32.ofNat x.1 = v) (k : G X E nL ws cs ss (pc + 1) lv (.int v :: st)) : G X E nL ws cs ss pc lv (.ref a :: st) := by
  obtain ⟨p, l, e, R, s, m, args, below, meth, c, A, Q⟩ := X
  obtain ⟨⟨hx, hb, hml, hown, hts⟩, hK, hA, rfl, rfl, hlk⟩ := C0
  intro ls H locs hl hP hD hS
  exact va_alen hx hb hK.1 hP q0 t0 ha ht hv hd (k ls H locs hl hP hD hS)
theorem g_mmax (C0 : gC X E nL cc Ts own R0 l0) {x y : Int32} {index : Nat} (hd : decode cc pc = .ok (.invokestatic index, 3)) (h1 : Cond.methodLink own index Lib.Math.max.name ∈ Ts) (h2 : Cond.static Lib.Math.max.name ∈ Ts) (h3 : Cond.initialized "java/lang/Math" ∈ Ts) (h4 : Cond.code Lib.Math.max.name Lib.Math.max.code 2 (some .int) ∈ Ts) (hf : 1 ≤ R0.frames) (hlo : (st.map fun v => v.category).sum + 13 ≤ R0.locals) (hc : cs ≤ R0.cells) (hs : ss ≤ R0.slots) (k : G X E nL ws cs ss (pc + 3) lv (.int (if x < y then y else x) :: st)) : G X E nL ws cs ss pc lv (.int y :: .int x :: st) := by
  obtain ⟨p, l, e, R, s, m, args, below, meth, c, A, Q⟩ := X
  obtain ⟨⟨hx, hb, hml, hown, hts⟩, hK, hA, rfl, rfl, hlk⟩ := C0
  intro ls H locs hl hP hD hS
  exact va_mmax hx hb (hml.trans hl.1.symm) hown (hts _ h1) (hts _ h2) (hts _ h3) (hts _ h4) hf hlo hc hs hd (k ls H locs hl hP hD hS)
theorem g_mmin (C0 : gC X E nL cc Ts own R0 l0) {x y : Int32} {index : Nat} (hd : decode cc pc = .ok (.invokestatic index, 3)) (h1 : Cond.methodLink own index Lib.Math.min.name ∈ Ts) (h2 : Cond.static Lib.Math.min.name ∈ Ts) (h3 : Cond.initialized "java/lang/Math" ∈ Ts) (h4 : Cond.code Lib.Math.min.name Lib.Math.min.code 2 (some .int) ∈ Ts) (hf : 1 ≤ R0.frames) (hlo : (st.map fun v => v.category).sum + 13 ≤ R0.locals) (hc : cs ≤ R0.cells) (hs : ss ≤ R0.slots) (k : G X E nL ws cs ss (pc + 3) lv (.int (if y < x then y else x) :: st)) : G X E nL ws cs ss pc lv (.int y :: .int x :: st) := by
  obtain ⟨p, l, e, R, s, m, args, below, meth, c, A, Q⟩ := X
  obtain ⟨⟨hx, hb, hml, hown, hts⟩, hK, hA, rfl, rfl, hlk⟩ := C0
  intro ls H locs hl hP hD hS
  exact va_mmin hx hb (hml.trans hl.1.symm) hown (hts _ h1) (hts _ h2) (hts _ h3) (hts _ h4) hf hlo hc hs hd (k ls H locs hl hP hD hS)
theorem g_mabs (C0 : gC X E nL cc Ts own R0 l0) {x : Int32} {index : Nat} (hd : decode cc pc = .ok (.invokestatic index, 3)) (h1 : Cond.methodLink own index Lib.Math.abs.name ∈ Ts) (h2 : Cond.static Lib.Math.abs.name ∈ Ts) (h3 : Cond.initialized "java/lang/Math" ∈ Ts) (h4 : Cond.code Lib.Math.abs.name Lib.Math.abs.code 1 (some .int) ∈ Ts) (hf : 1 ≤ R0.frames) (hlo : (st.map fun v => v.category).sum + 13 ≤ R0.locals) (hc : cs ≤ R0.cells) (hs : ss ≤ R0.slots) (k : G X E nL ws cs ss (pc + 3) lv (.int (if 0 ≤ x then x else 0 - x) :: st)) : G X E nL ws cs ss pc lv (.int x :: st) := by
  obtain ⟨p, l, e, R, s, m, args, below, meth, c, A, Q⟩ := X
  obtain ⟨⟨hx, hb, hml, hown, hts⟩, hK, hA, rfl, rfl, hlk⟩ := C0
  intro ls H locs hl hP hD hS
  exact va_mabs hx hb (hml.trans hl.1.symm) hown (hts _ h1) (hts _ h2) (hts _ h3) (hts _ h4) hf hlo hc hs hd (k ls H locs hl hP hD hS)
theorem g_mabsl (C0 : gC X E nL cc Ts own R0 l0) {x : Int64} {index : Nat} (hd : decode cc pc = .ok (.invokestatic index, 3)) (h1 : Cond.methodLink own index Lib.MathLoose.abs_long.x ∈ Ts) (h2 : Cond.static Lib.MathLoose.abs_long.x ∈ Ts) (h3 : Cond.initialized "java/lang/Math" ∈ Ts) (h4 : Cond.code Lib.MathLoose.abs_long.x Lib.MathLoose.abs_long.code 2 (some .long) ∈ Ts) (hf : 1 ≤ R0.frames) (hlo : (st.map fun v => v.category).sum + 13 ≤ R0.locals) (hc : cs ≤ R0.cells) (hs : ss ≤ R0.slots) (k : G X E nL ws cs ss (pc + 3) lv (.long (if 0 < x then x else -x) :: st)) : G X E nL ws cs ss pc lv (.long x :: st) := by
  obtain ⟨p, l, e, R, s, m, args, below, meth, c, A, Q⟩ := X
  obtain ⟨⟨hx, hb, hml, hown, hts⟩, hK, hA, rfl, rfl, hlk⟩ := C0
  intro ls H locs hl hP hD hS
  exact va_mabs_long hx hb (hml.trans hl.1.symm) hown (hts _ h1) (hts _ h2) (hts _ h3) (hts _ h4) hf hlo hc hs hd (k ls H locs hl hP hD hS)
theorem g_topi {x : Int32} (k : ∀ y : Int32, y = x → G X E nL ws cs ss pc lv (.int y :: st)) : G X E nL ws cs ss pc lv (.int x :: st) := k x rfl
theorem g_topl {x : Int64} (k : ∀ y : Int64, y = x → G X E nL ws cs ss pc lv (.long y :: st)) : G X E nL ws cs ss pc lv (.long x :: st) := k x rfl
theorem g_topb {x : Bool} (k : ∀ y : Bool, y = x → G X E nL ws cs ss pc lv (.int (bI y) :: st)) : G X E nL ws cs ss pc lv (.int (bI x) :: st) := k x rfl
theorem g_lv (is : List Nat) {lv2 : List (Nat × Value)} (h : lv_pick lv is = lv2) (k : G X E nL ws cs ss pc lv2 st) : G X E nL ws cs ss pc lv st := by
  obtain ⟨p, l, e, R, s, m, args, below, meth, c, A, Q⟩ := X
  intro ls H locs hl hP hD hS
  exact k ls H locs (lv_sub hl is h) hP hD hS
theorem g_re (is : List Nat) (hnd : va_nd is = true) {ws2 : va_W} (hs : is.map (fun i => ws[i]?) = ws2.map some) (k : G X E nL ws2 cs ss pc lv st) : G X E nL ws cs ss pc lv st := by
  obtain ⟨p, l, e, R, s, m, args, below, meth, c, A, Q⟩ := X
  intro ls H locs hl hP hD hS
  exact k ls H locs hl (hP.sub is (sub_fm hs)) (hD.sub is hnd hs) hS
/-- a method's end, and its contract -/
def gQ {S : Type} (rv : S → Option Value) (post : S → Prop) (E : gE) (wP : S → va_W) (w0 : va_W) (sz : Nat) : Array Value → State → Outcome → State → Prop := fun _ st oc t => (∃ u : S, oc = .returned (rv u) ∧ post u ∧ va_P E.D vwCl (wP u) t.heap ∧ va_D (va_A w0 sz) (wP u)) ∧ va_F (va_A w0 sz) st t
def Ct (l : Launch) (E : gE) (y : MethodName) (Ts : List Cond) (rm : Room) (av : List Value) (w0 : va_W) {S : Type} (rv : S → Option Value) (post : S → Prop) (wP : S → va_W) : Prop := ∀ sz : Nat, Met l y Ts rm (va_Pc av (fun U => U.heap.size = sz ∧ va_P E.D vwCl w0 U.heap ∧ KU E U ∧ va_D (fun _ => True) w0)) (gQ rv post E wP w0 sz) rm.cells rm.slots (va_A w0 sz)
def gR (X : gX) (E : gE) (rt : Option FieldType) (rm : Room) (w0 : va_W) {S : Type} (rv : S → Option Value) (post : S → Prop) (wP : S → va_W) : Prop := match X with
  | (_, _, _, _, s, _, args, below, meth, _, A, Q) => meth.sig.returnType = rt ∧ A = va_A w0 s.heap.size ∧ Q = MQ below (gQ rv post E wP w0 s.heap.size) args s rm.cells rm.slots (va_A w0 s.heap.size)
theorem g_start {l : Launch} {y : MethodName} {Ts' : List Cond} {rm : Room} {av : List Value} {w0 : va_W} {S : Type} {rv : S → Option Value} {post : S → Prop} {wP : S → va_W} {ret : Option FieldType} (hw : Ts = Cond.code y cc nL ret :: Ts') (hy : plainName y.cls = true) (ho : y.cls = own) (hn : (lg_sl av).length ≤ nL) {lv0 : List (Nat × Value)} (hlv : lv_args 0 av = lv0)
    (k : ∀ X : gX, gC X E nL cc Ts own rm l → gR X E ret rm w0 rv post wP → G X E nL w0 0 0 0 lv0 []) : Ct l E y Ts rm av w0 rv post wP := by
  intro sz
  refine Met.ofW (cc := cc) (maxL := nL) (ret := ret) hy hw ?_
  intro p e s m args below meth c s₁ B hml hv
  obtain ⟨rfl, hsz, hP, hK, hD0⟩ := hv
  subst hsz
  have hts := atoms_spec (ws := Ts) B.pre
  have hown : s.vm.findClass own = some m.cls := by rw [← ho]; exact findClass_of_methodNamed B.named
  have h := k (p, l, e, (headSpec Ts rm).room, s, m, av.toArray, below, meth, c, va_A w0 s.heap.size, MQ below (gQ rv post E wP w0 s.heap.size) av.toArray s rm.cells rm.slots (va_A w0 s.heap.size)) ⟨⟨B.exec, B.bytes, hml, hown, hts⟩, hK, fun q h => Or.inr h, rfl, rfl, B.notSynchronized⟩ ⟨B.returns, rfl, rfl⟩
  rw [lg_entry_eq]
  exact h _ _ _ (hlv ▸ lv_entry av hn) hP hD0.self va_S.rf
end GL
section GR
variable {X : gX} {E : gE} {nL : Nat} {cc : ByteArray} {Ts : List Cond} {own : String} {R0 : Room} {l0 : Launch} {ws : va_W} {cs ss pc : Nat} {lv : List (Nat × Value)} {st : List Value}
variable {S : Type} {rv : S → Option Value} {post : S → Prop} {wP : S → va_W} {rm : Room} {w0 : va_W}
theorem g_iret (C0 : gC X E nL cc Ts own R0 l0) (R1 : gR X E (some .int) rm w0 rv post wP) {v : Int32} (hd : decode cc pc = .ok (.ireturn, 1)) (u : S) (hv : rv u = some (.int v)) (hp : post u) (is : List Nat) (hnd : va_nd is = true) (hs : is.map (fun i => ws[i]?) = (wP u).map some) (h1 : cs ≤ rm.cells) (h2 : ss ≤ rm.slots)  : G X E nL ws cs ss pc lv [.int v] := by
  obtain ⟨p, l, e, R, s, m, args, below, meth, c, A, Q⟩ := X
  obtain ⟨⟨hx, hb, hml, hown, hts⟩, hK, hA, rfl, rfl, hlk⟩ := C0
  obtain ⟨hr, rfl, rfl⟩ := R1
  intro ls H locs hl hP hD hS
  have hP9 := hP.sub is (sub_fm hs)
  have hD9 := hD.sub is hnd hs
  refine W.widen h1 h2 ?_
  exact W.iret hx hb hr  (fun t ht _ => ⟨⟨u, by rw [hv], hp, by rw [ht]; exact hP9, hD9⟩, hS.F ht⟩) hS.2.2 hd hlk
theorem g_zret (C0 : gC X E nL cc Ts own R0 l0) (R1 : gR X E (some .boolean) rm w0 rv post wP) {b : Bool} (hd : decode cc pc = .ok (.ireturn, 1)) (u : S) (hv : rv u = some (.int (bI b))) (hp : post u) (is : List Nat) (hnd : va_nd is = true) (hs : is.map (fun i => ws[i]?) = (wP u).map some) (h1 : cs ≤ rm.cells) (h2 : ss ≤ rm.slots)  : G X E nL ws cs ss pc lv [.int (bI b)] := by
  obtain ⟨p, l, e, R, s, m, args, below, meth, c, A, Q⟩ := X
  obtain ⟨⟨hx, hb, hml, hown, hts⟩, hK, hA, rfl, rfl, hlk⟩ := C0
  obtain ⟨hr, rfl, rfl⟩ := R1
  intro ls H locs hl hP hD hS
  have hP9 := hP.sub is (sub_fm hs)
  have hD9 := hD.sub is hnd hs
  refine W.widen h1 h2 ?_
  exact W.zret hx hb hr (bI_nar b) (fun t ht _ => ⟨⟨u, by rw [hv], hp, by rw [ht]; exact hP9, hD9⟩, hS.F ht⟩) hS.2.2 hd hlk
theorem g_lret (C0 : gC X E nL cc Ts own R0 l0) (R1 : gR X E (some .long) rm w0 rv post wP) {v : Int64} (hd : decode cc pc = .ok (.lreturn, 1)) (u : S) (hv : rv u = some (.long v)) (hp : post u) (is : List Nat) (hnd : va_nd is = true) (hs : is.map (fun i => ws[i]?) = (wP u).map some) (h1 : cs ≤ rm.cells) (h2 : ss ≤ rm.slots)  : G X E nL ws cs ss pc lv [.long v] := by
  obtain ⟨p, l, e, R, s, m, args, below, meth, c, A, Q⟩ := X
  obtain ⟨⟨hx, hb, hml, hown, hts⟩, hK, hA, rfl, rfl, hlk⟩ := C0
  obtain ⟨hr, rfl, rfl⟩ := R1
  intro ls H locs hl hP hD hS
  have hP9 := hP.sub is (sub_fm hs)
  have hD9 := hD.sub is hnd hs
  refine W.widen h1 h2 ?_
  exact W.lret hx hb hr  (fun t ht _ => ⟨⟨u, by rw [hv], hp, by rw [ht]; exact hP9, hD9⟩, hS.F ht⟩) hS.2.2 hd hlk
theorem g_vret (C0 : gC X E nL cc Ts own R0 l0) (R1 : gR X E (none) rm w0 rv post wP)  (hd : decode cc pc = .ok (.return_, 1)) (u : S) (hv : rv u = none) (hp : post u) (is : List Nat) (hnd : va_nd is = true) (hs : is.map (fun i => ws[i]?) = (wP u).map some) (h1 : cs ≤ rm.cells) (h2 : ss ≤ rm.slots)  : G X E nL ws cs ss pc lv [] := by
  obtain ⟨p, l, e, R, s, m, args, below, meth, c, A, Q⟩ := X
  obtain ⟨⟨hx, hb, hml, hown, hts⟩, hK, hA, rfl, rfl, hlk⟩ := C0
  obtain ⟨hr, rfl, rfl⟩ := R1
  intro ls H locs hl hP hD hS
  have hP9 := hP.sub is (sub_fm hs)
  have hD9 := hD.sub is hnd hs
  refine W.widen h1 h2 ?_
  exact W.vret hx hb hr  (fun t ht _ => ⟨⟨u, by rw [hv], hp, by rw [ht]; exact hP9, hD9⟩, hS.F ht⟩) hS.2.2 hd hlk
theorem g_aret (C0 : gC X E nL cc Ts own R0 l0) (R1 : gR X E (some (.object "GlueHouse$Lap")) rm w0 rv post wP) {v : Value} (hd : decode cc pc = .ok (.areturn, 1)) (u : S) (hv : rv u = some v) (hp : post u) (is : List Nat) (hnd : va_nd is = true) (hs : is.map (fun i => ws[i]?) = (wP u).map some) (h1 : cs ≤ rm.cells) (h2 : ss ≤ rm.slots) (hrf : v = .null ∨ ∃ a, v = .ref a) : G X E nL ws cs ss pc lv [v] := by
  obtain ⟨p, l, e, R, s, m, args, below, meth, c, A, Q⟩ := X
  obtain ⟨⟨hx, hb, hml, hown, hts⟩, hK, hA, rfl, rfl, hlk⟩ := C0
  obtain ⟨hr, rfl, rfl⟩ := R1
  intro ls H locs hl hP hD hS
  have hP9 := hP.sub is (sub_fm hs)
  have hD9 := hD.sub is hnd hs
  refine W.widen h1 h2 ?_
  exact W.aret hx hb hr (Or.inl ⟨_, rfl⟩) hrf (fun t ht _ => ⟨⟨u, by rw [hv], hp, by rw [ht]; exact hP9, hD9⟩, hS.F ht⟩) hS.2.2 hd hlk
end GR
section GQ
variable {p : Program} {l : Launch} {e : Env} {R : Room} {s : State} {m : MethodId} {args : Array Value} {below : List Frame} {meth : Method} {c : Code} {H : Heap} {locs : List Loc} {cells slots : Nat} {Q : State → Prop}
variable {pc : Nat} {ls : Array Slot} {rest st0 : List Value} {a : Array Value} {A0 : Nat → Prop} {H0 : Heap} {mc ms : Nat} {free : Addr → Prop}
theorem va_callg {S : Type} {rv : S → Option Value} {post : S → Prop} {wP : S → va_W} {E : gE} {w0 : va_W} {sz : Nat} (hr : va_Run p l e R s m args below meth c H locs cells slots mc ms (F0 m pc ls st0) rest (gQ rv post E wP w0 sz a) free) (hS : va_S A0 H0 H locs) (hA : ∀ q, q < H.size → va_A w0 sz q → A0 q) (hf : ∀ q, free q → A0 q)
    (kk : ∀ (u : S) (H1 : Heap) (locs1 : List Loc), post u → va_P E.D vwCl (wP u) H1 → va_D (va_A w0 sz) (wP u) → (∀ q : Nat, q < H.size → ¬ va_A w0 sz q → H1[q]? = H[q]?) → va_S A0 H0 H1 locs1 → W p l e R s m args below meth c H1 locs1 (cells + mc) (slots + ms) Q (F0 m (pc + 3) ls ((rv u).toList ++ rest))) : W p l e R s m args below meth c H locs cells slots Q (F0 m pc ls st0) := by
  intro T hT X
  obtain ⟨v, st₀, t, T', L, h0, X', hL, e1, e2, ⟨⟨u, hv, hp, hb1, hb2⟩, hz, hk⟩, st⟩ := hr T hT X
  cases hv
  rw [h0] at hz hk
  obtain ⟨t2, a1, b1⟩ := kk u T'.heap (locs ++ L) hp (by rw [e1]; exact hb1) hb2 (fun q h1 h2 => by rw [e1]; exact hk q h1 h2)
    ⟨Nat.le_trans hS.1 (by rw [e1]; exact hz), fun q h1 h2 => by rw [e1, hk q (Nat.lt_of_lt_of_le h1 hS.1) (fun z => h2 (hA q (Nat.lt_of_lt_of_le h1 hS.1) z))]; exact hS.2.1 q h1 h2, fun q hq => by
      rcases List.mem_append.mp hq with h | h
      · exact hS.2.2 q h
      · exact hf _ (hL q h)⟩ T' rfl X'
  exact ⟨t2, st t2 a1, b1⟩
end GQ
section GK
variable {X : gX} {E : gE} {nL : Nat} {cc : ByteArray} {Ts : List Cond} {own : String} {R0 : Room} {l0 : Launch} {ws : va_W} {cs ss pc : Nat} {lv : List (Nat × Value)} {st : List Value}
variable {S : Type} {rv : S → Option Value} {post : S → Prop} {wP : S → va_W} {y : MethodName} {wsC wsC' : List Cond} {bytes : ByteArray} {maxL : Nat} {ret : Option FieldType} {rm : Room} {b : Nat} {As : List Value} {wc : va_W} {C : String} {T : u_T} {N ci index n q0 : Nat} {fs : List Value}
theorem g_callV (C0 : gC X E nL cc Ts own R0 l0) (hM : Ct l0 E y wsC rm (.ref b :: As) wc rv post wP) (hd : decode cc pc = .ok (.invokevirtual index, 3)) (hG : GoodIn Ts (wsV own index C y wsC)) (hw : wsC = Cond.code y bytes maxL ret :: wsC') (hdd : y.cls = C ∧ y.cls ≠ "java/lang/invoke/MethodHandle" ∧ y.cls ≠ "java/lang/invoke/VarHandle" ∧ (parseMethodDescriptor y.desc).map (fun d => d.parameters.length) = some n) (hn : As.length = n) (hR : rm.frames + 1 ≤ R0.frames ∧ 8 + (maxL + 11) + rm.locals ≤ R0.locals) (hf : cs + rm.cells ≤ R0.cells ∧ ss + rm.slots ≤ R0.slots) {rest : List Value} (hst : st = As.reverse ++ .ref b :: rest) (hroom : (rest.map fun v => v.category).sum ≤ 8) (isC isR : List Nat) (hC : isC.map (fun i => ws[i]?) = wc.map some) {wr : va_W} (hRr : isR.map (fun i => ws[i]?) = wr.map some) (hnC : va_nd isC = true) (hnR : va_nd isR = true) (hdis : ∀ i ∈ isR, i ∉ isC) (he : ws[q0]? = some (b, .inr (ci, fs))) (hc : vwCl[ci]? = some (C, T, N)) (k : ∀ u : S, post u → G X E nL (wr ++ wP u) (cs + rm.cells) (ss + rm.slots) (pc + 3) lv ((rv u).toList ++ rest)) : G X E nL ws cs ss pc lv st := by
  obtain ⟨p, l, e, R, s, m, args, below, meth, c, A, Q⟩ := X
  obtain ⟨⟨hx, hb, hml, hown, hts⟩, hK, hA, rfl, rfl, hlk⟩ := C0
  intro ls H locs hl hP hD hS
  subst hst
  have hPc := hP.sub isC (sub_fm hC)
  have hDc := hD.sub isC hnC hC
  have hFc := va_free hD hS hA isC hC
  refine va_callg (A0 := A) (H0 := s.heap) (va_runV (As := As) (rest := rest) ⟨hx, hb, hml, hown, hts⟩ (hM H.size) (cwV n hts hG hw rfl rfl hdd hR) ⟨fun a U g mk q => ?_, va_recv hK.1 hP hc he, fun U hU hW => ⟨rfl, by rw [hU], by rw [hU]; exact hPc, hK.warm hW, hDc.weaken (fun _ _ _ _ => trivial)⟩⟩ rfl hn hl.1 rfl (lv_room hroom) hd hf) hS (fun q _ h => hFc q h) hFc (fun u H1 locs1 hp h1 h2 h3 h4 => ?_)
  · obtain ⟨q0, q1, qP, qK, qD⟩ := q
    exact ⟨q0, q1, qP, qK.calling, qD⟩
  · obtain ⟨hP2, hD2⟩ := va_join hP hD isC isR hC hRr hnR hdis h3 hFc h1 h2
    exact k u hp ls H1 locs1 hl hP2 hD2 h4
theorem g_callS (C0 : gC X E nL cc Ts own R0 l0) (hM : Ct l0 E y wsC rm As wc rv post wP) (hd : decode cc pc = .ok (.invokestatic index, 3)) (hG : GoodIn Ts (va_wsS own index y wsC)) (hw : wsC = Cond.code y bytes maxL ret :: wsC') (hdd : y.cls ≠ "java/lang/invoke/MethodHandle" ∧ y.cls ≠ "java/lang/invoke/VarHandle" ∧ (parseMethodDescriptor y.desc).map (fun d => d.parameters.length) = some n) (hn : As.length = n) (hR : rm.frames + 1 ≤ R0.frames ∧ 8 + (maxL + 11) + rm.locals ≤ R0.locals) (hf : cs + rm.cells ≤ R0.cells ∧ ss + rm.slots ≤ R0.slots) {rest : List Value} (hst : st = As.reverse ++ rest) (hroom : (rest.map fun v => v.category).sum ≤ 8) (isC isR : List Nat) (hC : isC.map (fun i => ws[i]?) = wc.map some) {wr : va_W} (hRr : isR.map (fun i => ws[i]?) = wr.map some) (hnC : va_nd isC = true) (hnR : va_nd isR = true) (hdis : ∀ i ∈ isR, i ∉ isC)  (k : ∀ u : S, post u → G X E nL (wr ++ wP u) (cs + rm.cells) (ss + rm.slots) (pc + 3) lv ((rv u).toList ++ rest)) : G X E nL ws cs ss pc lv st := by
  obtain ⟨p, l, e, R, s, m, args, below, meth, c, A, Q⟩ := X
  obtain ⟨⟨hx, hb, hml, hown, hts⟩, hK, hA, rfl, rfl, hlk⟩ := C0
  intro ls H locs hl hP hD hS
  subst hst
  have hPc := hP.sub isC (sub_fm hC)
  have hDc := hD.sub isC hnC hC
  have hFc := va_free hD hS hA isC hC
  refine va_callg (A0 := A) (H0 := s.heap) (va_runS (As := As) (rest := rest) ⟨hx, hb, hml, hown, hts⟩ (hM H.size) (va_cwS n hts hG hw rfl rfl hdd hR) ⟨fun a U g mk q => ?_, fun U hU hW => ⟨rfl, by rw [hU], by rw [hU]; exact hPc, hK.warm hW, hDc.weaken (fun _ _ _ _ => trivial)⟩⟩ rfl hn hl.1 rfl (lv_room hroom) hd hf) hS (fun q _ h => hFc q h) hFc (fun u H1 locs1 hp h1 h2 h3 h4 => ?_)
  · obtain ⟨q0, q1, qP, qK, qD⟩ := q
    exact ⟨q0, q1, qP, qK.calling, qD⟩
  · obtain ⟨hP2, hD2⟩ := va_join hP hD isC isR hC hRr hnR hdis h3 hFc h1 h2
    exact k u hp ls H1 locs1 hl hP2 hD2 h4
theorem g_callN (C0 : gC X E nL cc Ts own R0 l0) (hM : Ct l0 E y wsC rm As wc rv post wP) (hd : decode cc pc = .ok (.invokestatic index, 3)) (hG : GoodIn Ts wsC) (hw : wsC = Cond.code y bytes maxL ret :: wsC') {host : String} (hnest : Cond.methodLinkNest own index y host ∈ nestW) (hini : Cond.initialized y.cls ∈ Ts) (hstat : Cond.static y ∈ Ts) (hdd : y.cls ≠ "java/lang/invoke/MethodHandle" ∧ y.cls ≠ "java/lang/invoke/VarHandle" ∧ (parseMethodDescriptor y.desc).map (fun d => d.parameters.length) = some n) (hn : As.length = n) (hR : rm.frames + 1 ≤ R0.frames ∧ 8 + (maxL + 11) + rm.locals ≤ R0.locals) (hf : cs + rm.cells ≤ R0.cells ∧ ss + rm.slots ≤ R0.slots) {rest : List Value} (hst : st = As.reverse ++ rest) (hroom : (rest.map fun v => v.category).sum ≤ 8) (isC isR : List Nat) (hC : isC.map (fun i => ws[i]?) = wc.map some) {wr : va_W} (hRr : isR.map (fun i => ws[i]?) = wr.map some) (hnC : va_nd isC = true) (hnR : va_nd isR = true) (hdis : ∀ i ∈ isR, i ∉ isC)  (k : ∀ u : S, post u → G X E nL (wr ++ wP u) (cs + rm.cells) (ss + rm.slots) (pc + 3) lv ((rv u).toList ++ rest)) : G X E nL ws cs ss pc lv st := by
  obtain ⟨p, l, e, R, s, m, args, below, meth, c, A, Q⟩ := X
  obtain ⟨⟨hx, hb, hml, hown, hts⟩, hK, hA, rfl, rfl, hlk⟩ := C0
  intro ls H locs hl hP hD hS
  subst hst
  have hPc := hP.sub isC (sub_fm hC)
  have hDc := hD.sub isC hnC hC
  have hFc := va_free hD hS hA isC hC
  refine va_callg (A0 := A) (H0 := s.heap) (va_runSN (As := As) (rest := rest) ⟨hx, hb, hml, hown, hts⟩ (hM H.size) ⟨va_cnB n hts hG hw rfl rfl (hK.2 _ hnest) (hts _ hini) hdd hR, hts _ hstat, trivial⟩ ⟨fun a U g mk q => ?_, fun U hU hW => ⟨rfl, by rw [hU], by rw [hU]; exact hPc, hK.warm hW, hDc.weaken (fun _ _ _ _ => trivial)⟩⟩ rfl hn hl.1 rfl (lv_room hroom) hd hf) hS (fun q _ h => hFc q h) hFc (fun u H1 locs1 hp h1 h2 h3 h4 => ?_)
  · obtain ⟨q0, q1, qP, qK, qD⟩ := q
    exact ⟨q0, q1, qP, qK.calling, qD⟩
  · obtain ⟨hP2, hD2⟩ := va_join hP hD isC isR hC hRr hnR hdis h3 hFc h1 h2
    exact k u hp ls H1 locs1 hl hP2 hD2 h4
theorem g_callI (C0 : gC X E nL cc Ts own R0 l0) (hM : Ct l0 E y wsC rm (.ref b :: As) wc rv post wP) (hd : decode cc pc = .ok (.invokespecial index, 3)) (hG : GoodIn Ts wsC) (hw : wsC = Cond.code y bytes maxL none :: wsC') (hini : Cond.initialized y.cls ∈ Ts) (hlk2 : Cond.methodLink own index y ∈ Ts) (hin : Cond.instanceMethod y ∈ Ts) (hy1 : y.name = "<init>") (hdd : y.cls ≠ "java/lang/invoke/MethodHandle" ∧ y.cls ≠ "java/lang/invoke/VarHandle" ∧ (parseMethodDescriptor y.desc).map (fun d => d.parameters.length) = some n) (hn : As.length = n) (hR : rm.frames + 1 ≤ R0.frames ∧ 8 + (maxL + 11) + rm.locals ≤ R0.locals) (hf : cs + rm.cells ≤ R0.cells ∧ ss + rm.slots ≤ R0.slots) {rest : List Value} (hst : st = As.reverse ++ .ref b :: rest) (hroom : (rest.map fun v => v.category).sum ≤ 8) (isC isR : List Nat) (hC : isC.map (fun i => ws[i]?) = wc.map some) {wr : va_W} (hRr : isR.map (fun i => ws[i]?) = wr.map some) (hnC : va_nd isC = true) (hnR : va_nd isR = true) (hdis : ∀ i ∈ isR, i ∉ isC)  (k : ∀ u : S, post u → G X E nL (wr ++ wP u) (cs + rm.cells) (ss + rm.slots) (pc + 3) lv ((rv u).toList ++ rest)) : G X E nL ws cs ss pc lv st := by
  obtain ⟨p, l, e, R, s, m, args, below, meth, c, A, Q⟩ := X
  obtain ⟨⟨hx, hb, hml, hown, hts⟩, hK, hA, rfl, rfl, hlk⟩ := C0
  intro ls H locs hl hP hD hS
  subst hst
  have hPc := hP.sub isC (sub_fm hC)
  have hDc := hD.sub isC hnC hC
  have hFc := va_free hD hS hA isC hC
  refine va_callg (A0 := A) (H0 := s.heap) (va_runI (As := As) (rest := rest) ⟨hx, hb, hml, hown, hts⟩ (hM H.size) (cwI n hts hG hw rfl rfl (hts _ hini) (hts _ hlk2) (hts _ hin) hy1 hdd hR) ⟨fun a U g mk q => ?_, fun U hU hW => ⟨rfl, by rw [hU], by rw [hU]; exact hPc, hK.warm hW, hDc.weaken (fun _ _ _ _ => trivial)⟩⟩ rfl hn hl.1 rfl (lv_room hroom) hd hf) hS (fun q _ h => hFc q h) hFc (fun u H1 locs1 hp h1 h2 h3 h4 => ?_)
  · obtain ⟨q0, q1, qP, qK, qD⟩ := q
    exact ⟨q0, q1, qP, qK.calling, qD⟩
  · obtain ⟨hP2, hD2⟩ := va_join hP hD isC isR hC hRr hnR hdis h3 hFc h1 h2
    exact k u hp ls H1 locs1 hl hP2 hD2 h4
end GK
/-! loops and joins as predicates -/
def wL1 {A1 : Type} (B : (A1 → Prop) → A1 → Prop) : Nat → A1 → Prop
  | 0, _ => False
  | n + 1, a1 => B (wL1 B n) a1
theorem wL1_go {A1 : Type} {B : (A1 → Prop) → A1 → Prop} {P : A1 → Prop} (h : ∀ K : A1 → Prop, (∀ a1, K a1 → P a1) → ∀ a1, B K a1 → P a1) : ∀ n a1, wL1 B n a1 → P a1
  | 0, _, hw => hw.elim
  | n + 1, a1, hw => h (wL1 B n) (wL1_go h n) a1 hw
theorem wL1_in {A1 : Type} {B : (A1 → Prop) → A1 → Prop} (I : A1 → Prop) (μ : A1 → Nat) (hs : ∀ (K : A1 → Prop) a1, I a1 → (∀ b1, I b1 → μ b1 < μ a1 → K b1) → B K a1) : ∀ a1, I a1 → ∃ n, wL1 B n a1 := by
  have key : ∀ n a1, I a1 → μ a1 < n → wL1 B n a1 := by
    intro n
    induction n with
    | zero => intro a1 _ h; exact absurd h (Nat.not_lt_zero _)
    | succ n ih => intro a1 hi hm; exact hs _ a1 hi (fun b1 hb hlt => ih b1 hb (by omega))
  intro a1 hi
  exact ⟨_, key _ a1 hi (Nat.lt_succ_self _)⟩
def wj1 {A1 : Type} (f : (A1 → Prop) → Prop) (k : A1 → Prop) : Prop := f k
theorem wj1_go {A1 : Type} {f : (A1 → Prop) → Prop} {k : A1 → Prop} {P : A1 → Prop} {Z : Prop} (hw : wj1 f k) (hr : ∀ a1, k a1 → P a1) (hg : ∀ J : A1 → Prop, (∀ a1, J a1 → P a1) → f J → Z) : Z := hg k hr hw
theorem wj1_in {A1 : Type} {f : (A1 → Prop) → Prop} {k : A1 → Prop} (P : A1 → Prop) (hr : ∀ a1, P a1 → k a1) (hg : ∀ J : A1 → Prop, (∀ a1, P a1 → J a1) → f J) : wj1 f k := hg k hr
def wL2 {A1 A2 : Type} (B : (A1 → A2 → Prop) → A1 → A2 → Prop) : Nat → A1 → A2 → Prop
  | 0, _, _ => False
  | n + 1, a1, a2 => B (wL2 B n) a1 a2
theorem wL2_go {A1 A2 : Type} {B : (A1 → A2 → Prop) → A1 → A2 → Prop} {P : A1 → A2 → Prop} (h : ∀ K : A1 → A2 → Prop, (∀ a1 a2, K a1 a2 → P a1 a2) → ∀ a1 a2, B K a1 a2 → P a1 a2) : ∀ n a1 a2, wL2 B n a1 a2 → P a1 a2
  | 0, _, _, hw => hw.elim
  | n + 1, a1, a2, hw => h (wL2 B n) (wL2_go h n) a1 a2 hw
theorem wL2_in {A1 A2 : Type} {B : (A1 → A2 → Prop) → A1 → A2 → Prop} (I : A1 → A2 → Prop) (μ : A1 → A2 → Nat) (hs : ∀ (K : A1 → A2 → Prop) a1 a2, I a1 a2 → (∀ b1 b2, I b1 b2 → μ b1 b2 < μ a1 a2 → K b1 b2) → B K a1 a2) : ∀ a1 a2, I a1 a2 → ∃ n, wL2 B n a1 a2 := by
  have key : ∀ n a1 a2, I a1 a2 → μ a1 a2 < n → wL2 B n a1 a2 := by
    intro n
    induction n with
    | zero => intro a1 a2 _ h; exact absurd h (Nat.not_lt_zero _)
    | succ n ih => intro a1 a2 hi hm; exact hs _ a1 a2 hi (fun b1 b2 hb hlt => ih b1 b2 hb (by omega))
  intro a1 a2 hi
  exact ⟨_, key _ a1 a2 hi (Nat.lt_succ_self _)⟩
def wj2 {A1 A2 : Type} (f : (A1 → A2 → Prop) → Prop) (k : A1 → A2 → Prop) : Prop := f k
theorem wj2_go {A1 A2 : Type} {f : (A1 → A2 → Prop) → Prop} {k : A1 → A2 → Prop} {P : A1 → A2 → Prop} {Z : Prop} (hw : wj2 f k) (hr : ∀ a1 a2, k a1 a2 → P a1 a2) (hg : ∀ J : A1 → A2 → Prop, (∀ a1 a2, J a1 a2 → P a1 a2) → f J → Z) : Z := hg k hr hw
theorem wj2_in {A1 A2 : Type} {f : (A1 → A2 → Prop) → Prop} {k : A1 → A2 → Prop} (P : A1 → A2 → Prop) (hr : ∀ a1 a2, P a1 a2 → k a1 a2) (hg : ∀ J : A1 → A2 → Prop, (∀ a1 a2, P a1 a2 → J a1 a2) → f J) : wj2 f k := hg k hr
def wL3 {A1 A2 A3 : Type} (B : (A1 → A2 → A3 → Prop) → A1 → A2 → A3 → Prop) : Nat → A1 → A2 → A3 → Prop
  | 0, _, _, _ => False
  | n + 1, a1, a2, a3 => B (wL3 B n) a1 a2 a3
theorem wL3_go {A1 A2 A3 : Type} {B : (A1 → A2 → A3 → Prop) → A1 → A2 → A3 → Prop} {P : A1 → A2 → A3 → Prop} (h : ∀ K : A1 → A2 → A3 → Prop, (∀ a1 a2 a3, K a1 a2 a3 → P a1 a2 a3) → ∀ a1 a2 a3, B K a1 a2 a3 → P a1 a2 a3) : ∀ n a1 a2 a3, wL3 B n a1 a2 a3 → P a1 a2 a3
  | 0, _, _, _, hw => hw.elim
  | n + 1, a1, a2, a3, hw => h (wL3 B n) (wL3_go h n) a1 a2 a3 hw
theorem wL3_in {A1 A2 A3 : Type} {B : (A1 → A2 → A3 → Prop) → A1 → A2 → A3 → Prop} (I : A1 → A2 → A3 → Prop) (μ : A1 → A2 → A3 → Nat) (hs : ∀ (K : A1 → A2 → A3 → Prop) a1 a2 a3, I a1 a2 a3 → (∀ b1 b2 b3, I b1 b2 b3 → μ b1 b2 b3 < μ a1 a2 a3 → K b1 b2 b3) → B K a1 a2 a3) : ∀ a1 a2 a3, I a1 a2 a3 → ∃ n, wL3 B n a1 a2 a3 := by
  have key : ∀ n a1 a2 a3, I a1 a2 a3 → μ a1 a2 a3 < n → wL3 B n a1 a2 a3 := by
    intro n
    induction n with
    | zero => intro a1 a2 a3 _ h; exact absurd h (Nat.not_lt_zero _)
    | succ n ih => intro a1 a2 a3 hi hm; exact hs _ a1 a2 a3 hi (fun b1 b2 b3 hb hlt => ih b1 b2 b3 hb (by omega))
  intro a1 a2 a3 hi
  exact ⟨_, key _ a1 a2 a3 hi (Nat.lt_succ_self _)⟩
def wj3 {A1 A2 A3 : Type} (f : (A1 → A2 → A3 → Prop) → Prop) (k : A1 → A2 → A3 → Prop) : Prop := f k
theorem wj3_go {A1 A2 A3 : Type} {f : (A1 → A2 → A3 → Prop) → Prop} {k : A1 → A2 → A3 → Prop} {P : A1 → A2 → A3 → Prop} {Z : Prop} (hw : wj3 f k) (hr : ∀ a1 a2 a3, k a1 a2 a3 → P a1 a2 a3) (hg : ∀ J : A1 → A2 → A3 → Prop, (∀ a1 a2 a3, J a1 a2 a3 → P a1 a2 a3) → f J → Z) : Z := hg k hr hw
theorem wj3_in {A1 A2 A3 : Type} {f : (A1 → A2 → A3 → Prop) → Prop} {k : A1 → A2 → A3 → Prop} (P : A1 → A2 → A3 → Prop) (hr : ∀ a1 a2 a3, P a1 a2 a3 → k a1 a2 a3) (hg : ∀ J : A1 → A2 → A3 → Prop, (∀ a1 a2 a3, P a1 a2 a3 → J a1 a2 a3) → f J) : wj3 f k := hg k hr
def wL4 {A1 A2 A3 A4 : Type} (B : (A1 → A2 → A3 → A4 → Prop) → A1 → A2 → A3 → A4 → Prop) : Nat → A1 → A2 → A3 → A4 → Prop
  | 0, _, _, _, _ => False
  | n + 1, a1, a2, a3, a4 => B (wL4 B n) a1 a2 a3 a4
theorem wL4_go {A1 A2 A3 A4 : Type} {B : (A1 → A2 → A3 → A4 → Prop) → A1 → A2 → A3 → A4 → Prop} {P : A1 → A2 → A3 → A4 → Prop} (h : ∀ K : A1 → A2 → A3 → A4 → Prop, (∀ a1 a2 a3 a4, K a1 a2 a3 a4 → P a1 a2 a3 a4) → ∀ a1 a2 a3 a4, B K a1 a2 a3 a4 → P a1 a2 a3 a4) : ∀ n a1 a2 a3 a4, wL4 B n a1 a2 a3 a4 → P a1 a2 a3 a4
  | 0, _, _, _, _, hw => hw.elim
  | n + 1, a1, a2, a3, a4, hw => h (wL4 B n) (wL4_go h n) a1 a2 a3 a4 hw
theorem wL4_in {A1 A2 A3 A4 : Type} {B : (A1 → A2 → A3 → A4 → Prop) → A1 → A2 → A3 → A4 → Prop} (I : A1 → A2 → A3 → A4 → Prop) (μ : A1 → A2 → A3 → A4 → Nat) (hs : ∀ (K : A1 → A2 → A3 → A4 → Prop) a1 a2 a3 a4, I a1 a2 a3 a4 → (∀ b1 b2 b3 b4, I b1 b2 b3 b4 → μ b1 b2 b3 b4 < μ a1 a2 a3 a4 → K b1 b2 b3 b4) → B K a1 a2 a3 a4) : ∀ a1 a2 a3 a4, I a1 a2 a3 a4 → ∃ n, wL4 B n a1 a2 a3 a4 := by
  have key : ∀ n a1 a2 a3 a4, I a1 a2 a3 a4 → μ a1 a2 a3 a4 < n → wL4 B n a1 a2 a3 a4 := by
    intro n
    induction n with
    | zero => intro a1 a2 a3 a4 _ h; exact absurd h (Nat.not_lt_zero _)
    | succ n ih => intro a1 a2 a3 a4 hi hm; exact hs _ a1 a2 a3 a4 hi (fun b1 b2 b3 b4 hb hlt => ih b1 b2 b3 b4 hb (by omega))
  intro a1 a2 a3 a4 hi
  exact ⟨_, key _ a1 a2 a3 a4 hi (Nat.lt_succ_self _)⟩
def wj4 {A1 A2 A3 A4 : Type} (f : (A1 → A2 → A3 → A4 → Prop) → Prop) (k : A1 → A2 → A3 → A4 → Prop) : Prop := f k
theorem wj4_go {A1 A2 A3 A4 : Type} {f : (A1 → A2 → A3 → A4 → Prop) → Prop} {k : A1 → A2 → A3 → A4 → Prop} {P : A1 → A2 → A3 → A4 → Prop} {Z : Prop} (hw : wj4 f k) (hr : ∀ a1 a2 a3 a4, k a1 a2 a3 a4 → P a1 a2 a3 a4) (hg : ∀ J : A1 → A2 → A3 → A4 → Prop, (∀ a1 a2 a3 a4, J a1 a2 a3 a4 → P a1 a2 a3 a4) → f J → Z) : Z := hg k hr hw
theorem wj4_in {A1 A2 A3 A4 : Type} {f : (A1 → A2 → A3 → A4 → Prop) → Prop} {k : A1 → A2 → A3 → A4 → Prop} (P : A1 → A2 → A3 → A4 → Prop) (hr : ∀ a1 a2 a3 a4, P a1 a2 a3 a4 → k a1 a2 a3 a4) (hg : ∀ J : A1 → A2 → A3 → A4 → Prop, (∀ a1 a2 a3 a4, P a1 a2 a3 a4 → J a1 a2 a3 a4) → f J) : wj4 f k := hg k hr
def wL5 {A1 A2 A3 A4 A5 : Type} (B : (A1 → A2 → A3 → A4 → A5 → Prop) → A1 → A2 → A3 → A4 → A5 → Prop) : Nat → A1 → A2 → A3 → A4 → A5 → Prop
  | 0, _, _, _, _, _ => False
  | n + 1, a1, a2, a3, a4, a5 => B (wL5 B n) a1 a2 a3 a4 a5
theorem wL5_go {A1 A2 A3 A4 A5 : Type} {B : (A1 → A2 → A3 → A4 → A5 → Prop) → A1 → A2 → A3 → A4 → A5 → Prop} {P : A1 → A2 → A3 → A4 → A5 → Prop} (h : ∀ K : A1 → A2 → A3 → A4 → A5 → Prop, (∀ a1 a2 a3 a4 a5, K a1 a2 a3 a4 a5 → P a1 a2 a3 a4 a5) → ∀ a1 a2 a3 a4 a5, B K a1 a2 a3 a4 a5 → P a1 a2 a3 a4 a5) : ∀ n a1 a2 a3 a4 a5, wL5 B n a1 a2 a3 a4 a5 → P a1 a2 a3 a4 a5
  | 0, _, _, _, _, _, hw => hw.elim
  | n + 1, a1, a2, a3, a4, a5, hw => h (wL5 B n) (wL5_go h n) a1 a2 a3 a4 a5 hw
theorem wL5_in {A1 A2 A3 A4 A5 : Type} {B : (A1 → A2 → A3 → A4 → A5 → Prop) → A1 → A2 → A3 → A4 → A5 → Prop} (I : A1 → A2 → A3 → A4 → A5 → Prop) (μ : A1 → A2 → A3 → A4 → A5 → Nat) (hs : ∀ (K : A1 → A2 → A3 → A4 → A5 → Prop) a1 a2 a3 a4 a5, I a1 a2 a3 a4 a5 → (∀ b1 b2 b3 b4 b5, I b1 b2 b3 b4 b5 → μ b1 b2 b3 b4 b5 < μ a1 a2 a3 a4 a5 → K b1 b2 b3 b4 b5) → B K a1 a2 a3 a4 a5) : ∀ a1 a2 a3 a4 a5, I a1 a2 a3 a4 a5 → ∃ n, wL5 B n a1 a2 a3 a4 a5 := by
  have key : ∀ n a1 a2 a3 a4 a5, I a1 a2 a3 a4 a5 → μ a1 a2 a3 a4 a5 < n → wL5 B n a1 a2 a3 a4 a5 := by
    intro n
    induction n with
    | zero => intro a1 a2 a3 a4 a5 _ h; exact absurd h (Nat.not_lt_zero _)
    | succ n ih => intro a1 a2 a3 a4 a5 hi hm; exact hs _ a1 a2 a3 a4 a5 hi (fun b1 b2 b3 b4 b5 hb hlt => ih b1 b2 b3 b4 b5 hb (by omega))
  intro a1 a2 a3 a4 a5 hi
  exact ⟨_, key _ a1 a2 a3 a4 a5 hi (Nat.lt_succ_self _)⟩
def wj5 {A1 A2 A3 A4 A5 : Type} (f : (A1 → A2 → A3 → A4 → A5 → Prop) → Prop) (k : A1 → A2 → A3 → A4 → A5 → Prop) : Prop := f k
theorem wj5_go {A1 A2 A3 A4 A5 : Type} {f : (A1 → A2 → A3 → A4 → A5 → Prop) → Prop} {k : A1 → A2 → A3 → A4 → A5 → Prop} {P : A1 → A2 → A3 → A4 → A5 → Prop} {Z : Prop} (hw : wj5 f k) (hr : ∀ a1 a2 a3 a4 a5, k a1 a2 a3 a4 a5 → P a1 a2 a3 a4 a5) (hg : ∀ J : A1 → A2 → A3 → A4 → A5 → Prop, (∀ a1 a2 a3 a4 a5, J a1 a2 a3 a4 a5 → P a1 a2 a3 a4 a5) → f J → Z) : Z := hg k hr hw
theorem wj5_in {A1 A2 A3 A4 A5 : Type} {f : (A1 → A2 → A3 → A4 → A5 → Prop) → Prop} {k : A1 → A2 → A3 → A4 → A5 → Prop} (P : A1 → A2 → A3 → A4 → A5 → Prop) (hr : ∀ a1 a2 a3 a4 a5, P a1 a2 a3 a4 a5 → k a1 a2 a3 a4 a5) (hg : ∀ J : A1 → A2 → A3 → A4 → A5 → Prop, (∀ a1 a2 a3 a4 a5, P a1 a2 a3 a4 a5 → J a1 a2 a3 a4 a5) → f J) : wj5 f k := hg k hr
def wL6 {A1 A2 A3 A4 A5 A6 : Type} (B : (A1 → A2 → A3 → A4 → A5 → A6 → Prop) → A1 → A2 → A3 → A4 → A5 → A6 → Prop) : Nat → A1 → A2 → A3 → A4 → A5 → A6 → Prop
  | 0, _, _, _, _, _, _ => False
  | n + 1, a1, a2, a3, a4, a5, a6 => B (wL6 B n) a1 a2 a3 a4 a5 a6
theorem wL6_go {A1 A2 A3 A4 A5 A6 : Type} {B : (A1 → A2 → A3 → A4 → A5 → A6 → Prop) → A1 → A2 → A3 → A4 → A5 → A6 → Prop} {P : A1 → A2 → A3 → A4 → A5 → A6 → Prop} (h : ∀ K : A1 → A2 → A3 → A4 → A5 → A6 → Prop, (∀ a1 a2 a3 a4 a5 a6, K a1 a2 a3 a4 a5 a6 → P a1 a2 a3 a4 a5 a6) → ∀ a1 a2 a3 a4 a5 a6, B K a1 a2 a3 a4 a5 a6 → P a1 a2 a3 a4 a5 a6) : ∀ n a1 a2 a3 a4 a5 a6, wL6 B n a1 a2 a3 a4 a5 a6 → P a1 a2 a3 a4 a5 a6
  | 0, _, _, _, _, _, _, hw => hw.elim
  | n + 1, a1, a2, a3, a4, a5, a6, hw => h (wL6 B n) (wL6_go h n) a1 a2 a3 a4 a5 a6 hw
theorem wL6_in {A1 A2 A3 A4 A5 A6 : Type} {B : (A1 → A2 → A3 → A4 → A5 → A6 → Prop) → A1 → A2 → A3 → A4 → A5 → A6 → Prop} (I : A1 → A2 → A3 → A4 → A5 → A6 → Prop) (μ : A1 → A2 → A3 → A4 → A5 → A6 → Nat) (hs : ∀ (K : A1 → A2 → A3 → A4 → A5 → A6 → Prop) a1 a2 a3 a4 a5 a6, I a1 a2 a3 a4 a5 a6 → (∀ b1 b2 b3 b4 b5 b6, I b1 b2 b3 b4 b5 b6 → μ b1 b2 b3 b4 b5 b6 < μ a1 a2 a3 a4 a5 a6 → K b1 b2 b3 b4 b5 b6) → B K a1 a2 a3 a4 a5 a6) : ∀ a1 a2 a3 a4 a5 a6, I a1 a2 a3 a4 a5 a6 → ∃ n, wL6 B n a1 a2 a3 a4 a5 a6 := by
  have key : ∀ n a1 a2 a3 a4 a5 a6, I a1 a2 a3 a4 a5 a6 → μ a1 a2 a3 a4 a5 a6 < n → wL6 B n a1 a2 a3 a4 a5 a6 := by
    intro n
    induction n with
    | zero => intro a1 a2 a3 a4 a5 a6 _ h; exact absurd h (Nat.not_lt_zero _)
    | succ n ih => intro a1 a2 a3 a4 a5 a6 hi hm; exact hs _ a1 a2 a3 a4 a5 a6 hi (fun b1 b2 b3 b4 b5 b6 hb hlt => ih b1 b2 b3 b4 b5 b6 hb (by omega))
  intro a1 a2 a3 a4 a5 a6 hi
  exact ⟨_, key _ a1 a2 a3 a4 a5 a6 hi (Nat.lt_succ_self _)⟩
def wj6 {A1 A2 A3 A4 A5 A6 : Type} (f : (A1 → A2 → A3 → A4 → A5 → A6 → Prop) → Prop) (k : A1 → A2 → A3 → A4 → A5 → A6 → Prop) : Prop := f k
theorem wj6_go {A1 A2 A3 A4 A5 A6 : Type} {f : (A1 → A2 → A3 → A4 → A5 → A6 → Prop) → Prop} {k : A1 → A2 → A3 → A4 → A5 → A6 → Prop} {P : A1 → A2 → A3 → A4 → A5 → A6 → Prop} {Z : Prop} (hw : wj6 f k) (hr : ∀ a1 a2 a3 a4 a5 a6, k a1 a2 a3 a4 a5 a6 → P a1 a2 a3 a4 a5 a6) (hg : ∀ J : A1 → A2 → A3 → A4 → A5 → A6 → Prop, (∀ a1 a2 a3 a4 a5 a6, J a1 a2 a3 a4 a5 a6 → P a1 a2 a3 a4 a5 a6) → f J → Z) : Z := hg k hr hw
theorem wj6_in {A1 A2 A3 A4 A5 A6 : Type} {f : (A1 → A2 → A3 → A4 → A5 → A6 → Prop) → Prop} {k : A1 → A2 → A3 → A4 → A5 → A6 → Prop} (P : A1 → A2 → A3 → A4 → A5 → A6 → Prop) (hr : ∀ a1 a2 a3 a4 a5 a6, P a1 a2 a3 a4 a5 a6 → k a1 a2 a3 a4 a5 a6) (hg : ∀ J : A1 → A2 → A3 → A4 → A5 → A6 → Prop, (∀ a1 a2 a3 a4 a5 a6, P a1 a2 a3 a4 a5 a6 → J a1 a2 a3 a4 a5 a6) → f J) : wj6 f k := hg k hr
def wL7 {A1 A2 A3 A4 A5 A6 A7 : Type} (B : (A1 → A2 → A3 → A4 → A5 → A6 → A7 → Prop) → A1 → A2 → A3 → A4 → A5 → A6 → A7 → Prop) : Nat → A1 → A2 → A3 → A4 → A5 → A6 → A7 → Prop
  | 0, _, _, _, _, _, _, _ => False
  | n + 1, a1, a2, a3, a4, a5, a6, a7 => B (wL7 B n) a1 a2 a3 a4 a5 a6 a7
theorem wL7_go {A1 A2 A3 A4 A5 A6 A7 : Type} {B : (A1 → A2 → A3 → A4 → A5 → A6 → A7 → Prop) → A1 → A2 → A3 → A4 → A5 → A6 → A7 → Prop} {P : A1 → A2 → A3 → A4 → A5 → A6 → A7 → Prop} (h : ∀ K : A1 → A2 → A3 → A4 → A5 → A6 → A7 → Prop, (∀ a1 a2 a3 a4 a5 a6 a7, K a1 a2 a3 a4 a5 a6 a7 → P a1 a2 a3 a4 a5 a6 a7) → ∀ a1 a2 a3 a4 a5 a6 a7, B K a1 a2 a3 a4 a5 a6 a7 → P a1 a2 a3 a4 a5 a6 a7) : ∀ n a1 a2 a3 a4 a5 a6 a7, wL7 B n a1 a2 a3 a4 a5 a6 a7 → P a1 a2 a3 a4 a5 a6 a7
  | 0, _, _, _, _, _, _, _, hw => hw.elim
  | n + 1, a1, a2, a3, a4, a5, a6, a7, hw => h (wL7 B n) (wL7_go h n) a1 a2 a3 a4 a5 a6 a7 hw
theorem wL7_in {A1 A2 A3 A4 A5 A6 A7 : Type} {B : (A1 → A2 → A3 → A4 → A5 → A6 → A7 → Prop) → A1 → A2 → A3 → A4 → A5 → A6 → A7 → Prop} (I : A1 → A2 → A3 → A4 → A5 → A6 → A7 → Prop) (μ : A1 → A2 → A3 → A4 → A5 → A6 → A7 → Nat) (hs : ∀ (K : A1 → A2 → A3 → A4 → A5 → A6 → A7 → Prop) a1 a2 a3 a4 a5 a6 a7, I a1 a2 a3 a4 a5 a6 a7 → (∀ b1 b2 b3 b4 b5 b6 b7, I b1 b2 b3 b4 b5 b6 b7 → μ b1 b2 b3 b4 b5 b6 b7 < μ a1 a2 a3 a4 a5 a6 a7 → K b1 b2 b3 b4 b5 b6 b7) → B K a1 a2 a3 a4 a5 a6 a7) : ∀ a1 a2 a3 a4 a5 a6 a7, I a1 a2 a3 a4 a5 a6 a7 → ∃ n, wL7 B n a1 a2 a3 a4 a5 a6 a7 := by
  have key : ∀ n a1 a2 a3 a4 a5 a6 a7, I a1 a2 a3 a4 a5 a6 a7 → μ a1 a2 a3 a4 a5 a6 a7 < n → wL7 B n a1 a2 a3 a4 a5 a6 a7 := by
    intro n
    induction n with
    | zero => intro a1 a2 a3 a4 a5 a6 a7 _ h; exact absurd h (Nat.not_lt_zero _)
    | succ n ih => intro a1 a2 a3 a4 a5 a6 a7 hi hm; exact hs _ a1 a2 a3 a4 a5 a6 a7 hi (fun b1 b2 b3 b4 b5 b6 b7 hb hlt => ih b1 b2 b3 b4 b5 b6 b7 hb (by omega))
  intro a1 a2 a3 a4 a5 a6 a7 hi
  exact ⟨_, key _ a1 a2 a3 a4 a5 a6 a7 hi (Nat.lt_succ_self _)⟩
def wj7 {A1 A2 A3 A4 A5 A6 A7 : Type} (f : (A1 → A2 → A3 → A4 → A5 → A6 → A7 → Prop) → Prop) (k : A1 → A2 → A3 → A4 → A5 → A6 → A7 → Prop) : Prop := f k
theorem wj7_go {A1 A2 A3 A4 A5 A6 A7 : Type} {f : (A1 → A2 → A3 → A4 → A5 → A6 → A7 → Prop) → Prop} {k : A1 → A2 → A3 → A4 → A5 → A6 → A7 → Prop} {P : A1 → A2 → A3 → A4 → A5 → A6 → A7 → Prop} {Z : Prop} (hw : wj7 f k) (hr : ∀ a1 a2 a3 a4 a5 a6 a7, k a1 a2 a3 a4 a5 a6 a7 → P a1 a2 a3 a4 a5 a6 a7) (hg : ∀ J : A1 → A2 → A3 → A4 → A5 → A6 → A7 → Prop, (∀ a1 a2 a3 a4 a5 a6 a7, J a1 a2 a3 a4 a5 a6 a7 → P a1 a2 a3 a4 a5 a6 a7) → f J → Z) : Z := hg k hr hw
theorem wj7_in {A1 A2 A3 A4 A5 A6 A7 : Type} {f : (A1 → A2 → A3 → A4 → A5 → A6 → A7 → Prop) → Prop} {k : A1 → A2 → A3 → A4 → A5 → A6 → A7 → Prop} (P : A1 → A2 → A3 → A4 → A5 → A6 → A7 → Prop) (hr : ∀ a1 a2 a3 a4 a5 a6 a7, P a1 a2 a3 a4 a5 a6 a7 → k a1 a2 a3 a4 a5 a6 a7) (hg : ∀ J : A1 → A2 → A3 → A4 → A5 → A6 → A7 → Prop, (∀ a1 a2 a3 a4 a5 a6 a7, P a1 a2 a3 a4 a5 a6 a7 → J a1 a2 a3 a4 a5 a6 a7) → f J) : wj7 f k := hg k hr
def wL8 {A1 A2 A3 A4 A5 A6 A7 A8 : Type} (B : (A1 → A2 → A3 → A4 → A5 → A6 → A7 → A8 → Prop) → A1 → A2 → A3 → A4 → A5 → A6 → A7 → A8 → Prop) : Nat → A1 → A2 → A3 → A4 → A5 → A6 → A7 → A8 → Prop
  | 0, _, _, _, _, _, _, _, _ => False
  | n + 1, a1, a2, a3, a4, a5, a6, a7, a8 => B (wL8 B n) a1 a2 a3 a4 a5 a6 a7 a8
theorem wL8_go {A1 A2 A3 A4 A5 A6 A7 A8 : Type} {B : (A1 → A2 → A3 → A4 → A5 → A6 → A7 → A8 → Prop) → A1 → A2 → A3 → A4 → A5 → A6 → A7 → A8 → Prop} {P : A1 → A2 → A3 → A4 → A5 → A6 → A7 → A8 → Prop} (h : ∀ K : A1 → A2 → A3 → A4 → A5 → A6 → A7 → A8 → Prop, (∀ a1 a2 a3 a4 a5 a6 a7 a8, K a1 a2 a3 a4 a5 a6 a7 a8 → P a1 a2 a3 a4 a5 a6 a7 a8) → ∀ a1 a2 a3 a4 a5 a6 a7 a8, B K a1 a2 a3 a4 a5 a6 a7 a8 → P a1 a2 a3 a4 a5 a6 a7 a8) : ∀ n a1 a2 a3 a4 a5 a6 a7 a8, wL8 B n a1 a2 a3 a4 a5 a6 a7 a8 → P a1 a2 a3 a4 a5 a6 a7 a8
  | 0, _, _, _, _, _, _, _, _, hw => hw.elim
  | n + 1, a1, a2, a3, a4, a5, a6, a7, a8, hw => h (wL8 B n) (wL8_go h n) a1 a2 a3 a4 a5 a6 a7 a8 hw
theorem wL8_in {A1 A2 A3 A4 A5 A6 A7 A8 : Type} {B : (A1 → A2 → A3 → A4 → A5 → A6 → A7 → A8 → Prop) → A1 → A2 → A3 → A4 → A5 → A6 → A7 → A8 → Prop} (I : A1 → A2 → A3 → A4 → A5 → A6 → A7 → A8 → Prop) (μ : A1 → A2 → A3 → A4 → A5 → A6 → A7 → A8 → Nat) (hs : ∀ (K : A1 → A2 → A3 → A4 → A5 → A6 → A7 → A8 → Prop) a1 a2 a3 a4 a5 a6 a7 a8, I a1 a2 a3 a4 a5 a6 a7 a8 → (∀ b1 b2 b3 b4 b5 b6 b7 b8, I b1 b2 b3 b4 b5 b6 b7 b8 → μ b1 b2 b3 b4 b5 b6 b7 b8 < μ a1 a2 a3 a4 a5 a6 a7 a8 → K b1 b2 b3 b4 b5 b6 b7 b8) → B K a1 a2 a3 a4 a5 a6 a7 a8) : ∀ a1 a2 a3 a4 a5 a6 a7 a8, I a1 a2 a3 a4 a5 a6 a7 a8 → ∃ n, wL8 B n a1 a2 a3 a4 a5 a6 a7 a8 := by
  have key : ∀ n a1 a2 a3 a4 a5 a6 a7 a8, I a1 a2 a3 a4 a5 a6 a7 a8 → μ a1 a2 a3 a4 a5 a6 a7 a8 < n → wL8 B n a1 a2 a3 a4 a5 a6 a7 a8 := by
    intro n
    induction n with
    | zero => intro a1 a2 a3 a4 a5 a6 a7 a8 _ h; exact absurd h (Nat.not_lt_zero _)
    | succ n ih => intro a1 a2 a3 a4 a5 a6 a7 a8 hi hm; exact hs _ a1 a2 a3 a4 a5 a6 a7 a8 hi (fun b1 b2 b3 b4 b5 b6 b7 b8 hb hlt => ih b1 b2 b3 b4 b5 b6 b7 b8 hb (by omega))
  intro a1 a2 a3 a4 a5 a6 a7 a8 hi
  exact ⟨_, key _ a1 a2 a3 a4 a5 a6 a7 a8 hi (Nat.lt_succ_self _)⟩
def wj8 {A1 A2 A3 A4 A5 A6 A7 A8 : Type} (f : (A1 → A2 → A3 → A4 → A5 → A6 → A7 → A8 → Prop) → Prop) (k : A1 → A2 → A3 → A4 → A5 → A6 → A7 → A8 → Prop) : Prop := f k
theorem wj8_go {A1 A2 A3 A4 A5 A6 A7 A8 : Type} {f : (A1 → A2 → A3 → A4 → A5 → A6 → A7 → A8 → Prop) → Prop} {k : A1 → A2 → A3 → A4 → A5 → A6 → A7 → A8 → Prop} {P : A1 → A2 → A3 → A4 → A5 → A6 → A7 → A8 → Prop} {Z : Prop} (hw : wj8 f k) (hr : ∀ a1 a2 a3 a4 a5 a6 a7 a8, k a1 a2 a3 a4 a5 a6 a7 a8 → P a1 a2 a3 a4 a5 a6 a7 a8) (hg : ∀ J : A1 → A2 → A3 → A4 → A5 → A6 → A7 → A8 → Prop, (∀ a1 a2 a3 a4 a5 a6 a7 a8, J a1 a2 a3 a4 a5 a6 a7 a8 → P a1 a2 a3 a4 a5 a6 a7 a8) → f J → Z) : Z := hg k hr hw
theorem wj8_in {A1 A2 A3 A4 A5 A6 A7 A8 : Type} {f : (A1 → A2 → A3 → A4 → A5 → A6 → A7 → A8 → Prop) → Prop} {k : A1 → A2 → A3 → A4 → A5 → A6 → A7 → A8 → Prop} (P : A1 → A2 → A3 → A4 → A5 → A6 → A7 → A8 → Prop) (hr : ∀ a1 a2 a3 a4 a5 a6 a7 a8, P a1 a2 a3 a4 a5 a6 a7 a8 → k a1 a2 a3 a4 a5 a6 a7 a8) (hg : ∀ J : A1 → A2 → A3 → A4 → A5 → A6 → A7 → A8 → Prop, (∀ a1 a2 a3 a4 a5 a6 a7 a8, P a1 a2 a3 a4 a5 a6 a7 a8 → J a1 a2 a3 a4 a5 a6 a7 a8) → f J) : wj8 f k := hg k hr
def wL9 {A1 A2 A3 A4 A5 A6 A7 A8 A9 : Type} (B : (A1 → A2 → A3 → A4 → A5 → A6 → A7 → A8 → A9 → Prop) → A1 → A2 → A3 → A4 → A5 → A6 → A7 → A8 → A9 → Prop) : Nat → A1 → A2 → A3 → A4 → A5 → A6 → A7 → A8 → A9 → Prop
  | 0, _, _, _, _, _, _, _, _, _ => False
  | n + 1, a1, a2, a3, a4, a5, a6, a7, a8, a9 => B (wL9 B n) a1 a2 a3 a4 a5 a6 a7 a8 a9
theorem wL9_go {A1 A2 A3 A4 A5 A6 A7 A8 A9 : Type} {B : (A1 → A2 → A3 → A4 → A5 → A6 → A7 → A8 → A9 → Prop) → A1 → A2 → A3 → A4 → A5 → A6 → A7 → A8 → A9 → Prop} {P : A1 → A2 → A3 → A4 → A5 → A6 → A7 → A8 → A9 → Prop} (h : ∀ K : A1 → A2 → A3 → A4 → A5 → A6 → A7 → A8 → A9 → Prop, (∀ a1 a2 a3 a4 a5 a6 a7 a8 a9, K a1 a2 a3 a4 a5 a6 a7 a8 a9 → P a1 a2 a3 a4 a5 a6 a7 a8 a9) → ∀ a1 a2 a3 a4 a5 a6 a7 a8 a9, B K a1 a2 a3 a4 a5 a6 a7 a8 a9 → P a1 a2 a3 a4 a5 a6 a7 a8 a9) : ∀ n a1 a2 a3 a4 a5 a6 a7 a8 a9, wL9 B n a1 a2 a3 a4 a5 a6 a7 a8 a9 → P a1 a2 a3 a4 a5 a6 a7 a8 a9
  | 0, _, _, _, _, _, _, _, _, _, hw => hw.elim
  | n + 1, a1, a2, a3, a4, a5, a6, a7, a8, a9, hw => h (wL9 B n) (wL9_go h n) a1 a2 a3 a4 a5 a6 a7 a8 a9 hw
theorem wL9_in {A1 A2 A3 A4 A5 A6 A7 A8 A9 : Type} {B : (A1 → A2 → A3 → A4 → A5 → A6 → A7 → A8 → A9 → Prop) → A1 → A2 → A3 → A4 → A5 → A6 → A7 → A8 → A9 → Prop} (I : A1 → A2 → A3 → A4 → A5 → A6 → A7 → A8 → A9 → Prop) (μ : A1 → A2 → A3 → A4 → A5 → A6 → A7 → A8 → A9 → Nat) (hs : ∀ (K : A1 → A2 → A3 → A4 → A5 → A6 → A7 → A8 → A9 → Prop) a1 a2 a3 a4 a5 a6 a7 a8 a9, I a1 a2 a3 a4 a5 a6 a7 a8 a9 → (∀ b1 b2 b3 b4 b5 b6 b7 b8 b9, I b1 b2 b3 b4 b5 b6 b7 b8 b9 → μ b1 b2 b3 b4 b5 b6 b7 b8 b9 < μ a1 a2 a3 a4 a5 a6 a7 a8 a9 → K b1 b2 b3 b4 b5 b6 b7 b8 b9) → B K a1 a2 a3 a4 a5 a6 a7 a8 a9) : ∀ a1 a2 a3 a4 a5 a6 a7 a8 a9, I a1 a2 a3 a4 a5 a6 a7 a8 a9 → ∃ n, wL9 B n a1 a2 a3 a4 a5 a6 a7 a8 a9 := by
  have key : ∀ n a1 a2 a3 a4 a5 a6 a7 a8 a9, I a1 a2 a3 a4 a5 a6 a7 a8 a9 → μ a1 a2 a3 a4 a5 a6 a7 a8 a9 < n → wL9 B n a1 a2 a3 a4 a5 a6 a7 a8 a9 := by
    intro n
    induction n with
    | zero => intro a1 a2 a3 a4 a5 a6 a7 a8 a9 _ h; exact absurd h (Nat.not_lt_zero _)
    | succ n ih => intro a1 a2 a3 a4 a5 a6 a7 a8 a9 hi hm; exact hs _ a1 a2 a3 a4 a5 a6 a7 a8 a9 hi (fun b1 b2 b3 b4 b5 b6 b7 b8 b9 hb hlt => ih b1 b2 b3 b4 b5 b6 b7 b8 b9 hb (by omega))
  intro a1 a2 a3 a4 a5 a6 a7 a8 a9 hi
  exact ⟨_, key _ a1 a2 a3 a4 a5 a6 a7 a8 a9 hi (Nat.lt_succ_self _)⟩
def wj9 {A1 A2 A3 A4 A5 A6 A7 A8 A9 : Type} (f : (A1 → A2 → A3 → A4 → A5 → A6 → A7 → A8 → A9 → Prop) → Prop) (k : A1 → A2 → A3 → A4 → A5 → A6 → A7 → A8 → A9 → Prop) : Prop := f k
theorem wj9_go {A1 A2 A3 A4 A5 A6 A7 A8 A9 : Type} {f : (A1 → A2 → A3 → A4 → A5 → A6 → A7 → A8 → A9 → Prop) → Prop} {k : A1 → A2 → A3 → A4 → A5 → A6 → A7 → A8 → A9 → Prop} {P : A1 → A2 → A3 → A4 → A5 → A6 → A7 → A8 → A9 → Prop} {Z : Prop} (hw : wj9 f k) (hr : ∀ a1 a2 a3 a4 a5 a6 a7 a8 a9, k a1 a2 a3 a4 a5 a6 a7 a8 a9 → P a1 a2 a3 a4 a5 a6 a7 a8 a9) (hg : ∀ J : A1 → A2 → A3 → A4 → A5 → A6 → A7 → A8 → A9 → Prop, (∀ a1 a2 a3 a4 a5 a6 a7 a8 a9, J a1 a2 a3 a4 a5 a6 a7 a8 a9 → P a1 a2 a3 a4 a5 a6 a7 a8 a9) → f J → Z) : Z := hg k hr hw
theorem wj9_in {A1 A2 A3 A4 A5 A6 A7 A8 A9 : Type} {f : (A1 → A2 → A3 → A4 → A5 → A6 → A7 → A8 → A9 → Prop) → Prop} {k : A1 → A2 → A3 → A4 → A5 → A6 → A7 → A8 → A9 → Prop} (P : A1 → A2 → A3 → A4 → A5 → A6 → A7 → A8 → A9 → Prop) (hr : ∀ a1 a2 a3 a4 a5 a6 a7 a8 a9, P a1 a2 a3 a4 a5 a6 a7 a8 a9 → k a1 a2 a3 a4 a5 a6 a7 a8 a9) (hg : ∀ J : A1 → A2 → A3 → A4 → A5 → A6 → A7 → A8 → A9 → Prop, (∀ a1 a2 a3 a4 a5 a6 a7 a8 a9, P a1 a2 a3 a4 a5 a6 a7 a8 a9 → J a1 a2 a3 a4 a5 a6 a7 a8 a9) → f J) : wj9 f k := hg k hr
def wL10 {A1 A2 A3 A4 A5 A6 A7 A8 A9 A10 : Type} (B : (A1 → A2 → A3 → A4 → A5 → A6 → A7 → A8 → A9 → A10 → Prop) → A1 → A2 → A3 → A4 → A5 → A6 → A7 → A8 → A9 → A10 → Prop) : Nat → A1 → A2 → A3 → A4 → A5 → A6 → A7 → A8 → A9 → A10 → Prop
  | 0, _, _, _, _, _, _, _, _, _, _ => False
  | n + 1, a1, a2, a3, a4, a5, a6, a7, a8, a9, a10 => B (wL10 B n) a1 a2 a3 a4 a5 a6 a7 a8 a9 a10
theorem wL10_go {A1 A2 A3 A4 A5 A6 A7 A8 A9 A10 : Type} {B : (A1 → A2 → A3 → A4 → A5 → A6 → A7 → A8 → A9 → A10 → Prop) → A1 → A2 → A3 → A4 → A5 → A6 → A7 → A8 → A9 → A10 → Prop} {P : A1 → A2 → A3 → A4 → A5 → A6 → A7 → A8 → A9 → A10 → Prop} (h : ∀ K : A1 → A2 → A3 → A4 → A5 → A6 → A7 → A8 → A9 → A10 → Prop, (∀ a1 a2 a3 a4 a5 a6 a7 a8 a9 a10, K a1 a2 a3 a4 a5 a6 a7 a8 a9 a10 → P a1 a2 a3 a4 a5 a6 a7 a8 a9 a10) → ∀ a1 a2 a3 a4 a5 a6 a7 a8 a9 a10, B K a1 a2 a3 a4 a5 a6 a7 a8 a9 a10 → P a1 a2 a3 a4 a5 a6 a7 a8 a9 a10) : ∀ n a1 a2 a3 a4 a5 a6 a7 a8 a9 a10, wL10 B n a1 a2 a3 a4 a5 a6 a7 a8 a9 a10 → P a1 a2 a3 a4 a5 a6 a7 a8 a9 a10
  | 0, _, _, _, _, _, _, _, _, _, _, hw => hw.elim
  | n + 1, a1, a2, a3, a4, a5, a6, a7, a8, a9, a10, hw => h (wL10 B n) (wL10_go h n) a1 a2 a3 a4 a5 a6 a7 a8 a9 a10 hw
theorem wL10_in {A1 A2 A3 A4 A5 A6 A7 A8 A9 A10 : Type} {B : (A1 → A2 → A3 → A4 → A5 → A6 → A7 → A8 → A9 → A10 → Prop) → A1 → A2 → A3 → A4 → A5 → A6 → A7 → A8 → A9 → A10 → Prop} (I : A1 → A2 → A3 → A4 → A5 → A6 → A7 → A8 → A9 → A10 → Prop) (μ : A1 → A2 → A3 → A4 → A5 → A6 → A7 → A8 → A9 → A10 → Nat) (hs : ∀ (K : A1 → A2 → A3 → A4 → A5 → A6 → A7 → A8 → A9 → A10 → Prop) a1 a2 a3 a4 a5 a6 a7 a8 a9 a10, I a1 a2 a3 a4 a5 a6 a7 a8 a9 a10 → (∀ b1 b2 b3 b4 b5 b6 b7 b8 b9 b10, I b1 b2 b3 b4 b5 b6 b7 b8 b9 b10 → μ b1 b2 b3 b4 b5 b6 b7 b8 b9 b10 < μ a1 a2 a3 a4 a5 a6 a7 a8 a9 a10 → K b1 b2 b3 b4 b5 b6 b7 b8 b9 b10) → B K a1 a2 a3 a4 a5 a6 a7 a8 a9 a10) : ∀ a1 a2 a3 a4 a5 a6 a7 a8 a9 a10, I a1 a2 a3 a4 a5 a6 a7 a8 a9 a10 → ∃ n, wL10 B n a1 a2 a3 a4 a5 a6 a7 a8 a9 a10 := by
  have key : ∀ n a1 a2 a3 a4 a5 a6 a7 a8 a9 a10, I a1 a2 a3 a4 a5 a6 a7 a8 a9 a10 → μ a1 a2 a3 a4 a5 a6 a7 a8 a9 a10 < n → wL10 B n a1 a2 a3 a4 a5 a6 a7 a8 a9 a10 := by
    intro n
    induction n with
    | zero => intro a1 a2 a3 a4 a5 a6 a7 a8 a9 a10 _ h; exact absurd h (Nat.not_lt_zero _)
    | succ n ih => intro a1 a2 a3 a4 a5 a6 a7 a8 a9 a10 hi hm; exact hs _ a1 a2 a3 a4 a5 a6 a7 a8 a9 a10 hi (fun b1 b2 b3 b4 b5 b6 b7 b8 b9 b10 hb hlt => ih b1 b2 b3 b4 b5 b6 b7 b8 b9 b10 hb (by omega))
  intro a1 a2 a3 a4 a5 a6 a7 a8 a9 a10 hi
  exact ⟨_, key _ a1 a2 a3 a4 a5 a6 a7 a8 a9 a10 hi (Nat.lt_succ_self _)⟩
def wj10 {A1 A2 A3 A4 A5 A6 A7 A8 A9 A10 : Type} (f : (A1 → A2 → A3 → A4 → A5 → A6 → A7 → A8 → A9 → A10 → Prop) → Prop) (k : A1 → A2 → A3 → A4 → A5 → A6 → A7 → A8 → A9 → A10 → Prop) : Prop := f k
theorem wj10_go {A1 A2 A3 A4 A5 A6 A7 A8 A9 A10 : Type} {f : (A1 → A2 → A3 → A4 → A5 → A6 → A7 → A8 → A9 → A10 → Prop) → Prop} {k : A1 → A2 → A3 → A4 → A5 → A6 → A7 → A8 → A9 → A10 → Prop} {P : A1 → A2 → A3 → A4 → A5 → A6 → A7 → A8 → A9 → A10 → Prop} {Z : Prop} (hw : wj10 f k) (hr : ∀ a1 a2 a3 a4 a5 a6 a7 a8 a9 a10, k a1 a2 a3 a4 a5 a6 a7 a8 a9 a10 → P a1 a2 a3 a4 a5 a6 a7 a8 a9 a10) (hg : ∀ J : A1 → A2 → A3 → A4 → A5 → A6 → A7 → A8 → A9 → A10 → Prop, (∀ a1 a2 a3 a4 a5 a6 a7 a8 a9 a10, J a1 a2 a3 a4 a5 a6 a7 a8 a9 a10 → P a1 a2 a3 a4 a5 a6 a7 a8 a9 a10) → f J → Z) : Z := hg k hr hw
theorem wj10_in {A1 A2 A3 A4 A5 A6 A7 A8 A9 A10 : Type} {f : (A1 → A2 → A3 → A4 → A5 → A6 → A7 → A8 → A9 → A10 → Prop) → Prop} {k : A1 → A2 → A3 → A4 → A5 → A6 → A7 → A8 → A9 → A10 → Prop} (P : A1 → A2 → A3 → A4 → A5 → A6 → A7 → A8 → A9 → A10 → Prop) (hr : ∀ a1 a2 a3 a4 a5 a6 a7 a8 a9 a10, P a1 a2 a3 a4 a5 a6 a7 a8 a9 a10 → k a1 a2 a3 a4 a5 a6 a7 a8 a9 a10) (hg : ∀ J : A1 → A2 → A3 → A4 → A5 → A6 → A7 → A8 → A9 → A10 → Prop, (∀ a1 a2 a3 a4 a5 a6 a7 a8 a9 a10, P a1 a2 a3 a4 a5 a6 a7 a8 a9 a10 → J a1 a2 a3 a4 a5 a6 a7 a8 a9 a10) → f J) : wj10 f k := hg k hr
def wL11 {A1 A2 A3 A4 A5 A6 A7 A8 A9 A10 A11 : Type} (B : (A1 → A2 → A3 → A4 → A5 → A6 → A7 → A8 → A9 → A10 → A11 → Prop) → A1 → A2 → A3 → A4 → A5 → A6 → A7 → A8 → A9 → A10 → A11 → Prop) : Nat → A1 → A2 → A3 → A4 → A5 → A6 → A7 → A8 → A9 → A10 → A11 → Prop
  | 0, _, _, _, _, _, _, _, _, _, _, _ => False
  | n + 1, a1, a2, a3, a4, a5, a6, a7, a8, a9, a10, a11 => B (wL11 B n) a1 a2 a3 a4 a5 a6 a7 a8 a9 a10 a11
theorem wL11_go {A1 A2 A3 A4 A5 A6 A7 A8 A9 A10 A11 : Type} {B : (A1 → A2 → A3 → A4 → A5 → A6 → A7 → A8 → A9 → A10 → A11 → Prop) → A1 → A2 → A3 → A4 → A5 → A6 → A7 → A8 → A9 → A10 → A11 → Prop} {P : A1 → A2 → A3 → A4 → A5 → A6 → A7 → A8 → A9 → A10 → A11 → Prop} (h : ∀ K : A1 → A2 → A3 → A4 → A5 → A6 → A7 → A8 → A9 → A10 → A11 → Prop, (∀ a1 a2 a3 a4 a5 a6 a7 a8 a9 a10 a11, K a1 a2 a3 a4 a5 a6 a7 a8 a9 a10 a11 → P a1 a2 a3 a4 a5 a6 a7 a8 a9 a10 a11) → ∀ a1 a2 a3 a4 a5 a6 a7 a8 a9 a10 a11, B K a1 a2 a3 a4 a5 a6 a7 a8 a9 a10 a11 → P a1 a2 a3 a4 a5 a6 a7 a8 a9 a10 a11) : ∀ n a1 a2 a3 a4 a5 a6 a7 a8 a9 a10 a11, wL11 B n a1 a2 a3 a4 a5 a6 a7 a8 a9 a10 a11 → P a1 a2 a3 a4 a5 a6 a7 a8 a9 a10 a11
  | 0, _, _, _, _, _, _, _, _, _, _, _, hw => hw.elim
  | n + 1, a1, a2, a3, a4, a5, a6, a7, a8, a9, a10, a11, hw => h (wL11 B n) (wL11_go h n) a1 a2 a3 a4 a5 a6 a7 a8 a9 a10 a11 hw
theorem wL11_in {A1 A2 A3 A4 A5 A6 A7 A8 A9 A10 A11 : Type} {B : (A1 → A2 → A3 → A4 → A5 → A6 → A7 → A8 → A9 → A10 → A11 → Prop) → A1 → A2 → A3 → A4 → A5 → A6 → A7 → A8 → A9 → A10 → A11 → Prop} (I : A1 → A2 → A3 → A4 → A5 → A6 → A7 → A8 → A9 → A10 → A11 → Prop) (μ : A1 → A2 → A3 → A4 → A5 → A6 → A7 → A8 → A9 → A10 → A11 → Nat) (hs : ∀ (K : A1 → A2 → A3 → A4 → A5 → A6 → A7 → A8 → A9 → A10 → A11 → Prop) a1 a2 a3 a4 a5 a6 a7 a8 a9 a10 a11, I a1 a2 a3 a4 a5 a6 a7 a8 a9 a10 a11 → (∀ b1 b2 b3 b4 b5 b6 b7 b8 b9 b10 b11, I b1 b2 b3 b4 b5 b6 b7 b8 b9 b10 b11 → μ b1 b2 b3 b4 b5 b6 b7 b8 b9 b10 b11 < μ a1 a2 a3 a4 a5 a6 a7 a8 a9 a10 a11 → K b1 b2 b3 b4 b5 b6 b7 b8 b9 b10 b11) → B K a1 a2 a3 a4 a5 a6 a7 a8 a9 a10 a11) : ∀ a1 a2 a3 a4 a5 a6 a7 a8 a9 a10 a11, I a1 a2 a3 a4 a5 a6 a7 a8 a9 a10 a11 → ∃ n, wL11 B n a1 a2 a3 a4 a5 a6 a7 a8 a9 a10 a11 := by
  have key : ∀ n a1 a2 a3 a4 a5 a6 a7 a8 a9 a10 a11, I a1 a2 a3 a4 a5 a6 a7 a8 a9 a10 a11 → μ a1 a2 a3 a4 a5 a6 a7 a8 a9 a10 a11 < n → wL11 B n a1 a2 a3 a4 a5 a6 a7 a8 a9 a10 a11 := by
    intro n
    induction n with
    | zero => intro a1 a2 a3 a4 a5 a6 a7 a8 a9 a10 a11 _ h; exact absurd h (Nat.not_lt_zero _)
    | succ n ih => intro a1 a2 a3 a4 a5 a6 a7 a8 a9 a10 a11 hi hm; exact hs _ a1 a2 a3 a4 a5 a6 a7 a8 a9 a10 a11 hi (fun b1 b2 b3 b4 b5 b6 b7 b8 b9 b10 b11 hb hlt => ih b1 b2 b3 b4 b5 b6 b7 b8 b9 b10 b11 hb (by omega))
  intro a1 a2 a3 a4 a5 a6 a7 a8 a9 a10 a11 hi
  exact ⟨_, key _ a1 a2 a3 a4 a5 a6 a7 a8 a9 a10 a11 hi (Nat.lt_succ_self _)⟩
def wj11 {A1 A2 A3 A4 A5 A6 A7 A8 A9 A10 A11 : Type} (f : (A1 → A2 → A3 → A4 → A5 → A6 → A7 → A8 → A9 → A10 → A11 → Prop) → Prop) (k : A1 → A2 → A3 → A4 → A5 → A6 → A7 → A8 → A9 → A10 → A11 → Prop) : Prop := f k
theorem wj11_go {A1 A2 A3 A4 A5 A6 A7 A8 A9 A10 A11 : Type} {f : (A1 → A2 → A3 → A4 → A5 → A6 → A7 → A8 → A9 → A10 → A11 → Prop) → Prop} {k : A1 → A2 → A3 → A4 → A5 → A6 → A7 → A8 → A9 → A10 → A11 → Prop} {P : A1 → A2 → A3 → A4 → A5 → A6 → A7 → A8 → A9 → A10 → A11 → Prop} {Z : Prop} (hw : wj11 f k) (hr : ∀ a1 a2 a3 a4 a5 a6 a7 a8 a9 a10 a11, k a1 a2 a3 a4 a5 a6 a7 a8 a9 a10 a11 → P a1 a2 a3 a4 a5 a6 a7 a8 a9 a10 a11) (hg : ∀ J : A1 → A2 → A3 → A4 → A5 → A6 → A7 → A8 → A9 → A10 → A11 → Prop, (∀ a1 a2 a3 a4 a5 a6 a7 a8 a9 a10 a11, J a1 a2 a3 a4 a5 a6 a7 a8 a9 a10 a11 → P a1 a2 a3 a4 a5 a6 a7 a8 a9 a10 a11) → f J → Z) : Z := hg k hr hw
theorem wj11_in {A1 A2 A3 A4 A5 A6 A7 A8 A9 A10 A11 : Type} {f : (A1 → A2 → A3 → A4 → A5 → A6 → A7 → A8 → A9 → A10 → A11 → Prop) → Prop} {k : A1 → A2 → A3 → A4 → A5 → A6 → A7 → A8 → A9 → A10 → A11 → Prop} (P : A1 → A2 → A3 → A4 → A5 → A6 → A7 → A8 → A9 → A10 → A11 → Prop) (hr : ∀ a1 a2 a3 a4 a5 a6 a7 a8 a9 a10 a11, P a1 a2 a3 a4 a5 a6 a7 a8 a9 a10 a11 → k a1 a2 a3 a4 a5 a6 a7 a8 a9 a10 a11) (hg : ∀ J : A1 → A2 → A3 → A4 → A5 → A6 → A7 → A8 → A9 → A10 → A11 → Prop, (∀ a1 a2 a3 a4 a5 a6 a7 a8 a9 a10 a11, P a1 a2 a3 a4 a5 a6 a7 a8 a9 a10 a11 → J a1 a2 a3 a4 a5 a6 a7 a8 a9 a10 a11) → f J) : wj11 f k := hg k hr
def wL12 {A1 A2 A3 A4 A5 A6 A7 A8 A9 A10 A11 A12 : Type} (B : (A1 → A2 → A3 → A4 → A5 → A6 → A7 → A8 → A9 → A10 → A11 → A12 → Prop) → A1 → A2 → A3 → A4 → A5 → A6 → A7 → A8 → A9 → A10 → A11 → A12 → Prop) : Nat → A1 → A2 → A3 → A4 → A5 → A6 → A7 → A8 → A9 → A10 → A11 → A12 → Prop
  | 0, _, _, _, _, _, _, _, _, _, _, _, _ => False
  | n + 1, a1, a2, a3, a4, a5, a6, a7, a8, a9, a10, a11, a12 => B (wL12 B n) a1 a2 a3 a4 a5 a6 a7 a8 a9 a10 a11 a12
theorem wL12_go {A1 A2 A3 A4 A5 A6 A7 A8 A9 A10 A11 A12 : Type} {B : (A1 → A2 → A3 → A4 → A5 → A6 → A7 → A8 → A9 → A10 → A11 → A12 → Prop) → A1 → A2 → A3 → A4 → A5 → A6 → A7 → A8 → A9 → A10 → A11 → A12 → Prop} {P : A1 → A2 → A3 → A4 → A5 → A6 → A7 → A8 → A9 → A10 → A11 → A12 → Prop} (h : ∀ K : A1 → A2 → A3 → A4 → A5 → A6 → A7 → A8 → A9 → A10 → A11 → A12 → Prop, (∀ a1 a2 a3 a4 a5 a6 a7 a8 a9 a10 a11 a12, K a1 a2 a3 a4 a5 a6 a7 a8 a9 a10 a11 a12 → P a1 a2 a3 a4 a5 a6 a7 a8 a9 a10 a11 a12) → ∀ a1 a2 a3 a4 a5 a6 a7 a8 a9 a10 a11 a12, B K a1 a2 a3 a4 a5 a6 a7 a8 a9 a10 a11 a12 → P a1 a2 a3 a4 a5 a6 a7 a8 a9 a10 a11 a12) : ∀ n a1 a2 a3 a4 a5 a6 a7 a8 a9 a10 a11 a12, wL12 B n a1 a2 a3 a4 a5 a6 a7 a8 a9 a10 a11 a12 → P a1 a2 a3 a4 a5 a6 a7 a8 a9 a10 a11 a12
  | 0, _, _, _, _, _, _, _, _, _, _, _, _, hw => hw.elim
  | n + 1, a1, a2, a3, a4, a5, a6, a7, a8, a9, a10, a11, a12, hw => h (wL12 B n) (wL12_go h n) a1 a2 a3 a4 a5 a6 a7 a8 a9 a10 a11 a12 hw
theorem wL12_in {A1 A2 A3 A4 A5 A6 A7 A8 A9 A10 A11 A12 : Type} {B : (A1 → A2 → A3 → A4 → A5 → A6 → A7 → A8 → A9 → A10 → A11 → A12 → Prop) → A1 → A2 → A3 → A4 → A5 → A6 → A7 → A8 → A9 → A10 → A11 → A12 → Prop} (I : A1 → A2 → A3 → A4 → A5 → A6 → A7 → A8 → A9 → A10 → A11 → A12 → Prop) (μ : A1 → A2 → A3 → A4 → A5 → A6 → A7 → A8 → A9 → A10 → A11 → A12 → Nat) (hs : ∀ (K : A1 → A2 → A3 → A4 → A5 → A6 → A7 → A8 → A9 → A10 → A11 → A12 → Prop) a1 a2 a3 a4 a5 a6 a7 a8 a9 a10 a11 a12, I a1 a2 a3 a4 a5 a6 a7 a8 a9 a10 a11 a12 → (∀ b1 b2 b3 b4 b5 b6 b7 b8 b9 b10 b11 b12, I b1 b2 b3 b4 b5 b6 b7 b8 b9 b10 b11 b12 → μ b1 b2 b3 b4 b5 b6 b7 b8 b9 b10 b11 b12 < μ a1 a2 a3 a4 a5 a6 a7 a8 a9 a10 a11 a12 → K b1 b2 b3 b4 b5 b6 b7 b8 b9 b10 b11 b12) → B K a1 a2 a3 a4 a5 a6 a7 a8 a9 a10 a11 a12) : ∀ a1 a2 a3 a4 a5 a6 a7 a8 a9 a10 a11 a12, I a1 a2 a3 a4 a5 a6 a7 a8 a9 a10 a11 a12 → ∃ n, wL12 B n a1 a2 a3 a4 a5 a6 a7 a8 a9 a10 a11 a12 := by
  have key : ∀ n a1 a2 a3 a4 a5 a6 a7 a8 a9 a10 a11 a12, I a1 a2 a3 a4 a5 a6 a7 a8 a9 a10 a11 a12 → μ a1 a2 a3 a4 a5 a6 a7 a8 a9 a10 a11 a12 < n → wL12 B n a1 a2 a3 a4 a5 a6 a7 a8 a9 a10 a11 a12 := by
    intro n
    induction n with
    | zero => intro a1 a2 a3 a4 a5 a6 a7 a8 a9 a10 a11 a12 _ h; exact absurd h (Nat.not_lt_zero _)
    | succ n ih => intro a1 a2 a3 a4 a5 a6 a7 a8 a9 a10 a11 a12 hi hm; exact hs _ a1 a2 a3 a4 a5 a6 a7 a8 a9 a10 a11 a12 hi (fun b1 b2 b3 b4 b5 b6 b7 b8 b9 b10 b11 b12 hb hlt => ih b1 b2 b3 b4 b5 b6 b7 b8 b9 b10 b11 b12 hb (by omega))
  intro a1 a2 a3 a4 a5 a6 a7 a8 a9 a10 a11 a12 hi
  exact ⟨_, key _ a1 a2 a3 a4 a5 a6 a7 a8 a9 a10 a11 a12 hi (Nat.lt_succ_self _)⟩
def wj12 {A1 A2 A3 A4 A5 A6 A7 A8 A9 A10 A11 A12 : Type} (f : (A1 → A2 → A3 → A4 → A5 → A6 → A7 → A8 → A9 → A10 → A11 → A12 → Prop) → Prop) (k : A1 → A2 → A3 → A4 → A5 → A6 → A7 → A8 → A9 → A10 → A11 → A12 → Prop) : Prop := f k
theorem wj12_go {A1 A2 A3 A4 A5 A6 A7 A8 A9 A10 A11 A12 : Type} {f : (A1 → A2 → A3 → A4 → A5 → A6 → A7 → A8 → A9 → A10 → A11 → A12 → Prop) → Prop} {k : A1 → A2 → A3 → A4 → A5 → A6 → A7 → A8 → A9 → A10 → A11 → A12 → Prop} {P : A1 → A2 → A3 → A4 → A5 → A6 → A7 → A8 → A9 → A10 → A11 → A12 → Prop} {Z : Prop} (hw : wj12 f k) (hr : ∀ a1 a2 a3 a4 a5 a6 a7 a8 a9 a10 a11 a12, k a1 a2 a3 a4 a5 a6 a7 a8 a9 a10 a11 a12 → P a1 a2 a3 a4 a5 a6 a7 a8 a9 a10 a11 a12) (hg : ∀ J : A1 → A2 → A3 → A4 → A5 → A6 → A7 → A8 → A9 → A10 → A11 → A12 → Prop, (∀ a1 a2 a3 a4 a5 a6 a7 a8 a9 a10 a11 a12, J a1 a2 a3 a4 a5 a6 a7 a8 a9 a10 a11 a12 → P a1 a2 a3 a4 a5 a6 a7 a8 a9 a10 a11 a12) → f J → Z) : Z := hg k hr hw
theorem wj12_in {A1 A2 A3 A4 A5 A6 A7 A8 A9 A10 A11 A12 : Type} {f : (A1 → A2 → A3 → A4 → A5 → A6 → A7 → A8 → A9 → A10 → A11 → A12 → Prop) → Prop} {k : A1 → A2 → A3 → A4 → A5 → A6 → A7 → A8 → A9 → A10 → A11 → A12 → Prop} (P : A1 → A2 → A3 → A4 → A5 → A6 → A7 → A8 → A9 → A10 → A11 → A12 → Prop) (hr : ∀ a1 a2 a3 a4 a5 a6 a7 a8 a9 a10 a11 a12, P a1 a2 a3 a4 a5 a6 a7 a8 a9 a10 a11 a12 → k a1 a2 a3 a4 a5 a6 a7 a8 a9 a10 a11 a12) (hg : ∀ J : A1 → A2 → A3 → A4 → A5 → A6 → A7 → A8 → A9 → A10 → A11 → A12 → Prop, (∀ a1 a2 a3 a4 a5 a6 a7 a8 a9 a10 a11 a12, P a1 a2 a3 a4 a5 a6 a7 a8 a9 a10 a11 a12 → J a1 a2 a3 a4 a5 a6 a7 a8 a9 a10 a11 a12) → f J) : wj12 f k := hg k hr
def wL13 {A1 A2 A3 A4 A5 A6 A7 A8 A9 A10 A11 A12 A13 : Type} (B : (A1 → A2 → A3 → A4 → A5 → A6 → A7 → A8 → A9 → A10 → A11 → A12 → A13 → Prop) → A1 → A2 → A3 → A4 → A5 → A6 → A7 → A8 → A9 → A10 → A11 → A12 → A13 → Prop) : Nat → A1 → A2 → A3 → A4 → A5 → A6 → A7 → A8 → A9 → A10 → A11 → A12 → A13 → Prop
  | 0, _, _, _, _, _, _, _, _, _, _, _, _, _ => False
  | n + 1, a1, a2, a3, a4, a5, a6, a7, a8, a9, a10, a11, a12, a13 => B (wL13 B n) a1 a2 a3 a4 a5 a6 a7 a8 a9 a10 a11 a12 a13
theorem wL13_go {A1 A2 A3 A4 A5 A6 A7 A8 A9 A10 A11 A12 A13 : Type} {B : (A1 → A2 → A3 → A4 → A5 → A6 → A7 → A8 → A9 → A10 → A11 → A12 → A13 → Prop) → A1 → A2 → A3 → A4 → A5 → A6 → A7 → A8 → A9 → A10 → A11 → A12 → A13 → Prop} {P : A1 → A2 → A3 → A4 → A5 → A6 → A7 → A8 → A9 → A10 → A11 → A12 → A13 → Prop} (h : ∀ K : A1 → A2 → A3 → A4 → A5 → A6 → A7 → A8 → A9 → A10 → A11 → A12 → A13 → Prop, (∀ a1 a2 a3 a4 a5 a6 a7 a8 a9 a10 a11 a12 a13, K a1 a2 a3 a4 a5 a6 a7 a8 a9 a10 a11 a12 a13 → P a1 a2 a3 a4 a5 a6 a7 a8 a9 a10 a11 a12 a13) → ∀ a1 a2 a3 a4 a5 a6 a7 a8 a9 a10 a11 a12 a13, B K a1 a2 a3 a4 a5 a6 a7 a8 a9 a10 a11 a12 a13 → P a1 a2 a3 a4 a5 a6 a7 a8 a9 a10 a11 a12 a13) : ∀ n a1 a2 a3 a4 a5 a6 a7 a8 a9 a10 a11 a12 a13, wL13 B n a1 a2 a3 a4 a5 a6 a7 a8 a9 a10 a11 a12 a13 → P a1 a2 a3 a4 a5 a6 a7 a8 a9 a10 a11 a12 a13
  | 0, _, _, _, _, _, _, _, _, _, _, _, _, _, hw => hw.elim
  | n + 1, a1, a2, a3, a4, a5, a6, a7, a8, a9, a10, a11, a12, a13, hw => h (wL13 B n) (wL13_go h n) a1 a2 a3 a4 a5 a6 a7 a8 a9 a10 a11 a12 a13 hw
theorem wL13_in {A1 A2 A3 A4 A5 A6 A7 A8 A9 A10 A11 A12 A13 : Type} {B : (A1 → A2 → A3 → A4 → A5 → A6 → A7 → A8 → A9 → A10 → A11 → A12 → A13 → Prop) → A1 → A2 → A3 → A4 → A5 → A6 → A7 → A8 → A9 → A10 → A11 → A12 → A13 → Prop} (I : A1 → A2 → A3 → A4 → A5 → A6 → A7 → A8 → A9 → A10 → A11 → A12 → A13 → Prop) (μ : A1 → A2 → A3 → A4 → A5 → A6 → A7 → A8 → A9 → A10 → A11 → A12 → A13 → Nat) (hs : ∀ (K : A1 → A2 → A3 → A4 → A5 → A6 → A7 → A8 → A9 → A10 → A11 → A12 → A13 → Prop) a1 a2 a3 a4 a5 a6 a7 a8 a9 a10 a11 a12 a13, I a1 a2 a3 a4 a5 a6 a7 a8 a9 a10 a11 a12 a13 → (∀ b1 b2 b3 b4 b5 b6 b7 b8 b9 b10 b11 b12 b13, I b1 b2 b3 b4 b5 b6 b7 b8 b9 b10 b11 b12 b13 → μ b1 b2 b3 b4 b5 b6 b7 b8 b9 b10 b11 b12 b13 < μ a1 a2 a3 a4 a5 a6 a7 a8 a9 a10 a11 a12 a13 → K b1 b2 b3 b4 b5 b6 b7 b8 b9 b10 b11 b12 b13) → B K a1 a2 a3 a4 a5 a6 a7 a8 a9 a10 a11 a12 a13) : ∀ a1 a2 a3 a4 a5 a6 a7 a8 a9 a10 a11 a12 a13, I a1 a2 a3 a4 a5 a6 a7 a8 a9 a10 a11 a12 a13 → ∃ n, wL13 B n a1 a2 a3 a4 a5 a6 a7 a8 a9 a10 a11 a12 a13 := by
  have key : ∀ n a1 a2 a3 a4 a5 a6 a7 a8 a9 a10 a11 a12 a13, I a1 a2 a3 a4 a5 a6 a7 a8 a9 a10 a11 a12 a13 → μ a1 a2 a3 a4 a5 a6 a7 a8 a9 a10 a11 a12 a13 < n → wL13 B n a1 a2 a3 a4 a5 a6 a7 a8 a9 a10 a11 a12 a13 := by
    intro n
    induction n with
    | zero => intro a1 a2 a3 a4 a5 a6 a7 a8 a9 a10 a11 a12 a13 _ h; exact absurd h (Nat.not_lt_zero _)
    | succ n ih => intro a1 a2 a3 a4 a5 a6 a7 a8 a9 a10 a11 a12 a13 hi hm; exact hs _ a1 a2 a3 a4 a5 a6 a7 a8 a9 a10 a11 a12 a13 hi (fun b1 b2 b3 b4 b5 b6 b7 b8 b9 b10 b11 b12 b13 hb hlt => ih b1 b2 b3 b4 b5 b6 b7 b8 b9 b10 b11 b12 b13 hb (by omega))
  intro a1 a2 a3 a4 a5 a6 a7 a8 a9 a10 a11 a12 a13 hi
  exact ⟨_, key _ a1 a2 a3 a4 a5 a6 a7 a8 a9 a10 a11 a12 a13 hi (Nat.lt_succ_self _)⟩
def wj13 {A1 A2 A3 A4 A5 A6 A7 A8 A9 A10 A11 A12 A13 : Type} (f : (A1 → A2 → A3 → A4 → A5 → A6 → A7 → A8 → A9 → A10 → A11 → A12 → A13 → Prop) → Prop) (k : A1 → A2 → A3 → A4 → A5 → A6 → A7 → A8 → A9 → A10 → A11 → A12 → A13 → Prop) : Prop := f k
theorem wj13_go {A1 A2 A3 A4 A5 A6 A7 A8 A9 A10 A11 A12 A13 : Type} {f : (A1 → A2 → A3 → A4 → A5 → A6 → A7 → A8 → A9 → A10 → A11 → A12 → A13 → Prop) → Prop} {k : A1 → A2 → A3 → A4 → A5 → A6 → A7 → A8 → A9 → A10 → A11 → A12 → A13 → Prop} {P : A1 → A2 → A3 → A4 → A5 → A6 → A7 → A8 → A9 → A10 → A11 → A12 → A13 → Prop} {Z : Prop} (hw : wj13 f k) (hr : ∀ a1 a2 a3 a4 a5 a6 a7 a8 a9 a10 a11 a12 a13, k a1 a2 a3 a4 a5 a6 a7 a8 a9 a10 a11 a12 a13 → P a1 a2 a3 a4 a5 a6 a7 a8 a9 a10 a11 a12 a13) (hg : ∀ J : A1 → A2 → A3 → A4 → A5 → A6 → A7 → A8 → A9 → A10 → A11 → A12 → A13 → Prop, (∀ a1 a2 a3 a4 a5 a6 a7 a8 a9 a10 a11 a12 a13, J a1 a2 a3 a4 a5 a6 a7 a8 a9 a10 a11 a12 a13 → P a1 a2 a3 a4 a5 a6 a7 a8 a9 a10 a11 a12 a13) → f J → Z) : Z := hg k hr hw
theorem wj13_in {A1 A2 A3 A4 A5 A6 A7 A8 A9 A10 A11 A12 A13 : Type} {f : (A1 → A2 → A3 → A4 → A5 → A6 → A7 → A8 → A9 → A10 → A11 → A12 → A13 → Prop) → Prop} {k : A1 → A2 → A3 → A4 → A5 → A6 → A7 → A8 → A9 → A10 → A11 → A12 → A13 → Prop} (P : A1 → A2 → A3 → A4 → A5 → A6 → A7 → A8 → A9 → A10 → A11 → A12 → A13 → Prop) (hr : ∀ a1 a2 a3 a4 a5 a6 a7 a8 a9 a10 a11 a12 a13, P a1 a2 a3 a4 a5 a6 a7 a8 a9 a10 a11 a12 a13 → k a1 a2 a3 a4 a5 a6 a7 a8 a9 a10 a11 a12 a13) (hg : ∀ J : A1 → A2 → A3 → A4 → A5 → A6 → A7 → A8 → A9 → A10 → A11 → A12 → A13 → Prop, (∀ a1 a2 a3 a4 a5 a6 a7 a8 a9 a10 a11 a12 a13, P a1 a2 a3 a4 a5 a6 a7 a8 a9 a10 a11 a12 a13 → J a1 a2 a3 a4 a5 a6 a7 a8 a9 a10 a11 a12 a13) → f J) : wj13 f k := hg k hr
def wL14 {A1 A2 A3 A4 A5 A6 A7 A8 A9 A10 A11 A12 A13 A14 : Type} (B : (A1 → A2 → A3 → A4 → A5 → A6 → A7 → A8 → A9 → A10 → A11 → A12 → A13 → A14 → Prop) → A1 → A2 → A3 → A4 → A5 → A6 → A7 → A8 → A9 → A10 → A11 → A12 → A13 → A14 → Prop) : Nat → A1 → A2 → A3 → A4 → A5 → A6 → A7 → A8 → A9 → A10 → A11 → A12 → A13 → A14 → Prop
  | 0, _, _, _, _, _, _, _, _, _, _, _, _, _, _ => False
  | n + 1, a1, a2, a3, a4, a5, a6, a7, a8, a9, a10, a11, a12, a13, a14 => B (wL14 B n) a1 a2 a3 a4 a5 a6 a7 a8 a9 a10 a11 a12 a13 a14
theorem wL14_go {A1 A2 A3 A4 A5 A6 A7 A8 A9 A10 A11 A12 A13 A14 : Type} {B : (A1 → A2 → A3 → A4 → A5 → A6 → A7 → A8 → A9 → A10 → A11 → A12 → A13 → A14 → Prop) → A1 → A2 → A3 → A4 → A5 → A6 → A7 → A8 → A9 → A10 → A11 → A12 → A13 → A14 → Prop} {P : A1 → A2 → A3 → A4 → A5 → A6 → A7 → A8 → A9 → A10 → A11 → A12 → A13 → A14 → Prop} (h : ∀ K : A1 → A2 → A3 → A4 → A5 → A6 → A7 → A8 → A9 → A10 → A11 → A12 → A13 → A14 → Prop, (∀ a1 a2 a3 a4 a5 a6 a7 a8 a9 a10 a11 a12 a13 a14, K a1 a2 a3 a4 a5 a6 a7 a8 a9 a10 a11 a12 a13 a14 → P a1 a2 a3 a4 a5 a6 a7 a8 a9 a10 a11 a12 a13 a14) → ∀ a1 a2 a3 a4 a5 a6 a7 a8 a9 a10 a11 a12 a13 a14, B K a1 a2 a3 a4 a5 a6 a7 a8 a9 a10 a11 a12 a13 a14 → P a1 a2 a3 a4 a5 a6 a7 a8 a9 a10 a11 a12 a13 a14) : ∀ n a1 a2 a3 a4 a5 a6 a7 a8 a9 a10 a11 a12 a13 a14, wL14 B n a1 a2 a3 a4 a5 a6 a7 a8 a9 a10 a11 a12 a13 a14 → P a1 a2 a3 a4 a5 a6 a7 a8 a9 a10 a11 a12 a13 a14
  | 0, _, _, _, _, _, _, _, _, _, _, _, _, _, _, hw => hw.elim
  | n + 1, a1, a2, a3, a4, a5, a6, a7, a8, a9, a10, a11, a12, a13, a14, hw => h (wL14 B n) (wL14_go h n) a1 a2 a3 a4 a5 a6 a7 a8 a9 a10 a11 a12 a13 a14 hw
theorem wL14_in {A1 A2 A3 A4 A5 A6 A7 A8 A9 A10 A11 A12 A13 A14 : Type} {B : (A1 → A2 → A3 → A4 → A5 → A6 → A7 → A8 → A9 → A10 → A11 → A12 → A13 → A14 → Prop) → A1 → A2 → A3 → A4 → A5 → A6 → A7 → A8 → A9 → A10 → A11 → A12 → A13 → A14 → Prop} (I : A1 → A2 → A3 → A4 → A5 → A6 → A7 → A8 → A9 → A10 → A11 → A12 → A13 → A14 → Prop) (μ : A1 → A2 → A3 → A4 → A5 → A6 → A7 → A8 → A9 → A10 → A11 → A12 → A13 → A14 → Nat) (hs : ∀ (K : A1 → A2 → A3 → A4 → A5 → A6 → A7 → A8 → A9 → A10 → A11 → A12 → A13 → A14 → Prop) a1 a2 a3 a4 a5 a6 a7 a8 a9 a10 a11 a12 a13 a14, I a1 a2 a3 a4 a5 a6 a7 a8 a9 a10 a11 a12 a13 a14 → (∀ b1 b2 b3 b4 b5 b6 b7 b8 b9 b10 b11 b12 b13 b14, I b1 b2 b3 b4 b5 b6 b7 b8 b9 b10 b11 b12 b13 b14 → μ b1 b2 b3 b4 b5 b6 b7 b8 b9 b10 b11 b12 b13 b14 < μ a1 a2 a3 a4 a5 a6 a7 a8 a9 a10 a11 a12 a13 a14 → K b1 b2 b3 b4 b5 b6 b7 b8 b9 b10 b11 b12 b13 b14) → B K a1 a2 a3 a4 a5 a6 a7 a8 a9 a10 a11 a12 a13 a14) : ∀ a1 a2 a3 a4 a5 a6 a7 a8 a9 a10 a11 a12 a13 a14, I a1 a2 a3 a4 a5 a6 a7 a8 a9 a10 a11 a12 a13 a14 → ∃ n, wL14 B n a1 a2 a3 a4 a5 a6 a7 a8 a9 a10 a11 a12 a13 a14 := by
  have key : ∀ n a1 a2 a3 a4 a5 a6 a7 a8 a9 a10 a11 a12 a13 a14, I a1 a2 a3 a4 a5 a6 a7 a8 a9 a10 a11 a12 a13 a14 → μ a1 a2 a3 a4 a5 a6 a7 a8 a9 a10 a11 a12 a13 a14 < n → wL14 B n a1 a2 a3 a4 a5 a6 a7 a8 a9 a10 a11 a12 a13 a14 := by
    intro n
    induction n with
    | zero => intro a1 a2 a3 a4 a5 a6 a7 a8 a9 a10 a11 a12 a13 a14 _ h; exact absurd h (Nat.not_lt_zero _)
    | succ n ih => intro a1 a2 a3 a4 a5 a6 a7 a8 a9 a10 a11 a12 a13 a14 hi hm; exact hs _ a1 a2 a3 a4 a5 a6 a7 a8 a9 a10 a11 a12 a13 a14 hi (fun b1 b2 b3 b4 b5 b6 b7 b8 b9 b10 b11 b12 b13 b14 hb hlt => ih b1 b2 b3 b4 b5 b6 b7 b8 b9 b10 b11 b12 b13 b14 hb (by omega))
  intro a1 a2 a3 a4 a5 a6 a7 a8 a9 a10 a11 a12 a13 a14 hi
  exact ⟨_, key _ a1 a2 a3 a4 a5 a6 a7 a8 a9 a10 a11 a12 a13 a14 hi (Nat.lt_succ_self _)⟩
def wj14 {A1 A2 A3 A4 A5 A6 A7 A8 A9 A10 A11 A12 A13 A14 : Type} (f : (A1 → A2 → A3 → A4 → A5 → A6 → A7 → A8 → A9 → A10 → A11 → A12 → A13 → A14 → Prop) → Prop) (k : A1 → A2 → A3 → A4 → A5 → A6 → A7 → A8 → A9 → A10 → A11 → A12 → A13 → A14 → Prop) : Prop := f k
theorem wj14_go {A1 A2 A3 A4 A5 A6 A7 A8 A9 A10 A11 A12 A13 A14 : Type} {f : (A1 → A2 → A3 → A4 → A5 → A6 → A7 → A8 → A9 → A10 → A11 → A12 → A13 → A14 → Prop) → Prop} {k : A1 → A2 → A3 → A4 → A5 → A6 → A7 → A8 → A9 → A10 → A11 → A12 → A13 → A14 → Prop} {P : A1 → A2 → A3 → A4 → A5 → A6 → A7 → A8 → A9 → A10 → A11 → A12 → A13 → A14 → Prop} {Z : Prop} (hw : wj14 f k) (hr : ∀ a1 a2 a3 a4 a5 a6 a7 a8 a9 a10 a11 a12 a13 a14, k a1 a2 a3 a4 a5 a6 a7 a8 a9 a10 a11 a12 a13 a14 → P a1 a2 a3 a4 a5 a6 a7 a8 a9 a10 a11 a12 a13 a14) (hg : ∀ J : A1 → A2 → A3 → A4 → A5 → A6 → A7 → A8 → A9 → A10 → A11 → A12 → A13 → A14 → Prop, (∀ a1 a2 a3 a4 a5 a6 a7 a8 a9 a10 a11 a12 a13 a14, J a1 a2 a3 a4 a5 a6 a7 a8 a9 a10 a11 a12 a13 a14 → P a1 a2 a3 a4 a5 a6 a7 a8 a9 a10 a11 a12 a13 a14) → f J → Z) : Z := hg k hr hw
theorem wj14_in {A1 A2 A3 A4 A5 A6 A7 A8 A9 A10 A11 A12 A13 A14 : Type} {f : (A1 → A2 → A3 → A4 → A5 → A6 → A7 → A8 → A9 → A10 → A11 → A12 → A13 → A14 → Prop) → Prop} {k : A1 → A2 → A3 → A4 → A5 → A6 → A7 → A8 → A9 → A10 → A11 → A12 → A13 → A14 → Prop} (P : A1 → A2 → A3 → A4 → A5 → A6 → A7 → A8 → A9 → A10 → A11 → A12 → A13 → A14 → Prop) (hr : ∀ a1 a2 a3 a4 a5 a6 a7 a8 a9 a10 a11 a12 a13 a14, P a1 a2 a3 a4 a5 a6 a7 a8 a9 a10 a11 a12 a13 a14 → k a1 a2 a3 a4 a5 a6 a7 a8 a9 a10 a11 a12 a13 a14) (hg : ∀ J : A1 → A2 → A3 → A4 → A5 → A6 → A7 → A8 → A9 → A10 → A11 → A12 → A13 → A14 → Prop, (∀ a1 a2 a3 a4 a5 a6 a7 a8 a9 a10 a11 a12 a13 a14, P a1 a2 a3 a4 a5 a6 a7 a8 a9 a10 a11 a12 a13 a14 → J a1 a2 a3 a4 a5 a6 a7 a8 a9 a10 a11 a12 a13 a14) → f J) : wj14 f k := hg k hr
def wL15 {A1 A2 A3 A4 A5 A6 A7 A8 A9 A10 A11 A12 A13 A14 A15 : Type} (B : (A1 → A2 → A3 → A4 → A5 → A6 → A7 → A8 → A9 → A10 → A11 → A12 → A13 → A14 → A15 → Prop) → A1 → A2 → A3 → A4 → A5 → A6 → A7 → A8 → A9 → A10 → A11 → A12 → A13 → A14 → A15 → Prop) : Nat → A1 → A2 → A3 → A4 → A5 → A6 → A7 → A8 → A9 → A10 → A11 → A12 → A13 → A14 → A15 → Prop
  | 0, _, _, _, _, _, _, _, _, _, _, _, _, _, _, _ => False
  | n + 1, a1, a2, a3, a4, a5, a6, a7, a8, a9, a10, a11, a12, a13, a14, a15 => B (wL15 B n) a1 a2 a3 a4 a5 a6 a7 a8 a9 a10 a11 a12 a13 a14 a15
theorem wL15_go {A1 A2 A3 A4 A5 A6 A7 A8 A9 A10 A11 A12 A13 A14 A15 : Type} {B : (A1 → A2 → A3 → A4 → A5 → A6 → A7 → A8 → A9 → A10 → A11 → A12 → A13 → A14 → A15 → Prop) → A1 → A2 → A3 → A4 → A5 → A6 → A7 → A8 → A9 → A10 → A11 → A12 → A13 → A14 → A15 → Prop} {P : A1 → A2 → A3 → A4 → A5 → A6 → A7 → A8 → A9 → A10 → A11 → A12 → A13 → A14 → A15 → Prop} (h : ∀ K : A1 → A2 → A3 → A4 → A5 → A6 → A7 → A8 → A9 → A10 → A11 → A12 → A13 → A14 → A15 → Prop, (∀ a1 a2 a3 a4 a5 a6 a7 a8 a9 a10 a11 a12 a13 a14 a15, K a1 a2 a3 a4 a5 a6 a7 a8 a9 a10 a11 a12 a13 a14 a15 → P a1 a2 a3 a4 a5 a6 a7 a8 a9 a10 a11 a12 a13 a14 a15) → ∀ a1 a2 a3 a4 a5 a6 a7 a8 a9 a10 a11 a12 a13 a14 a15, B K a1 a2 a3 a4 a5 a6 a7 a8 a9 a10 a11 a12 a13 a14 a15 → P a1 a2 a3 a4 a5 a6 a7 a8 a9 a10 a11 a12 a13 a14 a15) : ∀ n a1 a2 a3 a4 a5 a6 a7 a8 a9 a10 a11 a12 a13 a14 a15, wL15 B n a1 a2 a3 a4 a5 a6 a7 a8 a9 a10 a11 a12 a13 a14 a15 → P a1 a2 a3 a4 a5 a6 a7 a8 a9 a10 a11 a12 a13 a14 a15
  | 0, _, _, _, _, _, _, _, _, _, _, _, _, _, _, _, hw => hw.elim
  | n + 1, a1, a2, a3, a4, a5, a6, a7, a8, a9, a10, a11, a12, a13, a14, a15, hw => h (wL15 B n) (wL15_go h n) a1 a2 a3 a4 a5 a6 a7 a8 a9 a10 a11 a12 a13 a14 a15 hw
theorem wL15_in {A1 A2 A3 A4 A5 A6 A7 A8 A9 A10 A11 A12 A13 A14 A15 : Type} {B : (A1 → A2 → A3 → A4 → A5 → A6 → A7 → A8 → A9 → A10 → A11 → A12 → A13 → A14 → A15 → Prop) → A1 → A2 → A3 → A4 → A5 → A6 → A7 → A8 → A9 → A10 → A11 → A12 → A13 → A14 → A15 → Prop} (I : A1 → A2 → A3 → A4 → A5 → A6 → A7 → A8 → A9 → A10 → A11 → A12 → A13 → A14 → A15 → Prop) (μ : A1 → A2 → A3 → A4 → A5 → A6 → A7 → A8 → A9 → A10 → A11 → A12 → A13 → A14 → A15 → Nat) (hs : ∀ (K : A1 → A2 → A3 → A4 → A5 → A6 → A7 → A8 → A9 → A10 → A11 → A12 → A13 → A14 → A15 → Prop) a1 a2 a3 a4 a5 a6 a7 a8 a9 a10 a11 a12 a13 a14 a15, I a1 a2 a3 a4 a5 a6 a7 a8 a9 a10 a11 a12 a13 a14 a15 → (∀ b1 b2 b3 b4 b5 b6 b7 b8 b9 b10 b11 b12 b13 b14 b15, I b1 b2 b3 b4 b5 b6 b7 b8 b9 b10 b11 b12 b13 b14 b15 → μ b1 b2 b3 b4 b5 b6 b7 b8 b9 b10 b11 b12 b13 b14 b15 < μ a1 a2 a3 a4 a5 a6 a7 a8 a9 a10 a11 a12 a13 a14 a15 → K b1 b2 b3 b4 b5 b6 b7 b8 b9 b10 b11 b12 b13 b14 b15) → B K a1 a2 a3 a4 a5 a6 a7 a8 a9 a10 a11 a12 a13 a14 a15) : ∀ a1 a2 a3 a4 a5 a6 a7 a8 a9 a10 a11 a12 a13 a14 a15, I a1 a2 a3 a4 a5 a6 a7 a8 a9 a10 a11 a12 a13 a14 a15 → ∃ n, wL15 B n a1 a2 a3 a4 a5 a6 a7 a8 a9 a10 a11 a12 a13 a14 a15 := by
  have key : ∀ n a1 a2 a3 a4 a5 a6 a7 a8 a9 a10 a11 a12 a13 a14 a15, I a1 a2 a3 a4 a5 a6 a7 a8 a9 a10 a11 a12 a13 a14 a15 → μ a1 a2 a3 a4 a5 a6 a7 a8 a9 a10 a11 a12 a13 a14 a15 < n → wL15 B n a1 a2 a3 a4 a5 a6 a7 a8 a9 a10 a11 a12 a13 a14 a15 := by
    intro n
    induction n with
    | zero => intro a1 a2 a3 a4 a5 a6 a7 a8 a9 a10 a11 a12 a13 a14 a15 _ h; exact absurd h (Nat.not_lt_zero _)
    | succ n ih => intro a1 a2 a3 a4 a5 a6 a7 a8 a9 a10 a11 a12 a13 a14 a15 hi hm; exact hs _ a1 a2 a3 a4 a5 a6 a7 a8 a9 a10 a11 a12 a13 a14 a15 hi (fun b1 b2 b3 b4 b5 b6 b7 b8 b9 b10 b11 b12 b13 b14 b15 hb hlt => ih b1 b2 b3 b4 b5 b6 b7 b8 b9 b10 b11 b12 b13 b14 b15 hb (by omega))
  intro a1 a2 a3 a4 a5 a6 a7 a8 a9 a10 a11 a12 a13 a14 a15 hi
  exact ⟨_, key _ a1 a2 a3 a4 a5 a6 a7 a8 a9 a10 a11 a12 a13 a14 a15 hi (Nat.lt_succ_self _)⟩
def wj15 {A1 A2 A3 A4 A5 A6 A7 A8 A9 A10 A11 A12 A13 A14 A15 : Type} (f : (A1 → A2 → A3 → A4 → A5 → A6 → A7 → A8 → A9 → A10 → A11 → A12 → A13 → A14 → A15 → Prop) → Prop) (k : A1 → A2 → A3 → A4 → A5 → A6 → A7 → A8 → A9 → A10 → A11 → A12 → A13 → A14 → A15 → Prop) : Prop := f k
theorem wj15_go {A1 A2 A3 A4 A5 A6 A7 A8 A9 A10 A11 A12 A13 A14 A15 : Type} {f : (A1 → A2 → A3 → A4 → A5 → A6 → A7 → A8 → A9 → A10 → A11 → A12 → A13 → A14 → A15 → Prop) → Prop} {k : A1 → A2 → A3 → A4 → A5 → A6 → A7 → A8 → A9 → A10 → A11 → A12 → A13 → A14 → A15 → Prop} {P : A1 → A2 → A3 → A4 → A5 → A6 → A7 → A8 → A9 → A10 → A11 → A12 → A13 → A14 → A15 → Prop} {Z : Prop} (hw : wj15 f k) (hr : ∀ a1 a2 a3 a4 a5 a6 a7 a8 a9 a10 a11 a12 a13 a14 a15, k a1 a2 a3 a4 a5 a6 a7 a8 a9 a10 a11 a12 a13 a14 a15 → P a1 a2 a3 a4 a5 a6 a7 a8 a9 a10 a11 a12 a13 a14 a15) (hg : ∀ J : A1 → A2 → A3 → A4 → A5 → A6 → A7 → A8 → A9 → A10 → A11 → A12 → A13 → A14 → A15 → Prop, (∀ a1 a2 a3 a4 a5 a6 a7 a8 a9 a10 a11 a12 a13 a14 a15, J a1 a2 a3 a4 a5 a6 a7 a8 a9 a10 a11 a12 a13 a14 a15 → P a1 a2 a3 a4 a5 a6 a7 a8 a9 a10 a11 a12 a13 a14 a15) → f J → Z) : Z := hg k hr hw
theorem wj15_in {A1 A2 A3 A4 A5 A6 A7 A8 A9 A10 A11 A12 A13 A14 A15 : Type} {f : (A1 → A2 → A3 → A4 → A5 → A6 → A7 → A8 → A9 → A10 → A11 → A12 → A13 → A14 → A15 → Prop) → Prop} {k : A1 → A2 → A3 → A4 → A5 → A6 → A7 → A8 → A9 → A10 → A11 → A12 → A13 → A14 → A15 → Prop} (P : A1 → A2 → A3 → A4 → A5 → A6 → A7 → A8 → A9 → A10 → A11 → A12 → A13 → A14 → A15 → Prop) (hr : ∀ a1 a2 a3 a4 a5 a6 a7 a8 a9 a10 a11 a12 a13 a14 a15, P a1 a2 a3 a4 a5 a6 a7 a8 a9 a10 a11 a12 a13 a14 a15 → k a1 a2 a3 a4 a5 a6 a7 a8 a9 a10 a11 a12 a13 a14 a15) (hg : ∀ J : A1 → A2 → A3 → A4 → A5 → A6 → A7 → A8 → A9 → A10 → A11 → A12 → A13 → A14 → A15 → Prop, (∀ a1 a2 a3 a4 a5 a6 a7 a8 a9 a10 a11 a12 a13 a14 a15, P a1 a2 a3 a4 a5 a6 a7 a8 a9 a10 a11 a12 a13 a14 a15 → J a1 a2 a3 a4 a5 a6 a7 a8 a9 a10 a11 a12 a13 a14 a15) → f J) : wj15 f k := hg k hr
def wL16 {A1 A2 A3 A4 A5 A6 A7 A8 A9 A10 A11 A12 A13 A14 A15 A16 : Type} (B : (A1 → A2 → A3 → A4 → A5 → A6 → A7 → A8 → A9 → A10 → A11 → A12 → A13 → A14 → A15 → A16 → Prop) → A1 → A2 → A3 → A4 → A5 → A6 → A7 → A8 → A9 → A10 → A11 → A12 → A13 → A14 → A15 → A16 → Prop) : Nat → A1 → A2 → A3 → A4 → A5 → A6 → A7 → A8 → A9 → A10 → A11 → A12 → A13 → A14 → A15 → A16 → Prop
  | 0, _, _, _, _, _, _, _, _, _, _, _, _, _, _, _, _ => False
  | n + 1, a1, a2, a3, a4, a5, a6, a7, a8, a9, a10, a11, a12, a13, a14, a15, a16 => B (wL16 B n) a1 a2 a3 a4 a5 a6 a7 a8 a9 a10 a11 a12 a13 a14 a15 a16
theorem wL16_go {A1 A2 A3 A4 A5 A6 A7 A8 A9 A10 A11 A12 A13 A14 A15 A16 : Type} {B : (A1 → A2 → A3 → A4 → A5 → A6 → A7 → A8 → A9 → A10 → A11 → A12 → A13 → A14 → A15 → A16 → Prop) → A1 → A2 → A3 → A4 → A5 → A6 → A7 → A8 → A9 → A10 → A11 → A12 → A13 → A14 → A15 → A16 → Prop} {P : A1 → A2 → A3 → A4 → A5 → A6 → A7 → A8 → A9 → A10 → A11 → A12 → A13 → A14 → A15 → A16 → Prop} (h : ∀ K : A1 → A2 → A3 → A4 → A5 → A6 → A7 → A8 → A9 → A10 → A11 → A12 → A13 → A14 → A15 → A16 → Prop, (∀ a1 a2 a3 a4 a5 a6 a7 a8 a9 a10 a11 a12 a13 a14 a15 a16, K a1 a2 a3 a4 a5 a6 a7 a8 a9 a10 a11 a12 a13 a14 a15 a16 → P a1 a2 a3 a4 a5 a6 a7 a8 a9 a10 a11 a12 a13 a14 a15 a16) → ∀ a1 a2 a3 a4 a5 a6 a7 a8 a9 a10 a11 a12 a13 a14 a15 a16, B K a1 a2 a3 a4 a5 a6 a7 a8 a9 a10 a11 a12 a13 a14 a15 a16 → P a1 a2 a3 a4 a5 a6 a7 a8 a9 a10 a11 a12 a13 a14 a15 a16) : ∀ n a1 a2 a3 a4 a5 a6 a7 a8 a9 a10 a11 a12 a13 a14 a15 a16, wL16 B n a1 a2 a3 a4 a5 a6 a7 a8 a9 a10 a11 a12 a13 a14 a15 a16 → P a1 a2 a3 a4 a5 a6 a7 a8 a9 a10 a11 a12 a13 a14 a15 a16
  | 0, _, _, _, _, _, _, _, _, _, _, _, _, _, _, _, _, hw => hw.elim
  | n + 1, a1, a2, a3, a4, a5, a6, a7, a8, a9, a10, a11, a12, a13, a14, a15, a16, hw => h (wL16 B n) (wL16_go h n) a1 a2 a3 a4 a5 a6 a7 a8 a9 a10 a11 a12 a13 a14 a15 a16 hw
theorem wL16_in {A1 A2 A3 A4 A5 A6 A7 A8 A9 A10 A11 A12 A13 A14 A15 A16 : Type} {B : (A1 → A2 → A3 → A4 → A5 → A6 → A7 → A8 → A9 → A10 → A11 → A12 → A13 → A14 → A15 → A16 → Prop) → A1 → A2 → A3 → A4 → A5 → A6 → A7 → A8 → A9 → A10 → A11 → A12 → A13 → A14 → A15 → A16 → Prop} (I : A1 → A2 → A3 → A4 → A5 → A6 → A7 → A8 → A9 → A10 → A11 → A12 → A13 → A14 → A15 → A16 → Prop) (μ : A1 → A2 → A3 → A4 → A5 → A6 → A7 → A8 → A9 → A10 → A11 → A12 → A13 → A14 → A15 → A16 → Nat) (hs : ∀ (K : A1 → A2 → A3 → A4 → A5 → A6 → A7 → A8 → A9 → A10 → A11 → A12 → A13 → A14 → A15 → A16 → Prop) a1 a2 a3 a4 a5 a6 a7 a8 a9 a10 a11 a12 a13 a14 a15 a16, I a1 a2 a3 a4 a5 a6 a7 a8 a9 a10 a11 a12 a13 a14 a15 a16 → (∀ b1 b2 b3 b4 b5 b6 b7 b8 b9 b10 b11 b12 b13 b14 b15 b16, I b1 b2 b3 b4 b5 b6 b7 b8 b9 b10 b11 b12 b13 b14 b15 b16 → μ b1 b2 b3 b4 b5 b6 b7 b8 b9 b10 b11 b12 b13 b14 b15 b16 < μ a1 a2 a3 a4 a5 a6 a7 a8 a9 a10 a11 a12 a13 a14 a15 a16 → K b1 b2 b3 b4 b5 b6 b7 b8 b9 b10 b11 b12 b13 b14 b15 b16) → B K a1 a2 a3 a4 a5 a6 a7 a8 a9 a10 a11 a12 a13 a14 a15 a16) : ∀ a1 a2 a3 a4 a5 a6 a7 a8 a9 a10 a11 a12 a13 a14 a15 a16, I a1 a2 a3 a4 a5 a6 a7 a8 a9 a10 a11 a12 a13 a14 a15 a16 → ∃ n, wL16 B n a1 a2 a3 a4 a5 a6 a7 a8 a9 a10 a11 a12 a13 a14 a15 a16 := by
  have key : ∀ n a1 a2 a3 a4 a5 a6 a7 a8 a9 a10 a11 a12 a13 a14 a15 a16, I a1 a2 a3 a4 a5 a6 a7 a8 a9 a10 a11 a12 a13 a14 a15 a16 → μ a1 a2 a3 a4 a5 a6 a7 a8 a9 a10 a11 a12 a13 a14 a15 a16 < n → wL16 B n a1 a2 a3 a4 a5 a6 a7 a8 a9 a10 a11 a12 a13 a14 a15 a16 := by
    intro n
    induction n with
    | zero => intro a1 a2 a3 a4 a5 a6 a7 a8 a9 a10 a11 a12 a13 a14 a15 a16 _ h; exact absurd h (Nat.not_lt_zero _)
    | succ n ih => intro a1 a2 a3 a4 a5 a6 a7 a8 a9 a10 a11 a12 a13 a14 a15 a16 hi hm; exact hs _ a1 a2 a3 a4 a5 a6 a7 a8 a9 a10 a11 a12 a13 a14 a15 a16 hi (fun b1 b2 b3 b4 b5 b6 b7 b8 b9 b10 b11 b12 b13 b14 b15 b16 hb hlt => ih b1 b2 b3 b4 b5 b6 b7 b8 b9 b10 b11 b12 b13 b14 b15 b16 hb (by omega))
  intro a1 a2 a3 a4 a5 a6 a7 a8 a9 a10 a11 a12 a13 a14 a15 a16 hi
  exact ⟨_, key _ a1 a2 a3 a4 a5 a6 a7 a8 a9 a10 a11 a12 a13 a14 a15 a16 hi (Nat.lt_succ_self _)⟩
def wj16 {A1 A2 A3 A4 A5 A6 A7 A8 A9 A10 A11 A12 A13 A14 A15 A16 : Type} (f : (A1 → A2 → A3 → A4 → A5 → A6 → A7 → A8 → A9 → A10 → A11 → A12 → A13 → A14 → A15 → A16 → Prop) → Prop) (k : A1 → A2 → A3 → A4 → A5 → A6 → A7 → A8 → A9 → A10 → A11 → A12 → A13 → A14 → A15 → A16 → Prop) : Prop := f k
theorem wj16_go {A1 A2 A3 A4 A5 A6 A7 A8 A9 A10 A11 A12 A13 A14 A15 A16 : Type} {f : (A1 → A2 → A3 → A4 → A5 → A6 → A7 → A8 → A9 → A10 → A11 → A12 → A13 → A14 → A15 → A16 → Prop) → Prop} {k : A1 → A2 → A3 → A4 → A5 → A6 → A7 → A8 → A9 → A10 → A11 → A12 → A13 → A14 → A15 → A16 → Prop} {P : A1 → A2 → A3 → A4 → A5 → A6 → A7 → A8 → A9 → A10 → A11 → A12 → A13 → A14 → A15 → A16 → Prop} {Z : Prop} (hw : wj16 f k) (hr : ∀ a1 a2 a3 a4 a5 a6 a7 a8 a9 a10 a11 a12 a13 a14 a15 a16, k a1 a2 a3 a4 a5 a6 a7 a8 a9 a10 a11 a12 a13 a14 a15 a16 → P a1 a2 a3 a4 a5 a6 a7 a8 a9 a10 a11 a12 a13 a14 a15 a16) (hg : ∀ J : A1 → A2 → A3 → A4 → A5 → A6 → A7 → A8 → A9 → A10 → A11 → A12 → A13 → A14 → A15 → A16 → Prop, (∀ a1 a2 a3 a4 a5 a6 a7 a8 a9 a10 a11 a12 a13 a14 a15 a16, J a1 a2 a3 a4 a5 a6 a7 a8 a9 a10 a11 a12 a13 a14 a15 a16 → P a1 a2 a3 a4 a5 a6 a7 a8 a9 a10 a11 a12 a13 a14 a15 a16) → f J → Z) : Z := hg k hr hw
theorem wj16_in {A1 A2 A3 A4 A5 A6 A7 A8 A9 A10 A11 A12 A13 A14 A15 A16 : Type} {f : (A1 → A2 → A3 → A4 → A5 → A6 → A7 → A8 → A9 → A10 → A11 → A12 → A13 → A14 → A15 → A16 → Prop) → Prop} {k : A1 → A2 → A3 → A4 → A5 → A6 → A7 → A8 → A9 → A10 → A11 → A12 → A13 → A14 → A15 → A16 → Prop} (P : A1 → A2 → A3 → A4 → A5 → A6 → A7 → A8 → A9 → A10 → A11 → A12 → A13 → A14 → A15 → A16 → Prop) (hr : ∀ a1 a2 a3 a4 a5 a6 a7 a8 a9 a10 a11 a12 a13 a14 a15 a16, P a1 a2 a3 a4 a5 a6 a7 a8 a9 a10 a11 a12 a13 a14 a15 a16 → k a1 a2 a3 a4 a5 a6 a7 a8 a9 a10 a11 a12 a13 a14 a15 a16) (hg : ∀ J : A1 → A2 → A3 → A4 → A5 → A6 → A7 → A8 → A9 → A10 → A11 → A12 → A13 → A14 → A15 → A16 → Prop, (∀ a1 a2 a3 a4 a5 a6 a7 a8 a9 a10 a11 a12 a13 a14 a15 a16, P a1 a2 a3 a4 a5 a6 a7 a8 a9 a10 a11 a12 a13 a14 a15 a16 → J a1 a2 a3 a4 a5 a6 a7 a8 a9 a10 a11 a12 a13 a14 a15 a16) → f J) : wj16 f k := hg k hr
def wL17 {A1 A2 A3 A4 A5 A6 A7 A8 A9 A10 A11 A12 A13 A14 A15 A16 A17 : Type} (B : (A1 → A2 → A3 → A4 → A5 → A6 → A7 → A8 → A9 → A10 → A11 → A12 → A13 → A14 → A15 → A16 → A17 → Prop) → A1 → A2 → A3 → A4 → A5 → A6 → A7 → A8 → A9 → A10 → A11 → A12 → A13 → A14 → A15 → A16 → A17 → Prop) : Nat → A1 → A2 → A3 → A4 → A5 → A6 → A7 → A8 → A9 → A10 → A11 → A12 → A13 → A14 → A15 → A16 → A17 → Prop
  | 0, _, _, _, _, _, _, _, _, _, _, _, _, _, _, _, _, _ => False
  | n + 1, a1, a2, a3, a4, a5, a6, a7, a8, a9, a10, a11, a12, a13, a14, a15, a16, a17 => B (wL17 B n) a1 a2 a3 a4 a5 a6 a7 a8 a9 a10 a11 a12 a13 a14 a15 a16 a17
theorem wL17_go {A1 A2 A3 A4 A5 A6 A7 A8 A9 A10 A11 A12 A13 A14 A15 A16 A17 : Type} {B : (A1 → A2 → A3 → A4 → A5 → A6 → A7 → A8 → A9 → A10 → A11 → A12 → A13 → A14 → A15 → A16 → A17 → Prop) → A1 → A2 → A3 → A4 → A5 → A6 → A7 → A8 → A9 → A10 → A11 → A12 → A13 → A14 → A15 → A16 → A17 → Prop} {P : A1 → A2 → A3 → A4 → A5 → A6 → A7 → A8 → A9 → A10 → A11 → A12 → A13 → A14 → A15 → A16 → A17 → Prop} (h : ∀ K : A1 → A2 → A3 → A4 → A5 → A6 → A7 → A8 → A9 → A10 → A11 → A12 → A13 → A14 → A15 → A16 → A17 → Prop, (∀ a1 a2 a3 a4 a5 a6 a7 a8 a9 a10 a11 a12 a13 a14 a15 a16 a17, K a1 a2 a3 a4 a5 a6 a7 a8 a9 a10 a11 a12 a13 a14 a15 a16 a17 → P a1 a2 a3 a4 a5 a6 a7 a8 a9 a10 a11 a12 a13 a14 a15 a16 a17) → ∀ a1 a2 a3 a4 a5 a6 a7 a8 a9 a10 a11 a12 a13 a14 a15 a16 a17, B K a1 a2 a3 a4 a5 a6 a7 a8 a9 a10 a11 a12 a13 a14 a15 a16 a17 → P a1 a2 a3 a4 a5 a6 a7 a8 a9 a10 a11 a12 a13 a14 a15 a16 a17) : ∀ n a1 a2 a3 a4 a5 a6 a7 a8 a9 a10 a11 a12 a13 a14 a15 a16 a17, wL17 B n a1 a2 a3 a4 a5 a6 a7 a8 a9 a10 a11 a12 a13 a14 a15 a16 a17 → P a1 a2 a3 a4 a5 a6 a7 a8 a9 a10 a11 a12 a13 a14 a15 a16 a17
  | 0, _, _, _, _, _, _, _, _, _, _, _, _, _, _, _, _, _, hw => hw.elim
  | n + 1, a1, a2, a3, a4, a5, a6, a7, a8, a9, a10, a11, a12, a13, a14, a15, a16, a17, hw => h (wL17 B n) (wL17_go h n) a1 a2 a3 a4 a5 a6 a7 a8 a9 a10 a11 a12 a13 a14 a15 a16 a17 hw
theorem wL17_in {A1 A2 A3 A4 A5 A6 A7 A8 A9 A10 A11 A12 A13 A14 A15 A16 A17 : Type} {B : (A1 → A2 → A3 → A4 → A5 → A6 → A7 → A8 → A9 → A10 → A11 → A12 → A13 → A14 → A15 → A16 → A17 → Prop) → A1 → A2 → A3 → A4 → A5 → A6 → A7 → A8 → A9 → A10 → A11 → A12 → A13 → A14 → A15 → A16 → A17 → Prop} (I : A1 → A2 → A3 → A4 → A5 → A6 → A7 → A8 → A9 → A10 → A11 → A12 → A13 → A14 → A15 → A16 → A17 → Prop) (μ : A1 → A2 → A3 → A4 → A5 → A6 → A7 → A8 → A9 → A10 → A11 → A12 → A13 → A14 → A15 → A16 → A17 → Nat) (hs : ∀ (K : A1 → A2 → A3 → A4 → A5 → A6 → A7 → A8 → A9 → A10 → A11 → A12 → A13 → A14 → A15 → A16 → A17 → Prop) a1 a2 a3 a4 a5 a6 a7 a8 a9 a10 a11 a12 a13 a14 a15 a16 a17, I a1 a2 a3 a4 a5 a6 a7 a8 a9 a10 a11 a12 a13 a14 a15 a16 a17 → (∀ b1 b2 b3 b4 b5 b6 b7 b8 b9 b10 b11 b12 b13 b14 b15 b16 b17, I b1 b2 b3 b4 b5 b6 b7 b8 b9 b10 b11 b12 b13 b14 b15 b16 b17 → μ b1 b2 b3 b4 b5 b6 b7 b8 b9 b10 b11 b12 b13 b14 b15 b16 b17 < μ a1 a2 a3 a4 a5 a6 a7 a8 a9 a10 a11 a12 a13 a14 a15 a16 a17 → K b1 b2 b3 b4 b5 b6 b7 b8 b9 b10 b11 b12 b13 b14 b15 b16 b17) → B K a1 a2 a3 a4 a5 a6 a7 a8 a9 a10 a11 a12 a13 a14 a15 a16 a17) : ∀ a1 a2 a3 a4 a5 a6 a7 a8 a9 a10 a11 a12 a13 a14 a15 a16 a17, I a1 a2 a3 a4 a5 a6 a7 a8 a9 a10 a11 a12 a13 a14 a15 a16 a17 → ∃ n, wL17 B n a1 a2 a3 a4 a5 a6 a7 a8 a9 a10 a11 a12 a13 a14 a15 a16 a17 := by
  have key : ∀ n a1 a2 a3 a4 a5 a6 a7 a8 a9 a10 a11 a12 a13 a14 a15 a16 a17, I a1 a2 a3 a4 a5 a6 a7 a8 a9 a10 a11 a12 a13 a14 a15 a16 a17 → μ a1 a2 a3 a4 a5 a6 a7 a8 a9 a10 a11 a12 a13 a14 a15 a16 a17 < n → wL17 B n a1 a2 a3 a4 a5 a6 a7 a8 a9 a10 a11 a12 a13 a14 a15 a16 a17 := by
    intro n
    induction n with
    | zero => intro a1 a2 a3 a4 a5 a6 a7 a8 a9 a10 a11 a12 a13 a14 a15 a16 a17 _ h; exact absurd h (Nat.not_lt_zero _)
    | succ n ih => intro a1 a2 a3 a4 a5 a6 a7 a8 a9 a10 a11 a12 a13 a14 a15 a16 a17 hi hm; exact hs _ a1 a2 a3 a4 a5 a6 a7 a8 a9 a10 a11 a12 a13 a14 a15 a16 a17 hi (fun b1 b2 b3 b4 b5 b6 b7 b8 b9 b10 b11 b12 b13 b14 b15 b16 b17 hb hlt => ih b1 b2 b3 b4 b5 b6 b7 b8 b9 b10 b11 b12 b13 b14 b15 b16 b17 hb (by omega))
  intro a1 a2 a3 a4 a5 a6 a7 a8 a9 a10 a11 a12 a13 a14 a15 a16 a17 hi
  exact ⟨_, key _ a1 a2 a3 a4 a5 a6 a7 a8 a9 a10 a11 a12 a13 a14 a15 a16 a17 hi (Nat.lt_succ_self _)⟩
def wj17 {A1 A2 A3 A4 A5 A6 A7 A8 A9 A10 A11 A12 A13 A14 A15 A16 A17 : Type} (f : (A1 → A2 → A3 → A4 → A5 → A6 → A7 → A8 → A9 → A10 → A11 → A12 → A13 → A14 → A15 → A16 → A17 → Prop) → Prop) (k : A1 → A2 → A3 → A4 → A5 → A6 → A7 → A8 → A9 → A10 → A11 → A12 → A13 → A14 → A15 → A16 → A17 → Prop) : Prop := f k
theorem wj17_go {A1 A2 A3 A4 A5 A6 A7 A8 A9 A10 A11 A12 A13 A14 A15 A16 A17 : Type} {f : (A1 → A2 → A3 → A4 → A5 → A6 → A7 → A8 → A9 → A10 → A11 → A12 → A13 → A14 → A15 → A16 → A17 → Prop) → Prop} {k : A1 → A2 → A3 → A4 → A5 → A6 → A7 → A8 → A9 → A10 → A11 → A12 → A13 → A14 → A15 → A16 → A17 → Prop} {P : A1 → A2 → A3 → A4 → A5 → A6 → A7 → A8 → A9 → A10 → A11 → A12 → A13 → A14 → A15 → A16 → A17 → Prop} {Z : Prop} (hw : wj17 f k) (hr : ∀ a1 a2 a3 a4 a5 a6 a7 a8 a9 a10 a11 a12 a13 a14 a15 a16 a17, k a1 a2 a3 a4 a5 a6 a7 a8 a9 a10 a11 a12 a13 a14 a15 a16 a17 → P a1 a2 a3 a4 a5 a6 a7 a8 a9 a10 a11 a12 a13 a14 a15 a16 a17) (hg : ∀ J : A1 → A2 → A3 → A4 → A5 → A6 → A7 → A8 → A9 → A10 → A11 → A12 → A13 → A14 → A15 → A16 → A17 → Prop, (∀ a1 a2 a3 a4 a5 a6 a7 a8 a9 a10 a11 a12 a13 a14 a15 a16 a17, J a1 a2 a3 a4 a5 a6 a7 a8 a9 a10 a11 a12 a13 a14 a15 a16 a17 → P a1 a2 a3 a4 a5 a6 a7 a8 a9 a10 a11 a12 a13 a14 a15 a16 a17) → f J → Z) : Z := hg k hr hw
theorem wj17_in {A1 A2 A3 A4 A5 A6 A7 A8 A9 A10 A11 A12 A13 A14 A15 A16 A17 : Type} {f : (A1 → A2 → A3 → A4 → A5 → A6 → A7 → A8 → A9 → A10 → A11 → A12 → A13 → A14 → A15 → A16 → A17 → Prop) → Prop} {k : A1 → A2 → A3 → A4 → A5 → A6 → A7 → A8 → A9 → A10 → A11 → A12 → A13 → A14 → A15 → A16 → A17 → Prop} (P : A1 → A2 → A3 → A4 → A5 → A6 → A7 → A8 → A9 → A10 → A11 → A12 → A13 → A14 → A15 → A16 → A17 → Prop) (hr : ∀ a1 a2 a3 a4 a5 a6 a7 a8 a9 a10 a11 a12 a13 a14 a15 a16 a17, P a1 a2 a3 a4 a5 a6 a7 a8 a9 a10 a11 a12 a13 a14 a15 a16 a17 → k a1 a2 a3 a4 a5 a6 a7 a8 a9 a10 a11 a12 a13 a14 a15 a16 a17) (hg : ∀ J : A1 → A2 → A3 → A4 → A5 → A6 → A7 → A8 → A9 → A10 → A11 → A12 → A13 → A14 → A15 → A16 → A17 → Prop, (∀ a1 a2 a3 a4 a5 a6 a7 a8 a9 a10 a11 a12 a13 a14 a15 a16 a17, P a1 a2 a3 a4 a5 a6 a7 a8 a9 a10 a11 a12 a13 a14 a15 a16 a17 → J a1 a2 a3 a4 a5 a6 a7 a8 a9 a10 a11 a12 a13 a14 a15 a16 a17) → f J) : wj17 f k := hg k hr
def wL18 {A1 A2 A3 A4 A5 A6 A7 A8 A9 A10 A11 A12 A13 A14 A15 A16 A17 A18 : Type} (B : (A1 → A2 → A3 → A4 → A5 → A6 → A7 → A8 → A9 → A10 → A11 → A12 → A13 → A14 → A15 → A16 → A17 → A18 → Prop) → A1 → A2 → A3 → A4 → A5 → A6 → A7 → A8 → A9 → A10 → A11 → A12 → A13 → A14 → A15 → A16 → A17 → A18 → Prop) : Nat → A1 → A2 → A3 → A4 → A5 → A6 → A7 → A8 → A9 → A10 → A11 → A12 → A13 → A14 → A15 → A16 → A17 → A18 → Prop
  | 0, _, _, _, _, _, _, _, _, _, _, _, _, _, _, _, _, _, _ => False
  | n + 1, a1, a2, a3, a4, a5, a6, a7, a8, a9, a10, a11, a12, a13, a14, a15, a16, a17, a18 => B (wL18 B n) a1 a2 a3 a4 a5 a6 a7 a8 a9 a10 a11 a12 a13 a14 a15 a16 a17 a18
theorem wL18_go {A1 A2 A3 A4 A5 A6 A7 A8 A9 A10 A11 A12 A13 A14 A15 A16 A17 A18 : Type} {B : (A1 → A2 → A3 → A4 → A5 → A6 → A7 → A8 → A9 → A10 → A11 → A12 → A13 → A14 → A15 → A16 → A17 → A18 → Prop) → A1 → A2 → A3 → A4 → A5 → A6 → A7 → A8 → A9 → A10 → A11 → A12 → A13 → A14 → A15 → A16 → A17 → A18 → Prop} {P : A1 → A2 → A3 → A4 → A5 → A6 → A7 → A8 → A9 → A10 → A11 → A12 → A13 → A14 → A15 → A16 → A17 → A18 → Prop} (h : ∀ K : A1 → A2 → A3 → A4 → A5 → A6 → A7 → A8 → A9 → A10 → A11 → A12 → A13 → A14 → A15 → A16 → A17 → A18 → Prop, (∀ a1 a2 a3 a4 a5 a6 a7 a8 a9 a10 a11 a12 a13 a14 a15 a16 a17 a18, K a1 a2 a3 a4 a5 a6 a7 a8 a9 a10 a11 a12 a13 a14 a15 a16 a17 a18 → P a1 a2 a3 a4 a5 a6 a7 a8 a9 a10 a11 a12 a13 a14 a15 a16 a17 a18) → ∀ a1 a2 a3 a4 a5 a6 a7 a8 a9 a10 a11 a12 a13 a14 a15 a16 a17 a18, B K a1 a2 a3 a4 a5 a6 a7 a8 a9 a10 a11 a12 a13 a14 a15 a16 a17 a18 → P a1 a2 a3 a4 a5 a6 a7 a8 a9 a10 a11 a12 a13 a14 a15 a16 a17 a18) : ∀ n a1 a2 a3 a4 a5 a6 a7 a8 a9 a10 a11 a12 a13 a14 a15 a16 a17 a18, wL18 B n a1 a2 a3 a4 a5 a6 a7 a8 a9 a10 a11 a12 a13 a14 a15 a16 a17 a18 → P a1 a2 a3 a4 a5 a6 a7 a8 a9 a10 a11 a12 a13 a14 a15 a16 a17 a18
  | 0, _, _, _, _, _, _, _, _, _, _, _, _, _, _, _, _, _, _, hw => hw.elim
  | n + 1, a1, a2, a3, a4, a5, a6, a7, a8, a9, a10, a11, a12, a13, a14, a15, a16, a17, a18, hw => h (wL18 B n) (wL18_go h n) a1 a2 a3 a4 a5 a6 a7 a8 a9 a10 a11 a12 a13 a14 a15 a16 a17 a18 hw
theorem wL18_in {A1 A2 A3 A4 A5 A6 A7 A8 A9 A10 A11 A12 A13 A14 A15 A16 A17 A18 : Type} {B : (A1 → A2 → A3 → A4 → A5 → A6 → A7 → A8 → A9 → A10 → A11 → A12 → A13 → A14 → A15 → A16 → A17 → A18 → Prop) → A1 → A2 → A3 → A4 → A5 → A6 → A7 → A8 → A9 → A10 → A11 → A12 → A13 → A14 → A15 → A16 → A17 → A18 → Prop} (I : A1 → A2 → A3 → A4 → A5 → A6 → A7 → A8 → A9 → A10 → A11 → A12 → A13 → A14 → A15 → A16 → A17 → A18 → Prop) (μ : A1 → A2 → A3 → A4 → A5 → A6 → A7 → A8 → A9 → A10 → A11 → A12 → A13 → A14 → A15 → A16 → A17 → A18 → Nat) (hs : ∀ (K : A1 → A2 → A3 → A4 → A5 → A6 → A7 → A8 → A9 → A10 → A11 → A12 → A13 → A14 → A15 → A16 → A17 → A18 → Prop) a1 a2 a3 a4 a5 a6 a7 a8 a9 a10 a11 a12 a13 a14 a15 a16 a17 a18, I a1 a2 a3 a4 a5 a6 a7 a8 a9 a10 a11 a12 a13 a14 a15 a16 a17 a18 → (∀ b1 b2 b3 b4 b5 b6 b7 b8 b9 b10 b11 b12 b13 b14 b15 b16 b17 b18, I b1 b2 b3 b4 b5 b6 b7 b8 b9 b10 b11 b12 b13 b14 b15 b16 b17 b18 → μ b1 b2 b3 b4 b5 b6 b7 b8 b9 b10 b11 b12 b13 b14 b15 b16 b17 b18 < μ a1 a2 a3 a4 a5 a6 a7 a8 a9 a10 a11 a12 a13 a14 a15 a16 a17 a18 → K b1 b2 b3 b4 b5 b6 b7 b8 b9 b10 b11 b12 b13 b14 b15 b16 b17 b18) → B K a1 a2 a3 a4 a5 a6 a7 a8 a9 a10 a11 a12 a13 a14 a15 a16 a17 a18) : ∀ a1 a2 a3 a4 a5 a6 a7 a8 a9 a10 a11 a12 a13 a14 a15 a16 a17 a18, I a1 a2 a3 a4 a5 a6 a7 a8 a9 a10 a11 a12 a13 a14 a15 a16 a17 a18 → ∃ n, wL18 B n a1 a2 a3 a4 a5 a6 a7 a8 a9 a10 a11 a12 a13 a14 a15 a16 a17 a18 := by
  have key : ∀ n a1 a2 a3 a4 a5 a6 a7 a8 a9 a10 a11 a12 a13 a14 a15 a16 a17 a18, I a1 a2 a3 a4 a5 a6 a7 a8 a9 a10 a11 a12 a13 a14 a15 a16 a17 a18 → μ a1 a2 a3 a4 a5 a6 a7 a8 a9 a10 a11 a12 a13 a14 a15 a16 a17 a18 < n → wL18 B n a1 a2 a3 a4 a5 a6 a7 a8 a9 a10 a11 a12 a13 a14 a15 a16 a17 a18 := by
    intro n
    induction n with
    | zero => intro a1 a2 a3 a4 a5 a6 a7 a8 a9 a10 a11 a12 a13 a14 a15 a16 a17 a18 _ h; exact absurd h (Nat.not_lt_zero _)
    | succ n ih => intro a1 a2 a3 a4 a5 a6 a7 a8 a9 a10 a11 a12 a13 a14 a15 a16 a17 a18 hi hm; exact hs _ a1 a2 a3 a4 a5 a6 a7 a8 a9 a10 a11 a12 a13 a14 a15 a16 a17 a18 hi (fun b1 b2 b3 b4 b5 b6 b7 b8 b9 b10 b11 b12 b13 b14 b15 b16 b17 b18 hb hlt => ih b1 b2 b3 b4 b5 b6 b7 b8 b9 b10 b11 b12 b13 b14 b15 b16 b17 b18 hb (by omega))
  intro a1 a2 a3 a4 a5 a6 a7 a8 a9 a10 a11 a12 a13 a14 a15 a16 a17 a18 hi
  exact ⟨_, key _ a1 a2 a3 a4 a5 a6 a7 a8 a9 a10 a11 a12 a13 a14 a15 a16 a17 a18 hi (Nat.lt_succ_self _)⟩
def wj18 {A1 A2 A3 A4 A5 A6 A7 A8 A9 A10 A11 A12 A13 A14 A15 A16 A17 A18 : Type} (f : (A1 → A2 → A3 → A4 → A5 → A6 → A7 → A8 → A9 → A10 → A11 → A12 → A13 → A14 → A15 → A16 → A17 → A18 → Prop) → Prop) (k : A1 → A2 → A3 → A4 → A5 → A6 → A7 → A8 → A9 → A10 → A11 → A12 → A13 → A14 → A15 → A16 → A17 → A18 → Prop) : Prop := f k
theorem wj18_go {A1 A2 A3 A4 A5 A6 A7 A8 A9 A10 A11 A12 A13 A14 A15 A16 A17 A18 : Type} {f : (A1 → A2 → A3 → A4 → A5 → A6 → A7 → A8 → A9 → A10 → A11 → A12 → A13 → A14 → A15 → A16 → A17 → A18 → Prop) → Prop} {k : A1 → A2 → A3 → A4 → A5 → A6 → A7 → A8 → A9 → A10 → A11 → A12 → A13 → A14 → A15 → A16 → A17 → A18 → Prop} {P : A1 → A2 → A3 → A4 → A5 → A6 → A7 → A8 → A9 → A10 → A11 → A12 → A13 → A14 → A15 → A16 → A17 → A18 → Prop} {Z : Prop} (hw : wj18 f k) (hr : ∀ a1 a2 a3 a4 a5 a6 a7 a8 a9 a10 a11 a12 a13 a14 a15 a16 a17 a18, k a1 a2 a3 a4 a5 a6 a7 a8 a9 a10 a11 a12 a13 a14 a15 a16 a17 a18 → P a1 a2 a3 a4 a5 a6 a7 a8 a9 a10 a11 a12 a13 a14 a15 a16 a17 a18) (hg : ∀ J : A1 → A2 → A3 → A4 → A5 → A6 → A7 → A8 → A9 → A10 → A11 → A12 → A13 → A14 → A15 → A16 → A17 → A18 → Prop, (∀ a1 a2 a3 a4 a5 a6 a7 a8 a9 a10 a11 a12 a13 a14 a15 a16 a17 a18, J a1 a2 a3 a4 a5 a6 a7 a8 a9 a10 a11 a12 a13 a14 a15 a16 a17 a18 → P a1 a2 a3 a4 a5 a6 a7 a8 a9 a10 a11 a12 a13 a14 a15 a16 a17 a18) → f J → Z) : Z := hg k hr hw
theorem wj18_in {A1 A2 A3 A4 A5 A6 A7 A8 A9 A10 A11 A12 A13 A14 A15 A16 A17 A18 : Type} {f : (A1 → A2 → A3 → A4 → A5 → A6 → A7 → A8 → A9 → A10 → A11 → A12 → A13 → A14 → A15 → A16 → A17 → A18 → Prop) → Prop} {k : A1 → A2 → A3 → A4 → A5 → A6 → A7 → A8 → A9 → A10 → A11 → A12 → A13 → A14 → A15 → A16 → A17 → A18 → Prop} (P : A1 → A2 → A3 → A4 → A5 → A6 → A7 → A8 → A9 → A10 → A11 → A12 → A13 → A14 → A15 → A16 → A17 → A18 → Prop) (hr : ∀ a1 a2 a3 a4 a5 a6 a7 a8 a9 a10 a11 a12 a13 a14 a15 a16 a17 a18, P a1 a2 a3 a4 a5 a6 a7 a8 a9 a10 a11 a12 a13 a14 a15 a16 a17 a18 → k a1 a2 a3 a4 a5 a6 a7 a8 a9 a10 a11 a12 a13 a14 a15 a16 a17 a18) (hg : ∀ J : A1 → A2 → A3 → A4 → A5 → A6 → A7 → A8 → A9 → A10 → A11 → A12 → A13 → A14 → A15 → A16 → A17 → A18 → Prop, (∀ a1 a2 a3 a4 a5 a6 a7 a8 a9 a10 a11 a12 a13 a14 a15 a16 a17 a18, P a1 a2 a3 a4 a5 a6 a7 a8 a9 a10 a11 a12 a13 a14 a15 a16 a17 a18 → J a1 a2 a3 a4 a5 a6 a7 a8 a9 a10 a11 a12 a13 a14 a15 a16 a17 a18) → f J) : wj18 f k := hg k hr
