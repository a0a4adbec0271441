/-! permutations of worlds; a call whose cells stand in front; the script -/
theorem pm_P {D : va_G} {cl : List vw_C} {ws ws2 : va_W} {H : Heap} (h : ws.Perm ws2) (hP : va_P D cl ws H) : va_P D cl ws2 H := fun k q hk => by
  obtain ⟨i, hi⟩ := List.getElem?_of_mem ((h.mem_iff).mpr (List.mem_of_getElem? hk))
  exact hP i q hi
theorem pm_to {ws : va_W} (h : ∀ (i j : Nat) (p q : Nat × va_E), ws[i]? = some p → ws[j]? = some q → p.1 = q.1 → i = j) : (ws.map Prod.fst).Nodup := by
  rw [List.Nodup, List.pairwise_iff_getElem]
  intro i j hi hj hij he
  rw [List.length_map] at hi hj
  rw [List.getElem_map, List.getElem_map] at he
  have := h i j ws[i] ws[j] (List.getElem?_eq_getElem hi) (List.getElem?_eq_getElem hj) he
  omega
theorem pm_from {ws : va_W} (h : (ws.map Prod.fst).Nodup) : ∀ (i j : Nat) (p q : Nat × va_E), ws[i]? = some p → ws[j]? = some q → p.1 = q.1 → i = j := by
  intro i j p q hi hj he
  have hl : i < ws.length := (List.getElem?_eq_some_iff.mp hi).1
  refine (List.getElem?_inj (l := ws.map Prod.fst) (by rw [List.length_map]; exact hl) h).mp ?_
  rw [List.getElem?_map, List.getElem?_map, hi, hj]
  show some p.1 = some q.1
  rw [he]
theorem pm_D {A : Nat → Prop} {ws ws2 : va_W} (h : ws.Perm ws2) (hD : va_D A ws) : va_D A ws2 := ⟨pm_from ((h.map Prod.fst).nodup_iff.mp (pm_to hD.1)), fun k q hk => by
  obtain ⟨i, hi⟩ := List.getElem?_of_mem ((h.mem_iff).mpr (List.mem_of_getElem? hk))
  exact hD.2 i q hi⟩
theorem nd_va : ∀ {l : List Nat}, l.Nodup → va_nd l = true
  | [], _ => rfl
  | a :: l, h => by
    rw [List.nodup_cons] at h
    simp only [va_nd, Bool.and_eq_true, decide_eq_true_eq]
    exact ⟨h.1, nd_va h.2⟩
theorem rg_1 {α : Type} (a b : List α) : (List.range a.length).map (fun i => (a ++ b)[i]?) = a.map some := by
  apply List.ext_getElem?
  intro i
  rw [List.getElem?_map, List.getElem?_map]
  by_cases h : i < a.length
  · rw [List.getElem?_range h, List.getElem?_eq_getElem h]
    show some ((a ++ b)[i]?) = some (some a[i])
    rw [List.getElem?_append_left h, List.getElem?_eq_getElem h]
  · rw [List.getElem?_eq_none (by rw [List.length_range]; omega), List.getElem?_eq_none (by omega)]
    rfl
theorem rg_2 {α : Type} (a b : List α) : ((List.range b.length).map (fun i => i + a.length)).map (fun i => (a ++ b)[i]?) = b.map some := by
  apply List.ext_getElem?
  intro i
  rw [List.getElem?_map, List.getElem?_map, List.getElem?_map]
  by_cases h : i < b.length
  · rw [List.getElem?_range h, List.getElem?_eq_getElem h]
    show some ((a ++ b)[i + a.length]?) = some (some b[i])
    rw [List.getElem?_append_right (by omega), Nat.add_sub_cancel, List.getElem?_eq_getElem h]
  · rw [List.getElem?_eq_none (by rw [List.length_range]; omega), List.getElem?_eq_none (by omega)]
    rfl
theorem pm_ix {α : Type} {ws ws2 : List α} (is : List Nat) (n : Nat) (hp : is.Perm (List.range n)) (hn : ws.length = n) (hs : is.map (fun i => ws[i]?) = ws2.map some) : ws.Perm ws2 := by
  subst hn
  have h1 : ((List.range ws.length).map (fun i => ws[i]?)).Perm (ws2.map some) := hs ▸ (hp.symm.map _)
  have h2 : (List.range ws.length).map (fun i => ws[i]?) = ws.map some := by
    have h := rg_1 ws []
    rwa [List.append_nil] at h
  rw [h2] at h1
  have h3 := h1.filterMap id
  simpa [List.filterMap_map] using h3
theorem pm_sw {α : Type} (a b c : List α) : (a ++ (b ++ c)).Perm (b ++ (a ++ c)) := by
  rw [← List.append_assoc, ← List.append_assoc]
  exact List.perm_append_comm.append_right c
section GL
variable {X : gX} {E : gE} {nL : Nat} {cc : ByteArray} {Ts : List Cond} {own : String} {R0 : Room} {l0 : Launch} {ws : va_W} {cs ss pc : Nat} {lv : List (Nat × Value)} {st : List Value}
theorem g_perm {ws2 : va_W} (h : ws.Perm ws2) (k : G X E nL ws2 cs ss pc lv st) : G X E nL ws cs ss pc lv st := by
  obtain ⟨p, l, e, R, s, m, args, below, meth, c, A, Q⟩ := X
  intro ls H locs hl hP hD hS
  exact k ls H locs hl (pm_P h hP) (pm_D h hD) hS
end GL
section GK
variable {X : gX} {E : gE} {nL : Nat} {cc : ByteArray} {Ts : List Cond} {own : String} {R0 : Room} {l0 : Launch} {cs ss pc : Nat} {lv : List (Nat × Value)} {st : List Value}
variable {S : Type} {rv : S → Option Value} {post : S → Prop} {wP : S → va_W} {y : MethodName} {wsC wsC' : List Cond} {bytes : ByteArray} {maxL : Nat} {ret : Option FieldType} {rm : Room} {b : Nat} {As : List Value} {wc wr : va_W} {C : String} {T : u_T} {N ci index n : Nat} {fs : List Value}
theorem rg_nd1 (k : Nat) : va_nd (List.range k) = true := nd_va List.nodup_range
theorem rg_nd2 (k j : Nat) : va_nd ((List.range k).map (fun i => i + j)) = true := nd_va (by
  rw [List.Nodup, List.pairwise_map]
  exact (List.nodup_range (n := k)).imp (fun h e => h (by omega)))
theorem rg_dis (a b : Nat) : ∀ i ∈ (List.range b).map (fun i => i + a), i ∉ List.range a := by
  intro i hi hj
  obtain ⟨j, -, rfl⟩ := List.mem_map.mp hi
  rw [List.mem_range] at hj
  omega
theorem g_callF (C0 : gC X E nL cc Ts own R0 l0) (hM : Ct l0 E y wsC rm (.ref b :: As) wc rv post wP) (hd : decode cc pc = .ok (.invokevirtual index, 3)) (hG : GoodIn Ts (wsV own index C y wsC)) (hw : wsC = Cond.code y bytes maxL ret :: wsC') (hdd : y.cls = C ∧ y.cls ≠ "java/lang/invoke/MethodHandle" ∧ y.cls ≠ "java/lang/invoke/VarHandle" ∧ (parseMethodDescriptor y.desc).map (fun d => d.parameters.length) = some n) (hn : As.length = n) (hR : rm.frames + 1 ≤ R0.frames ∧ 8 + (maxL + 11) + rm.locals ≤ R0.locals) (hf : cs + rm.cells ≤ R0.cells ∧ ss + rm.slots ≤ R0.slots) {rest : List Value} (hst : st = As.reverse ++ .ref b :: rest) (hroom : (rest.map fun v => v.category).sum ≤ 8) (q0 : Nat) (he : wc[q0]? = some (b, .inr (ci, fs))) (hc : vwCl[ci]? = some (C, T, N)) (k : ∀ u : S, post u → G X E nL (wP u ++ wr) (cs + rm.cells) (ss + rm.slots) (pc + 3) lv ((rv u).toList ++ rest)) : G X E nL (wc ++ wr) cs ss pc lv st :=
  g_callV C0 (q0 := q0) (ci := ci) hM hd hG hw hdd hn hR hf hst hroom (List.range wc.length) ((List.range wr.length).map (fun i => i + wc.length)) (rg_1 wc wr) (wr := wr) (rg_2 wc wr) (rg_nd1 _) (rg_nd2 _ _) (rg_dis _ _) (by rw [List.getElem?_append_left (List.getElem?_eq_some_iff.mp he).1]; exact he) hc (fun u hu => g_perm List.perm_append_comm (k u hu))
end GK
theorem zSet_mv {tL tM : Nat} {A B : Nat → Prop} {s U : State} {H : Heap} (h : zSet tL tM A s) (hvm : s.vm.Alike U.vm) (hH : U.heap = H) (hk : ∀ q : Nat, q < s.heap.size → ¬ A q → H[q]? = s.heap[q]?) (hAB : ∀ q, B q → A q) : zSet tL tM B U := by
  obtain ⟨a, b, c, d⟩ := h
  subst hH
  exact ⟨((a.moved hvm).kept hk).narrow hAB, ((b.moved hvm).kept hk).narrow hAB, ((c.moved hvm).kept hk).narrow hAB, ((d.moved hvm).kept hk).narrow hAB⟩
section GKz
variable {X : gX} {E : gE} {nL : Nat} {cc : ByteArray} {Ts : List Cond} {own : String} {R0 : Room} {l0 : Launch} {cs ss pc : Nat} {lv : List (Nat × Value)} {st : List Value}
variable {S : Type} {rv : S → Option Value} {post : S → Prop} {wP : S → va_W} {y : MethodName} {wsC wsC' : List Cond} {bytes : ByteArray} {maxL : Nat} {ret : Option FieldType} {rm : Room} {b : Nat} {As : List Value} {wc wr : va_W} {C : String} {T : u_T} {N ci index n : Nat} {fs : List Value}
theorem g_callFz (C0 : gC X E nL cc Ts own R0 l0) {tL tM : Nat} (hM : Ctz l0 E y wsC rm (.ref b :: As) wc rv post wP (zSet tL tM)) (hd : decode cc pc = .ok (.invokevirtual index, 3)) (hG : GoodIn Ts (wsV own index C y wsC)) (hw : wsC = Cond.code y bytes maxL ret :: wsC') (hdd : y.cls = C ∧ y.cls ≠ "java/lang/invoke/MethodHandle" ∧ y.cls ≠ "java/lang/invoke/VarHandle" ∧ (parseMethodDescriptor y.desc).map (fun d => d.parameters.length) = some n) (hn : As.length = n) (hR : rm.frames + 1 ≤ R0.frames ∧ 8 + (maxL + 11) + rm.locals ≤ R0.locals) (hf : cs + rm.cells ≤ R0.cells ∧ ss + rm.slots ≤ R0.slots) {rest : List Value} (hst : st = As.reverse ++ .ref b :: rest) (hroom : (rest.map fun v => v.category).sum ≤ 8) (q0 : Nat) (he : wc[q0]? = some (b, .inr (ci, fs))) (hc : vwCl[ci]? = some (C, T, N)) (hZ0 : gZz X (zSet tL tM)) (k : ∀ u : S, post u → G X E nL (wP u ++ wr) (cs + rm.cells) (ss + rm.slots) (pc + 3) lv ((rv u).toList ++ rest)) : G X E nL (wc ++ wr) cs ss pc lv st := by
  have k' : ∀ u : S, post u → G X E nL (wr ++ wP u) (cs + rm.cells) (ss + rm.slots) (pc + 3) lv ((rv u).toList ++ rest) := fun u hu => g_perm List.perm_append_comm (k u hu)
  obtain ⟨p, l, e, R, s, m, args, below, meth, c, A, Q⟩ := X
  obtain ⟨⟨hx, hb, hml, hown, hts⟩, hK, hA, rfl, rfl, hlk⟩ := C0
  intro ls H locs hl hP hD hS
  subst hst
  have hPc := hP.sub (List.range wc.length) (sub_fm (rg_1 wc wr))
  have hDc := hD.sub (List.range wc.length) (rg_nd1 _) (rg_1 wc wr)
  have hFc := va_free hD hS hA (List.range wc.length) (rg_1 wc wr)
  have he' : (wc ++ wr)[q0]? = some (b, .inr (ci, fs)) := by rw [List.getElem?_append_left (List.getElem?_eq_some_iff.mp he).1]; exact he
  refine va_callg (A0 := A) (H0 := s.heap) (va_runV (As := As) (rest := rest) ⟨hx, hb, hml, hown, hts⟩ (hM H.size) (cwV n hts hG hw rfl rfl hdd hR) ⟨fun a U g mk q => ?_, va_recv hK.1 hP hc he', fun U hU hW => ⟨rfl, ⟨by rw [hU], by rw [hU]; exact hPc, hK.warm hW, hDc.weaken (fun _ _ _ _ => trivial)⟩, zSet_mv hZ0 hW.alike hU hS.2.1 hFc⟩⟩ rfl hn hl.1 rfl (lv_room hroom) hd hf) hS (fun q _ h => hFc q h) hFc (fun u H1 locs1 hp h1 h2 h3 h4 => ?_)
  · obtain ⟨q0, ⟨q1, qP, qK, qD⟩, qZ⟩ := q
    exact ⟨q0, ⟨q1, qP, qK.calling, qD⟩, zSet_mv qZ (Vm.Alike.refl U.vm) rfl (fun _ _ _ => rfl) (fun _ h => h)⟩
  · obtain ⟨hP2, hD2⟩ := va_join hP hD (List.range wc.length) ((List.range wr.length).map (fun i => i + wc.length)) (rg_1 wc wr) (rg_2 wc wr) (rg_nd2 _ _) (rg_dis _ _) h3 hFc h1 h2
    exact k' u hp ls H1 locs1 hl hP2 hD2 h4
end GKz
/-- the script of a law, as G's rows want it -/
def gSc (X : gX) (b L : Nat) (xs : Nat → Int32) : Prop := match X with
  | (_, _, _, _, s, _, _, _, _, _, A, _) => va_X b L xs s s.heap ∧ b < s.heap.size ∧ ¬ A b
section GS
variable {X : gX} {E : gE} {nL : Nat} {cc : ByteArray} {Ts : List Cond} {own : String} {R0 : Room} {l0 : Launch} {ws : va_W} {cs ss pc : Nat} {lv : List (Nat × Value)} {st : List Value}
theorem g_sld (C0 : gC X E nL cc Ts own R0 l0) {b L : Nat} {xs : Nat → Int32} (S0 : gSc X b L xs) {i : Int32} (hin : vp_in i L) (hd : decode cc pc = .ok (.iaload, 1)) (k : G X E nL ws cs ss (pc + 1) lv (.int (xs i.toNatClampNeg) :: st)) : G X E nL ws cs ss pc lv (.int i :: .ref b :: st) := by
  obtain ⟨p, l, e, R, s, m, args, below, meth, c, A, Q⟩ := X
  obtain ⟨⟨hx, hb, hml, hown, hts⟩, hK, hA, rfl, rfl, hlk⟩ := C0
  obtain ⟨hX, hbl, hbA⟩ := S0
  intro ls H locs hl hP hD hS
  exact va_sld hx hb hX hbl hbA hS hin hd (k ls H locs hl hP hD hS)
theorem g_slen (C0 : gC X E nL cc Ts own R0 l0) {b L : Nat} {xs : Nat → Int32} (S0 : gSc X b L xs) (hd : decode cc pc = .ok (.arraylength, 1)) (k : G X E nL ws cs ss (pc + 1) lv (.int (nI L) :: st)) : G X E nL ws cs ss pc lv (.ref b :: st) := by
  obtain ⟨p, l, e, R, s, m, args, below, meth, c, A, Q⟩ := X
  obtain ⟨⟨hx, hb, hml, hown, hts⟩, hK, hA, rfl, rfl, hlk⟩ := C0
  obtain ⟨hX, hbl, hbA⟩ := S0
  intro ls H locs hl hP hD hS
  exact va_slen hx hb hX hbl hbA hS hd (k ls H locs hl hP hD hS)
end GS
