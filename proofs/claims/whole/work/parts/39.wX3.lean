def w_X3_change (p0 : Int32) (p1 : Int32) (p2 : Int32) (t_solvedClamps : Int32) (t_hours : Nat → Int32) (t_needs : Nat → Int32) (Q : Int32 → (Nat → Int32) → (Nat → Int32) → Int32 → Prop) : Prop := w_X9_within p0 0 6 (fun (r1 : Bool) => (r1 = true → vp_in p0 7 ∧ (∀ x4_4 : Int32, x4_4 = (t_hours (Int32.toNatClampNeg p0)) → (vp_in p0 7 ∧ (vp_in p0 7 ∧ (Q x4_4 (upd t_hours (Int32.toNatClampNeg p0) p1) (upd t_needs (Int32.toNatClampNeg p0) p2) 0))))) ∧ (r1 = false → Q (-1) t_hours t_needs t_solvedClamps))
theorem ddV_X3_change : yX3_change.cls = RX3 ∧ yX3_change.cls ≠ "java/lang/invoke/MethodHandle" ∧ yX3_change.cls ≠ "java/lang/invoke/VarHandle" ∧ (parseMethodDescriptor yX3_change.desc).map (fun d => d.parameters.length) = some 3 := by decide +kernel
set_option maxHeartbeats 4000000 in
set_option maxRecDepth 100000 in
theorem c_X3_change (l : Launch) (E : gE) (q_t q_t_hours q_t_needs q_t_freeAt q_t_order q_t_starts q_t_bestOrder q_t_bestStarts : Nat) (p0 : Int32) (p1 : Int32) (p2 : Int32) (t_bestEnd : Int32) (t_clamps : Int32) (t_there : Int32) (t_solvedClamps : Int32) (t_hours : Nat → Int32) (t_needs : Nat → Int32) (Q : Int32 → (Nat → Int32) → (Nat → Int32) → Int32 → Prop) (hw : w_X3_change p0 p1 p2 t_solvedClamps t_hours t_needs Q) : Ct l E yX3_change wsX3_change { frames := 1, cells := 0, slots := 0, locals := 22 } [.ref q_t, .int p0, .int p1, .int p2] [ob 3 q_t [.ref q_t_hours, .ref q_t_needs, .ref q_t_freeAt, .ref q_t_order, .ref q_t_starts, .ref q_t_bestOrder, .ref q_t_bestStarts, .int t_bestEnd, .int t_clamps, .int t_there, .int t_solvedClamps], aI E.I q_t_hours 7 t_hours, aI E.I q_t_needs 7 t_needs] (S := Int32 × (Nat → Int32) × (Nat → Int32) × Int32) (fun u => some (.int u.1)) (fun u => Q u.1 u.2.1 u.2.2.1 u.2.2.2) (fun u => [ob 3 q_t [.ref q_t_hours, .ref q_t_needs, .ref q_t_freeAt, .ref q_t_order, .ref q_t_starts, .ref q_t_bestOrder, .ref q_t_bestStarts, .int t_bestEnd, .int t_clamps, .int t_there, .int u.2.2.2], aI E.I q_t_hours 7 u.2.1, aI E.I q_t_needs 7 u.2.2.1]) := by
  unfold w_X3_change at hw
  have hinX3 : ∀ w ∈ wsX30, w ∈ wsX3_change := fun _ h => List.mem_cons_of_mem _ (List.mem_append_right _ h)
  refine g_start (cc := cX3_change) (nL := 5) (own := RX3) (ret := (some .int)) rfl (by decide) rfl (Nat.le_of_ble_eq_true rfl) (lv0 := [(0, .ref q_t), (1, .int p0), (2, .int p1), (3, .int p2)]) rfl (fun X C0 R1 => ?_)
  refine g_iload_n C0 dX3_change_0 1 rfl ?_
  refine g_iconst C0 (v := 0) dX3_change_1 (by decide) ?_
  refine g_bipush C0 (v := 6) dX3_change_2 (by decide) ?_
  refine g_callN C0 (c_X9_within l E p0 0 6 _ hw) dX3_change_4 gX3_change_X9_within_n33 rfl (List.mem_of_getElem? (i := 1) rfl) (List.mem_of_getElem? (i := 5) rfl) (List.mem_of_getElem? (i := 4) rfl) ddS_X9_within rfl (by decide) (by decide) rfl (Nat.le_of_ble_eq_true rfl) [] [0, 1, 2] rfl (wr := [ob 3 q_t [.ref q_t_hours, .ref q_t_needs, .ref q_t_freeAt, .ref q_t_order, .ref q_t_starts, .ref q_t_bestOrder, .ref q_t_bestStarts, .int t_bestEnd, .int t_clamps, .int t_there, .int t_solvedClamps], aI E.I q_t_hours 7 t_hours, aI E.I q_t_needs 7 t_needs]) rfl (by decide) (by decide) (by decide) (fun u hw => ?_)
  obtain ⟨r1, hu_⟩ : ∃ z, z = u := ⟨_, rfl⟩
  subst hu_
  try dsimp only at hw
  show G X E 5 [ob 3 q_t [.ref q_t_hours, .ref q_t_needs, .ref q_t_freeAt, .ref q_t_order, .ref q_t_starts, .ref q_t_bestOrder, .ref q_t_bestStarts, .int t_bestEnd, .int t_clamps, .int t_there, .int t_solvedClamps], aI E.I q_t_hours 7 t_hours, aI E.I q_t_needs 7 t_needs] 0 0 7 [(0, .ref q_t), (1, .int p0), (2, .int p1), (3, .int p2)] [.int (bI r1)]
  refine g_ifb_ne C0 (tgt := 12) dX3_change_7 (by decide) (fun c2 => ?_) (fun c2 => ?_)
  · replace hw := hw.1 c2
    refine g_aload_n C0 dX3_change_12 0 rfl ?_
    refine g_get C0 dX3_change_13 0 rfl 0 rfl rfl hinX3 (by decide) (List.mem_of_getElem? (i := 1) rfl) rfl ?_
    refine g_iload_n C0 dX3_change_16 1 rfl ?_
    obtain ⟨h3, hw⟩ := hw
    refine g_iald C0 (cA := E.I) dX3_change_17 1 rfl h3 ?_
    refine g_topi (fun x4_4 ex4_4 => ?_)
    replace hw := hw x4_4 ex4_4
    refine g_istore C0 (lv2 := [(4, .int x4_4), (0, .ref q_t), (1, .int p0), (2, .int p1), (3, .int p2)]) dX3_change_18 (by decide) rfl ?_
    refine g_aload_n C0 dX3_change_20 1 rfl ?_
    refine g_get C0 dX3_change_21 0 rfl 0 rfl rfl hinX3 (by decide) (List.mem_of_getElem? (i := 1) rfl) rfl ?_
    refine g_iload_n C0 dX3_change_24 2 rfl ?_
    refine g_iload_n C0 dX3_change_25 3 rfl ?_
    obtain ⟨h5, hw⟩ := hw
    refine g_iast C0 (ws2 := [ob 3 q_t [.ref q_t_hours, .ref q_t_needs, .ref q_t_freeAt, .ref q_t_order, .ref q_t_starts, .ref q_t_bestOrder, .ref q_t_bestStarts, .int t_bestEnd, .int t_clamps, .int t_there, .int t_solvedClamps], aI E.I q_t_hours 7 (upd t_hours (Int32.toNatClampNeg p0) p1), aI E.I q_t_needs 7 t_needs]) dX3_change_26 1 rfl h5 rfl ?_
    refine g_aload_n C0 dX3_change_27 1 rfl ?_
    refine g_get C0 dX3_change_28 0 rfl 1 rfl rfl hinX3 (by decide) (List.mem_of_getElem? (i := 2) rfl) rfl ?_
    refine g_iload_n C0 dX3_change_31 2 rfl ?_
    refine g_iload_n C0 dX3_change_32 4 rfl ?_
    obtain ⟨h6, hw⟩ := hw
    refine g_iast C0 (ws2 := [ob 3 q_t [.ref q_t_hours, .ref q_t_needs, .ref q_t_freeAt, .ref q_t_order, .ref q_t_starts, .ref q_t_bestOrder, .ref q_t_bestStarts, .int t_bestEnd, .int t_clamps, .int t_there, .int t_solvedClamps], aI E.I q_t_hours 7 (upd t_hours (Int32.toNatClampNeg p0) p1), aI E.I q_t_needs 7 (upd t_needs (Int32.toNatClampNeg p0) p2)]) dX3_change_33 2 rfl h6 rfl ?_
    refine g_aload_n C0 dX3_change_34 1 rfl ?_
    refine g_iconst C0 (v := 0) dX3_change_35 (by decide) ?_
    refine g_put C0 (ws2 := [ob 3 q_t [.ref q_t_hours, .ref q_t_needs, .ref q_t_freeAt, .ref q_t_order, .ref q_t_starts, .ref q_t_bestOrder, .ref q_t_bestStarts, .int t_bestEnd, .int t_clamps, .int t_there, .int 0], aI E.I q_t_hours 7 (upd t_hours (Int32.toNatClampNeg p0) p1), aI E.I q_t_needs 7 (upd t_needs (Int32.toNatClampNeg p0) p2)]) dX3_change_36 0 rfl 10 rfl hinX3 tyX3 tyX3_ok nmX3 (by decide) (List.mem_of_getElem? (i := 3) rfl) rfl rfl (tyX3_ok 10 (by decide)) rfl rfl (Nat.le_of_ble_eq_true rfl) rfl ?_
    refine g_iload C0 dX3_change_39 0 rfl ?_
    exact g_iret C0 R1 dX3_change_41 (x4_4, upd t_hours (Int32.toNatClampNeg p0) p1, upd t_needs (Int32.toNatClampNeg p0) p2, 0) rfl hw [0, 1, 2] (by decide) rfl (by decide) (by decide)
  · replace hw := hw.2 c2
    refine g_iconst C0 (v := (-1)) dX3_change_10 (by decide) ?_
    exact g_iret C0 R1 dX3_change_11 ((-1), t_hours, t_needs, t_solvedClamps) rfl hw [0, 1, 2] (by decide) rfl (by decide) (by decide)
def w_X3_isThere (p0 : Int32) (t_hours : Nat → Int32) (Q : Bool → Prop) : Prop := w_X9_within p0 0 6 (fun (r1 : Bool) => (r1 = false → Q false) ∧ (r1 = true → vp_in p0 7 ∧ (((t_hours (Int32.toNatClampNeg p0)) ≤ 0 → Q false) ∧ (¬ (t_hours (Int32.toNatClampNeg p0)) ≤ 0 → Q true))))
theorem ddV_X3_isThere : yX3_isThere.cls = RX3 ∧ yX3_isThere.cls ≠ "java/lang/invoke/MethodHandle" ∧ yX3_isThere.cls ≠ "java/lang/invoke/VarHandle" ∧ (parseMethodDescriptor yX3_isThere.desc).map (fun d => d.parameters.length) = some 1 := by decide +kernel
set_option maxHeartbeats 4000000 in
set_option maxRecDepth 100000 in
theorem c_X3_isThere (l : Launch) (E : gE) (q_t q_t_hours q_t_needs q_t_freeAt q_t_order q_t_starts q_t_bestOrder q_t_bestStarts : Nat) (p0 : Int32) (t_bestEnd : Int32) (t_clamps : Int32) (t_there : Int32) (t_solvedClamps : Int32) (t_hours : Nat → Int32) (Q : Bool → Prop) (hw : w_X3_isThere p0 t_hours Q) : Ct l E yX3_isThere wsX3_isThere { frames := 1, cells := 0, slots := 0, locals := 22 } [.ref q_t, .int p0] [ob 3 q_t [.ref q_t_hours, .ref q_t_needs, .ref q_t_freeAt, .ref q_t_order, .ref q_t_starts, .ref q_t_bestOrder, .ref q_t_bestStarts, .int t_bestEnd, .int t_clamps, .int t_there, .int t_solvedClamps], aI E.I q_t_hours 7 t_hours] (S := Bool) (fun u => some (.int (bI u))) (fun u => Q u) (fun u => [ob 3 q_t [.ref q_t_hours, .ref q_t_needs, .ref q_t_freeAt, .ref q_t_order, .ref q_t_starts, .ref q_t_bestOrder, .ref q_t_bestStarts, .int t_bestEnd, .int t_clamps, .int t_there, .int t_solvedClamps], aI E.I q_t_hours 7 t_hours]) := by
  unfold w_X3_isThere at hw
  have hinX3 : ∀ w ∈ wsX30, w ∈ wsX3_isThere := fun _ h => List.mem_cons_of_mem _ (List.mem_append_right _ h)
  refine g_start (cc := cX3_isThere) (nL := 2) (own := RX3) (ret := (some .boolean)) rfl (by decide) rfl (Nat.le_of_ble_eq_true rfl) (lv0 := [(0, .ref q_t), (1, .int p0)]) rfl (fun X C0 R1 => ?_)
  refine g_iload_n C0 dX3_isThere_0 1 rfl ?_
  refine g_iconst C0 (v := 0) dX3_isThere_1 (by decide) ?_
  refine g_bipush C0 (v := 6) dX3_isThere_2 (by decide) ?_
  refine g_callN C0 (c_X9_within l E p0 0 6 _ hw) dX3_isThere_4 gX3_isThere_X9_within_n33 rfl (List.mem_of_getElem? (i := 1) rfl) (List.mem_of_getElem? (i := 3) rfl) (List.mem_of_getElem? (i := 2) rfl) ddS_X9_within rfl (by decide) (by decide) rfl (Nat.le_of_ble_eq_true rfl) [] [0, 1] rfl (wr := [ob 3 q_t [.ref q_t_hours, .ref q_t_needs, .ref q_t_freeAt, .ref q_t_order, .ref q_t_starts, .ref q_t_bestOrder, .ref q_t_bestStarts, .int t_bestEnd, .int t_clamps, .int t_there, .int t_solvedClamps], aI E.I q_t_hours 7 t_hours]) rfl (by decide) (by decide) (by decide) (fun u hw => ?_)
  obtain ⟨r1, hu_⟩ : ∃ z, z = u := ⟨_, rfl⟩
  subst hu_
  try dsimp only at hw
  show G X E 2 [ob 3 q_t [.ref q_t_hours, .ref q_t_needs, .ref q_t_freeAt, .ref q_t_order, .ref q_t_starts, .ref q_t_bestOrder, .ref q_t_bestStarts, .int t_bestEnd, .int t_clamps, .int t_there, .int t_solvedClamps], aI E.I q_t_hours 7 t_hours] 0 0 7 [(0, .ref q_t), (1, .int p0)] [.int (bI r1)]
  refine g_ifb_eq C0 (tgt := 23) dX3_isThere_7 (by decide) (fun c2 => ?_) (fun c2 => ?_)
  · replace hw := hw.1 c2
    refine g_iconst C0 (v := 0) dX3_isThere_23 (by decide) ?_
    exact g_zret C0 R1 (b := false) dX3_isThere_24 false rfl hw [0, 1] (by decide) rfl (by decide) (by decide)
  · replace hw := hw.2 c2
    refine g_aload_n C0 dX3_isThere_10 0 rfl ?_
    refine g_get C0 dX3_isThere_11 0 rfl 0 rfl rfl hinX3 (by decide) (List.mem_of_getElem? (i := 1) rfl) rfl ?_
    refine g_iload_n C0 dX3_isThere_14 1 rfl ?_
    obtain ⟨h3, hw⟩ := hw
    refine g_iald C0 (cA := E.I) dX3_isThere_15 1 rfl h3 ?_
    refine g_if_le C0 (tgt := 23) dX3_isThere_16 (by decide) (fun c4 => ?_) (fun c4 => ?_)
    · replace hw := hw.1 c4
      refine g_iconst C0 (v := 0) dX3_isThere_23 (by decide) ?_
      exact g_zret C0 R1 (b := false) dX3_isThere_24 false rfl hw [0, 1] (by decide) rfl (by decide) (by decide)
    · replace hw := hw.2 c4
      refine g_iconst C0 (v := 1) dX3_isThere_19 (by decide) ?_
      refine g_goto C0 (tgt := 24) dX3_isThere_20 (by decide) ?_
      exact g_zret C0 R1 (b := true) dX3_isThere_24 true rfl hw [0, 1] (by decide) rfl (by decide) (by decide)
def w_X3_bits (t_hours : Nat → Int32) (Q : Int32 → Prop) : Prop := ∃ n11 : Nat, wL2 (fun (K3 : Int32 → Int32 → Prop) (x1_1 : Int32) (x2_2 : Int32) => (7 ≤ x2_2 → Q x1_1) ∧ (¬ 7 ≤ x2_2 → w_X3_isThere x2_2 t_hours (fun (r5 : Bool) => wj1 (fun (J7 : Int32 → Prop) => (r5 = false → J7 x1_1) ∧ (r5 = true → ∀ x1_10 : Int32, x1_10 = (x1_1 ||| (1 <<< (x2_2 &&& 31))) → (J7 x1_10))) (fun (x1_6 : Int32) => ∀ x2_8 : Int32, x2_8 = (x2_2 + 1) → (K3 x1_6 x2_8))))) n11 0 0
theorem ddV_X3_bits : yX3_bits.cls = RX3 ∧ yX3_bits.cls ≠ "java/lang/invoke/MethodHandle" ∧ yX3_bits.cls ≠ "java/lang/invoke/VarHandle" ∧ (parseMethodDescriptor yX3_bits.desc).map (fun d => d.parameters.length) = some 0 := by decide +kernel
set_option maxHeartbeats 4000000 in
set_option maxRecDepth 100000 in
theorem c_X3_bits (l : Launch) (E : gE) (q_t q_t_hours q_t_needs q_t_freeAt q_t_order q_t_starts q_t_bestOrder q_t_bestStarts : Nat) (t_bestEnd : Int32) (t_clamps : Int32) (t_there : Int32) (t_solvedClamps : Int32) (t_hours : Nat → Int32) (Q : Int32 → Prop) (hw : w_X3_bits t_hours Q) : Ct l E yX3_bits wsX3_bits { frames := 2, cells := 0, slots := 0, locals := 43 } [.ref q_t] [ob 3 q_t [.ref q_t_hours, .ref q_t_needs, .ref q_t_freeAt, .ref q_t_order, .ref q_t_starts, .ref q_t_bestOrder, .ref q_t_bestStarts, .int t_bestEnd, .int t_clamps, .int t_there, .int t_solvedClamps], aI E.I q_t_hours 7 t_hours] (S := Int32) (fun u => some (.int u)) (fun u => Q u) (fun u => [ob 3 q_t [.ref q_t_hours, .ref q_t_needs, .ref q_t_freeAt, .ref q_t_order, .ref q_t_starts, .ref q_t_bestOrder, .ref q_t_bestStarts, .int t_bestEnd, .int t_clamps, .int t_there, .int t_solvedClamps], aI E.I q_t_hours 7 t_hours]) := by
  unfold w_X3_bits at hw
  refine g_start (cc := cX3_bits) (nL := 3) (own := RX3) (ret := (some .int)) rfl (by decide) rfl (Nat.le_of_ble_eq_true rfl) (lv0 := [(0, .ref q_t)]) rfl (fun X C0 R1 => ?_)
  refine g_iconst C0 (v := 0) dX3_bits_0 (by decide) ?_
  refine g_istore_n C0 (lv2 := [(1, .int 0), (0, .ref q_t)]) dX3_bits_1 (by decide) rfl ?_
  refine g_iconst C0 (v := 0) dX3_bits_2 (by decide) ?_
  refine g_istore_n C0 (lv2 := [(2, .int 0), (1, .int 0), (0, .ref q_t)]) dX3_bits_3 (by decide) rfl ?_
  refine g_lv [2, 1, 0] (lv2 := [(0, .ref q_t), (1, .int 0), (2, .int 0)]) rfl ?_
  obtain ⟨n11, hw⟩ := hw
  refine wL2_go (P := fun (x1_1 : Int32) (x2_2 : Int32) => G X E 3 [ob 3 q_t [.ref q_t_hours, .ref q_t_needs, .ref q_t_freeAt, .ref q_t_order, .ref q_t_starts, .ref q_t_bestOrder, .ref q_t_bestStarts, .int t_bestEnd, .int t_clamps, .int t_there, .int t_solvedClamps], aI E.I q_t_hours 7 t_hours] 0 0 4 [(0, .ref q_t), (1, .int x1_1), (2, .int x2_2)] []) (fun K3 hK3 x1_1 x2_2 hw => ?_) n11 _ _ hw
  refine g_iload_n C0 dX3_bits_4 2 rfl ?_
  refine g_bipush C0 (v := 7) dX3_bits_5 (by decide) ?_
  refine g_icmp_ge C0 (tgt := 30) dX3_bits_7 (by decide) (fun c4 => ?_) (fun c4 => ?_)
  · replace hw := hw.1 c4
    refine g_iload_n C0 dX3_bits_30 1 rfl ?_
    exact g_iret C0 R1 dX3_bits_31 x1_1 rfl hw [0, 1] (by decide) rfl (by decide) (by decide)
  · replace hw := hw.2 c4
    refine g_aload_n C0 dX3_bits_10 0 rfl ?_
    refine g_iload_n C0 dX3_bits_11 2 rfl ?_
    refine g_callV C0 (q0 := 0) (ci := 3) (c_X3_isThere l E q_t q_t_hours q_t_needs q_t_freeAt q_t_order q_t_starts q_t_bestOrder q_t_bestStarts x2_2 t_bestEnd t_clamps t_there t_solvedClamps t_hours _ hw) dX3_bits_12 gX3_bits_X3_isThere rfl ddV_X3_isThere rfl (by decide) (by decide) rfl (Nat.le_of_ble_eq_true rfl) [0, 1] [] rfl (wr := []) rfl (by decide) (by decide) (by decide) rfl rfl (fun u hw => ?_)
    obtain ⟨r5, hu_⟩ : ∃ z, z = u := ⟨_, rfl⟩
    subst hu_
    try dsimp only at hw
    show G X E 3 [ob 3 q_t [.ref q_t_hours, .ref q_t_needs, .ref q_t_freeAt, .ref q_t_order, .ref q_t_starts, .ref q_t_bestOrder, .ref q_t_bestStarts, .int t_bestEnd, .int t_clamps, .int t_there, .int t_solvedClamps], aI E.I q_t_hours 7 t_hours] 0 0 15 [(0, .ref q_t), (1, .int x1_1), (2, .int x2_2)] [.int (bI r5)]
    refine wj1_go (P := fun (x1_6 : Int32) => G X E 3 [ob 3 q_t [.ref q_t_hours, .ref q_t_needs, .ref q_t_freeAt, .ref q_t_order, .ref q_t_starts, .ref q_t_bestOrder, .ref q_t_bestStarts, .int t_bestEnd, .int t_clamps, .int t_there, .int t_solvedClamps], aI E.I q_t_hours 7 t_hours] 0 0 24 [(0, .ref q_t), (1, .int x1_6), (2, .int x2_2)] []) hw (fun x1_6 hw => ?_) (fun J7 hJ7 hw => ?_)
    · obtain ⟨x2_8, ex2_8⟩ : ∃ y : Int32, y = x2_2 + 1 := ⟨_, rfl⟩
      replace hw := hw x2_8 ex2_8
      refine g_iinc C0 (v := x2_8) (lv2 := [(2, .int x2_8), (0, .ref q_t), (1, .int x1_6)]) dX3_bits_24 2 rfl (by rw [ex2_8]; rfl) (by decide) rfl ?_
      refine g_goto C0 (tgt := 4) dX3_bits_27 (by decide) ?_
      refine g_lv [1, 2, 0] (lv2 := [(0, .ref q_t), (1, .int x1_6), (2, .int x2_8)]) rfl ?_
      exact hK3 _ _ hw
    · refine g_ifb_eq C0 (tgt := 24) dX3_bits_15 (by decide) (fun c9 => ?_) (fun c9 => ?_)
      · replace hw := hw.1 c9
        exact hJ7 _ hw
      · replace hw := hw.2 c9
        refine g_iload_n C0 dX3_bits_18 1 rfl ?_
        refine g_iconst C0 (v := 1) dX3_bits_19 (by decide) ?_
        refine g_iload_n C0 dX3_bits_20 2 rfl ?_
        refine g_ishl C0 dX3_bits_21 ?_
        refine g_ior C0 dX3_bits_22 ?_
        refine g_topi (fun x1_10 ex1_10 => ?_)
        replace hw := hw x1_10 ex1_10
        refine g_istore_n C0 (lv2 := [(1, .int x1_10), (0, .ref q_t), (2, .int x2_2)]) dX3_bits_23 (by decide) rfl ?_
        refine g_lv [1, 0, 2] (lv2 := [(0, .ref q_t), (1, .int x1_10), (2, .int x2_2)]) rfl ?_
        exact hJ7 _ hw
def w_X3_end (t_bestEnd : Int32) (Q : Int32 → Prop) : Prop := Q t_bestEnd
theorem ddV_X3_end : yX3_end.cls = RX3 ∧ yX3_end.cls ≠ "java/lang/invoke/MethodHandle" ∧ yX3_end.cls ≠ "java/lang/invoke/VarHandle" ∧ (parseMethodDescriptor yX3_end.desc).map (fun d => d.parameters.length) = some 0 := by decide +kernel
set_option maxHeartbeats 4000000 in
set_option maxRecDepth 100000 in
theorem c_X3_end (l : Launch) (E : gE) (q_t q_t_hours q_t_needs q_t_freeAt q_t_order q_t_starts q_t_bestOrder q_t_bestStarts : Nat) (t_bestEnd : Int32) (t_clamps : Int32) (t_there : Int32) (t_solvedClamps : Int32) (Q : Int32 → Prop) (hw : w_X3_end t_bestEnd Q) : Ct l E yX3_end wsX3_end { frames := 0, cells := 0, slots := 0, locals := 0 } [.ref q_t] [ob 3 q_t [.ref q_t_hours, .ref q_t_needs, .ref q_t_freeAt, .ref q_t_order, .ref q_t_starts, .ref q_t_bestOrder, .ref q_t_bestStarts, .int t_bestEnd, .int t_clamps, .int t_there, .int t_solvedClamps]] (S := Int32) (fun u => some (.int u)) (fun u => Q u) (fun u => [ob 3 q_t [.ref q_t_hours, .ref q_t_needs, .ref q_t_freeAt, .ref q_t_order, .ref q_t_starts, .ref q_t_bestOrder, .ref q_t_bestStarts, .int t_bestEnd, .int t_clamps, .int t_there, .int t_solvedClamps]]) := by
  unfold w_X3_end at hw
  have hinX3 : ∀ w ∈ wsX30, w ∈ wsX3_end := fun _ h => List.mem_cons_of_mem _ (List.mem_append_right _ h)
  refine g_start (cc := cX3_end) (nL := 1) (own := RX3) (ret := (some .int)) rfl (by decide) rfl (Nat.le_of_ble_eq_true rfl) (lv0 := [(0, .ref q_t)]) rfl (fun X C0 R1 => ?_)
  refine g_aload_n C0 dX3_end_0 0 rfl ?_
  refine g_get C0 dX3_end_1 0 rfl 7 rfl rfl hinX3 (by decide) (List.mem_of_getElem? (i := 1) rfl) rfl ?_
  exact g_iret C0 R1 dX3_end_4 t_bestEnd rfl hw [0] (by decide) rfl (by decide) (by decide)
def w_X3_inOrder (p0 : Int32) (t_there : Int32) (t_bestOrder : Nat → Int32) (Q : Int32 → Prop) : Prop := w_X9_within p0 0 (t_there - 1) (fun (r1 : Bool) => (r1 = false → Q (-6)) ∧ (r1 = true → (7 ≤ p0 → Q (-6)) ∧ (¬ 7 ≤ p0 → vp_in p0 7 ∧ (Q (t_bestOrder (Int32.toNatClampNeg p0))))))
theorem ddV_X3_inOrder : yX3_inOrder.cls = RX3 ∧ yX3_inOrder.cls ≠ "java/lang/invoke/MethodHandle" ∧ yX3_inOrder.cls ≠ "java/lang/invoke/VarHandle" ∧ (parseMethodDescriptor yX3_inOrder.desc).map (fun d => d.parameters.length) = some 1 := by decide +kernel
set_option maxHeartbeats 4000000 in
set_option maxRecDepth 100000 in
theorem c_X3_inOrder (l : Launch) (E : gE) (q_t q_t_hours q_t_needs q_t_freeAt q_t_order q_t_starts q_t_bestOrder q_t_bestStarts : Nat) (p0 : Int32) (t_bestEnd : Int32) (t_clamps : Int32) (t_there : Int32) (t_solvedClamps : Int32) (t_bestOrder : Nat → Int32) (Q : Int32 → Prop) (hw : w_X3_inOrder p0 t_there t_bestOrder Q) : Ct l E yX3_inOrder wsX3_inOrder { frames := 1, cells := 0, slots := 0, locals := 22 } [.ref q_t, .int p0] [ob 3 q_t [.ref q_t_hours, .ref q_t_needs, .ref q_t_freeAt, .ref q_t_order, .ref q_t_starts, .ref q_t_bestOrder, .ref q_t_bestStarts, .int t_bestEnd, .int t_clamps, .int t_there, .int t_solvedClamps], aI E.I q_t_bestOrder 7 t_bestOrder] (S := Int32) (fun u => some (.int u)) (fun u => Q u) (fun u => [ob 3 q_t [.ref q_t_hours, .ref q_t_needs, .ref q_t_freeAt, .ref q_t_order, .ref q_t_starts, .ref q_t_bestOrder, .ref q_t_bestStarts, .int t_bestEnd, .int t_clamps, .int t_there, .int t_solvedClamps], aI E.I q_t_bestOrder 7 t_bestOrder]) := by
  unfold w_X3_inOrder at hw
  have hinX3 : ∀ w ∈ wsX30, w ∈ wsX3_inOrder := fun _ h => List.mem_cons_of_mem _ (List.mem_append_right _ h)
  refine g_start (cc := cX3_inOrder) (nL := 2) (own := RX3) (ret := (some .int)) rfl (by decide) rfl (Nat.le_of_ble_eq_true rfl) (lv0 := [(0, .ref q_t), (1, .int p0)]) rfl (fun X C0 R1 => ?_)
  refine g_iload_n C0 dX3_inOrder_0 1 rfl ?_
  refine g_iconst C0 (v := 0) dX3_inOrder_1 (by decide) ?_
  refine g_aload_n C0 dX3_inOrder_2 0 rfl ?_
  refine g_get C0 dX3_inOrder_3 0 rfl 9 rfl rfl hinX3 (by decide) (List.mem_of_getElem? (i := 1) rfl) rfl ?_
  refine g_iconst C0 (v := 1) dX3_inOrder_6 (by decide) ?_
  refine g_isub C0 dX3_inOrder_7 ?_
  refine g_callN C0 (c_X9_within l E p0 0 (t_there - 1) _ hw) dX3_inOrder_8 gX3_inOrder_X9_within_n33 rfl (List.mem_of_getElem? (i := 1) rfl) (List.mem_of_getElem? (i := 4) rfl) (List.mem_of_getElem? (i := 3) rfl) ddS_X9_within rfl (by decide) (by decide) rfl (Nat.le_of_ble_eq_true rfl) [] [0, 1] rfl (wr := [ob 3 q_t [.ref q_t_hours, .ref q_t_needs, .ref q_t_freeAt, .ref q_t_order, .ref q_t_starts, .ref q_t_bestOrder, .ref q_t_bestStarts, .int t_bestEnd, .int t_clamps, .int t_there, .int t_solvedClamps], aI E.I q_t_bestOrder 7 t_bestOrder]) rfl (by decide) (by decide) (by decide) (fun u hw => ?_)
  obtain ⟨r1, hu_⟩ : ∃ z, z = u := ⟨_, rfl⟩
  subst hu_
  try dsimp only at hw
  show G X E 2 [ob 3 q_t [.ref q_t_hours, .ref q_t_needs, .ref q_t_freeAt, .ref q_t_order, .ref q_t_starts, .ref q_t_bestOrder, .ref q_t_bestStarts, .int t_bestEnd, .int t_clamps, .int t_there, .int t_solvedClamps], aI E.I q_t_bestOrder 7 t_bestOrder] 0 0 11 [(0, .ref q_t), (1, .int p0)] [.int (bI r1)]
  refine g_ifb_eq C0 (tgt := 29) dX3_inOrder_11 (by decide) (fun c2 => ?_) (fun c2 => ?_)
  · replace hw := hw.1 c2
    refine g_bipush C0 (v := (-6)) dX3_inOrder_29 (by decide) ?_
    exact g_iret C0 R1 dX3_inOrder_31 (-6) rfl hw [0, 1] (by decide) rfl (by decide) (by decide)
  · replace hw := hw.2 c2
    refine g_iload_n C0 dX3_inOrder_14 1 rfl ?_
    refine g_bipush C0 (v := 7) dX3_inOrder_15 (by decide) ?_
    refine g_icmp_ge C0 (tgt := 29) dX3_inOrder_17 (by decide) (fun c3 => ?_) (fun c3 => ?_)
    · replace hw := hw.1 c3
      refine g_bipush C0 (v := (-6)) dX3_inOrder_29 (by decide) ?_
      exact g_iret C0 R1 dX3_inOrder_31 (-6) rfl hw [0, 1] (by decide) rfl (by decide) (by decide)
    · replace hw := hw.2 c3
      refine g_aload_n C0 dX3_inOrder_20 0 rfl ?_
      refine g_get C0 dX3_inOrder_21 0 rfl 5 rfl rfl hinX3 (by decide) (List.mem_of_getElem? (i := 2) rfl) rfl ?_
      refine g_iload_n C0 dX3_inOrder_24 1 rfl ?_
      obtain ⟨h4, hw⟩ := hw
      refine g_iald C0 (cA := E.I) dX3_inOrder_25 1 rfl h4 ?_
      refine g_goto C0 (tgt := 31) dX3_inOrder_26 (by decide) ?_
      exact g_iret C0 R1 dX3_inOrder_31 (t_bestOrder (Int32.toNatClampNeg p0)) rfl hw [0, 1] (by decide) rfl (by decide) (by decide)
def w_X3_startOf (p0 : Int32) (t_hours : Nat → Int32) (t_bestStarts : Nat → Int32) (Q : Int32 → Prop) : Prop := w_X3_isThere p0 t_hours (fun (r1 : Bool) => (r1 = false → Q (-1)) ∧ (r1 = true → vp_in p0 7 ∧ (Q (t_bestStarts (Int32.toNatClampNeg p0)))))
theorem ddV_X3_startOf : yX3_startOf.cls = RX3 ∧ yX3_startOf.cls ≠ "java/lang/invoke/MethodHandle" ∧ yX3_startOf.cls ≠ "java/lang/invoke/VarHandle" ∧ (parseMethodDescriptor yX3_startOf.desc).map (fun d => d.parameters.length) = some 1 := by decide +kernel
set_option maxHeartbeats 4000000 in
set_option maxRecDepth 100000 in
theorem c_X3_startOf (l : Launch) (E : gE) (q_t q_t_hours q_t_needs q_t_freeAt q_t_order q_t_starts q_t_bestOrder q_t_bestStarts : Nat) (p0 : Int32) (t_bestEnd : Int32) (t_clamps : Int32) (t_there : Int32) (t_solvedClamps : Int32) (t_hours : Nat → Int32) (t_bestStarts : Nat → Int32) (Q : Int32 → Prop) (hw : w_X3_startOf p0 t_hours t_bestStarts Q) : Ct l E yX3_startOf wsX3_startOf { frames := 2, cells := 0, slots := 0, locals := 43 } [.ref q_t, .int p0] [ob 3 q_t [.ref q_t_hours, .ref q_t_needs, .ref q_t_freeAt, .ref q_t_order, .ref q_t_starts, .ref q_t_bestOrder, .ref q_t_bestStarts, .int t_bestEnd, .int t_clamps, .int t_there, .int t_solvedClamps], aI E.I q_t_hours 7 t_hours, aI E.I q_t_bestStarts 7 t_bestStarts] (S := Int32) (fun u => some (.int u)) (fun u => Q u) (fun u => [ob 3 q_t [.ref q_t_hours, .ref q_t_needs, .ref q_t_freeAt, .ref q_t_order, .ref q_t_starts, .ref q_t_bestOrder, .ref q_t_bestStarts, .int t_bestEnd, .int t_clamps, .int t_there, .int t_solvedClamps], aI E.I q_t_hours 7 t_hours, aI E.I q_t_bestStarts 7 t_bestStarts]) := by
  unfold w_X3_startOf at hw
  have hinX3 : ∀ w ∈ wsX30, w ∈ wsX3_startOf := fun _ h => List.mem_cons_of_mem _ (List.mem_append_right _ h)
  refine g_start (cc := cX3_startOf) (nL := 2) (own := RX3) (ret := (some .int)) rfl (by decide) rfl (Nat.le_of_ble_eq_true rfl) (lv0 := [(0, .ref q_t), (1, .int p0)]) rfl (fun X C0 R1 => ?_)
  refine g_aload_n C0 dX3_startOf_0 0 rfl ?_
  refine g_iload_n C0 dX3_startOf_1 1 rfl ?_
  refine g_callV C0 (q0 := 0) (ci := 3) (c_X3_isThere l E q_t q_t_hours q_t_needs q_t_freeAt q_t_order q_t_starts q_t_bestOrder q_t_bestStarts p0 t_bestEnd t_clamps t_there t_solvedClamps t_hours _ hw) dX3_startOf_2 gX3_startOf_X3_isThere rfl ddV_X3_isThere rfl (by decide) (by decide) rfl (Nat.le_of_ble_eq_true rfl) [0, 1] [2] rfl (wr := [aI E.I q_t_bestStarts 7 t_bestStarts]) rfl (by decide) (by decide) (by decide) rfl rfl (fun u hw => ?_)
  obtain ⟨r1, hu_⟩ : ∃ z, z = u := ⟨_, rfl⟩
  subst hu_
  try dsimp only at hw
  show G X E 2 [aI E.I q_t_bestStarts 7 t_bestStarts, ob 3 q_t [.ref q_t_hours, .ref q_t_needs, .ref q_t_freeAt, .ref q_t_order, .ref q_t_starts, .ref q_t_bestOrder, .ref q_t_bestStarts, .int t_bestEnd, .int t_clamps, .int t_there, .int t_solvedClamps], aI E.I q_t_hours 7 t_hours] 0 0 5 [(0, .ref q_t), (1, .int p0)] [.int (bI r1)]
  refine g_ifb_eq C0 (tgt := 17) dX3_startOf_5 (by decide) (fun c2 => ?_) (fun c2 => ?_)
  · replace hw := hw.1 c2
    refine g_iconst C0 (v := (-1)) dX3_startOf_17 (by decide) ?_
    exact g_iret C0 R1 dX3_startOf_18 (-1) rfl hw [1, 2, 0] (by decide) rfl (by decide) (by decide)
  · replace hw := hw.2 c2
    refine g_aload_n C0 dX3_startOf_8 0 rfl ?_
    refine g_get C0 dX3_startOf_9 1 rfl 6 rfl rfl hinX3 (by decide) (List.mem_of_getElem? (i := 1) rfl) rfl ?_
    refine g_iload_n C0 dX3_startOf_12 1 rfl ?_
    obtain ⟨h3, hw⟩ := hw
    refine g_iald C0 (cA := E.I) dX3_startOf_13 0 rfl h3 ?_
    refine g_goto C0 (tgt := 18) dX3_startOf_14 (by decide) ?_
    exact g_iret C0 R1 dX3_startOf_18 (t_bestStarts (Int32.toNatClampNeg p0)) rfl hw [1, 2, 0] (by decide) rfl (by decide) (by decide)
def w_X3_canAllBeCured (t_hours : Nat → Int32) (t_needs : Nat → Int32) (Q : Bool → Prop) : Prop := ∃ n21 : Nat, wL2 (fun (K3 : Int32 → Int32 → Prop) (x1_1 : Int32) (x2_2 : Int32) => (7 ≤ x2_2 → w_X3_bits t_hours (fun (r5 : Int32) => (¬ x1_1 = r5 → Q false) ∧ (x1_1 = r5 → Q true))) ∧ (¬ 7 ≤ x2_2 → ∃ n20 : Nat, wL2 (fun (K9 : Int32 → Int32 → Prop) (x1_7 : Int32) (x3_8 : Int32) => (7 ≤ x3_8 → ∀ x2_11 : Int32, x2_11 = (x2_2 + 1) → (K3 x1_7 x2_11)) ∧ (¬ 7 ≤ x3_8 → w_X3_isThere x3_8 t_hours (fun (r12 : Bool) => wj1 (fun (J14 : Int32 → Prop) => (r12 = false → J14 x1_7) ∧ (r12 = true → vp_in x3_8 7 ∧ ((¬ ((t_needs (Int32.toNatClampNeg x3_8)) &&& (x1_7 ^^^ (-1))) = 0 → J14 x1_7) ∧ (((t_needs (Int32.toNatClampNeg x3_8)) &&& (x1_7 ^^^ (-1))) = 0 → ∀ x1_19 : Int32, x1_19 = (x1_7 ||| (1 <<< (x3_8 &&& 31))) → (J14 x1_19))))) (fun (x1_13 : Int32) => ∀ x3_15 : Int32, x3_15 = (x3_8 + 1) → (K9 x1_13 x3_15))))) n20 x1_1 0)) n21 0 0
theorem ddV_X3_canAllBeCured : yX3_canAllBeCured.cls = RX3 ∧ yX3_canAllBeCured.cls ≠ "java/lang/invoke/MethodHandle" ∧ yX3_canAllBeCured.cls ≠ "java/lang/invoke/VarHandle" ∧ (parseMethodDescriptor yX3_canAllBeCured.desc).map (fun d => d.parameters.length) = some 0 := by decide +kernel
set_option maxHeartbeats 4000000 in
set_option maxRecDepth 100000 in
theorem c_X3_canAllBeCured (l : Launch) (E : gE) (q_t q_t_hours q_t_needs q_t_freeAt q_t_order q_t_starts q_t_bestOrder q_t_bestStarts : Nat) (t_bestEnd : Int32) (t_clamps : Int32) (t_there : Int32) (t_solvedClamps : Int32) (t_hours : Nat → Int32) (t_needs : Nat → Int32) (Q : Bool → Prop) (hw : w_X3_canAllBeCured t_hours t_needs Q) : Ct l E yX3_canAllBeCured wsX3_canAllBeCured { frames := 3, cells := 0, slots := 0, locals := 65 } [.ref q_t] [ob 3 q_t [.ref q_t_hours, .ref q_t_needs, .ref q_t_freeAt, .ref q_t_order, .ref q_t_starts, .ref q_t_bestOrder, .ref q_t_bestStarts, .int t_bestEnd, .int t_clamps, .int t_there, .int t_solvedClamps], aI E.I q_t_hours 7 t_hours, aI E.I q_t_needs 7 t_needs] (S := Bool) (fun u => some (.int (bI u))) (fun u => Q u) (fun u => [ob 3 q_t [.ref q_t_hours, .ref q_t_needs, .ref q_t_freeAt, .ref q_t_order, .ref q_t_starts, .ref q_t_bestOrder, .ref q_t_bestStarts, .int t_bestEnd, .int t_clamps, .int t_there, .int t_solvedClamps], aI E.I q_t_hours 7 t_hours, aI E.I q_t_needs 7 t_needs]) := by
  unfold w_X3_canAllBeCured at hw
  have hinX3 : ∀ w ∈ wsX30, w ∈ wsX3_canAllBeCured := fun _ h => List.mem_cons_of_mem _ (List.mem_append_right _ h)
  refine g_start (cc := cX3_canAllBeCured) (nL := 4) (own := RX3) (ret := (some .boolean)) rfl (by decide) rfl (Nat.le_of_ble_eq_true rfl) (lv0 := [(0, .ref q_t)]) rfl (fun X C0 R1 => ?_)
  refine g_iconst C0 (v := 0) dX3_canAllBeCured_0 (by decide) ?_
  refine g_istore_n C0 (lv2 := [(1, .int 0), (0, .ref q_t)]) dX3_canAllBeCured_1 (by decide) rfl ?_
  refine g_iconst C0 (v := 0) dX3_canAllBeCured_2 (by decide) ?_
  refine g_istore_n C0 (lv2 := [(2, .int 0), (1, .int 0), (0, .ref q_t)]) dX3_canAllBeCured_3 (by decide) rfl ?_
  refine g_lv [2, 1, 0] (lv2 := [(0, .ref q_t), (1, .int 0), (2, .int 0)]) rfl ?_
  obtain ⟨n21, hw⟩ := hw
  refine wL2_go (P := fun (x1_1 : Int32) (x2_2 : Int32) => G X E 4 [ob 3 q_t [.ref q_t_hours, .ref q_t_needs, .ref q_t_freeAt, .ref q_t_order, .ref q_t_starts, .ref q_t_bestOrder, .ref q_t_bestStarts, .int t_bestEnd, .int t_clamps, .int t_there, .int t_solvedClamps], aI E.I q_t_hours 7 t_hours, aI E.I q_t_needs 7 t_needs] 0 0 4 [(0, .ref q_t), (1, .int x1_1), (2, .int x2_2)] []) (fun K3 hK3 x1_1 x2_2 hw => ?_) n21 _ _ hw
  refine g_iload_n C0 dX3_canAllBeCured_4 2 rfl ?_
  refine g_bipush C0 (v := 7) dX3_canAllBeCured_5 (by decide) ?_
  refine g_icmp_ge C0 (tgt := 57) dX3_canAllBeCured_7 (by decide) (fun c4 => ?_) (fun c4 => ?_)
  · replace hw := hw.1 c4
    refine g_iload_n C0 dX3_canAllBeCured_57 1 rfl ?_
    refine g_aload_n C0 dX3_canAllBeCured_58 0 rfl ?_
    refine g_callV C0 (q0 := 0) (ci := 3) (c_X3_bits l E q_t q_t_hours q_t_needs q_t_freeAt q_t_order q_t_starts q_t_bestOrder q_t_bestStarts t_bestEnd t_clamps t_there t_solvedClamps t_hours _ hw) dX3_canAllBeCured_59 gX3_canAllBeCured_X3_bits rfl ddV_X3_bits rfl (by decide) (by decide) rfl (Nat.le_of_ble_eq_true rfl) [0, 1] [2] rfl (wr := [aI E.I q_t_needs 7 t_needs]) rfl (by decide) (by decide) (by decide) rfl rfl (fun u hw => ?_)
    obtain ⟨r5, hu_⟩ : ∃ z, z = u := ⟨_, rfl⟩
    subst hu_
    try dsimp only at hw
    show G X E 4 [aI E.I q_t_needs 7 t_needs, ob 3 q_t [.ref q_t_hours, .ref q_t_needs, .ref q_t_freeAt, .ref q_t_order, .ref q_t_starts, .ref q_t_bestOrder, .ref q_t_bestStarts, .int t_bestEnd, .int t_clamps, .int t_there, .int t_solvedClamps], aI E.I q_t_hours 7 t_hours] 0 0 62 [(0, .ref q_t), (1, .int x1_1), (2, .int x2_2)] [.int r5, .int x1_1]
    refine g_icmp_ne C0 (tgt := 69) dX3_canAllBeCured_62 (by decide) (fun c6 => ?_) (fun c6 => ?_)
    · replace hw := hw.1 c6
      refine g_iconst C0 (v := 0) dX3_canAllBeCured_69 (by decide) ?_
      exact g_zret C0 R1 (b := false) dX3_canAllBeCured_70 false rfl hw [1, 2, 0] (by decide) rfl (by decide) (by decide)
    · replace hw := hw.2 c6
      refine g_iconst C0 (v := 1) dX3_canAllBeCured_65 (by decide) ?_
      refine g_goto C0 (tgt := 70) dX3_canAllBeCured_66 (by decide) ?_
      exact g_zret C0 R1 (b := true) dX3_canAllBeCured_70 true rfl hw [1, 2, 0] (by decide) rfl (by decide) (by decide)
  · replace hw := hw.2 c4
    refine g_iconst C0 (v := 0) dX3_canAllBeCured_10 (by decide) ?_
    refine g_istore_n C0 (lv2 := [(3, .int 0), (0, .ref q_t), (1, .int x1_1), (2, .int x2_2)]) dX3_canAllBeCured_11 (by decide) rfl ?_
    refine g_lv [1, 2, 3, 0] (lv2 := [(0, .ref q_t), (1, .int x1_1), (2, .int x2_2), (3, .int 0)]) rfl ?_
    obtain ⟨n20, hw⟩ := hw
    refine wL2_go (P := fun (x1_7 : Int32) (x3_8 : Int32) => G X E 4 [ob 3 q_t [.ref q_t_hours, .ref q_t_needs, .ref q_t_freeAt, .ref q_t_order, .ref q_t_starts, .ref q_t_bestOrder, .ref q_t_bestStarts, .int t_bestEnd, .int t_clamps, .int t_there, .int t_solvedClamps], aI E.I q_t_hours 7 t_hours, aI E.I q_t_needs 7 t_needs] 0 0 12 [(0, .ref q_t), (1, .int x1_7), (2, .int x2_2), (3, .int x3_8)] []) (fun K9 hK9 x1_7 x3_8 hw => ?_) n20 _ _ hw
    refine g_iload_n C0 dX3_canAllBeCured_12 3 rfl ?_
    refine g_bipush C0 (v := 7) dX3_canAllBeCured_13 (by decide) ?_
    refine g_icmp_ge C0 (tgt := 51) dX3_canAllBeCured_15 (by decide) (fun c10 => ?_) (fun c10 => ?_)
    · replace hw := hw.1 c10
      obtain ⟨x2_11, ex2_11⟩ : ∃ y : Int32, y = x2_2 + 1 := ⟨_, rfl⟩
      replace hw := hw x2_11 ex2_11
      refine g_iinc C0 (v := x2_11) (lv2 := [(2, .int x2_11), (0, .ref q_t), (1, .int x1_7), (3, .int x3_8)]) dX3_canAllBeCured_51 2 rfl (by rw [ex2_11]; rfl) (by decide) rfl ?_
      refine g_goto C0 (tgt := 4) dX3_canAllBeCured_54 (by decide) ?_
      refine g_lv [1, 2, 0] (lv2 := [(0, .ref q_t), (1, .int x1_7), (2, .int x2_11)]) rfl ?_
      exact hK3 _ _ hw
    · replace hw := hw.2 c10
      refine g_aload_n C0 dX3_canAllBeCured_18 0 rfl ?_
      refine g_iload_n C0 dX3_canAllBeCured_19 3 rfl ?_
      refine g_callV C0 (q0 := 0) (ci := 3) (c_X3_isThere l E q_t q_t_hours q_t_needs q_t_freeAt q_t_order q_t_starts q_t_bestOrder q_t_bestStarts x3_8 t_bestEnd t_clamps t_there t_solvedClamps t_hours _ hw) dX3_canAllBeCured_20 gX3_canAllBeCured_X3_isThere rfl ddV_X3_isThere rfl (by decide) (by decide) rfl (Nat.le_of_ble_eq_true rfl) [0, 1] [2] rfl (wr := [aI E.I q_t_needs 7 t_needs]) rfl (by decide) (by decide) (by decide) rfl rfl (fun u hw => ?_)
      obtain ⟨r12, hu_⟩ : ∃ z, z = u := ⟨_, rfl⟩
      subst hu_
      try dsimp only at hw
      show G X E 4 [aI E.I q_t_needs 7 t_needs, ob 3 q_t [.ref q_t_hours, .ref q_t_needs, .ref q_t_freeAt, .ref q_t_order, .ref q_t_starts, .ref q_t_bestOrder, .ref q_t_bestStarts, .int t_bestEnd, .int t_clamps, .int t_there, .int t_solvedClamps], aI E.I q_t_hours 7 t_hours] 0 0 23 [(0, .ref q_t), (1, .int x1_7), (2, .int x2_2), (3, .int x3_8)] [.int (bI r12)]
      refine wj1_go (P := fun (x1_13 : Int32) => G X E 4 [ob 3 q_t [.ref q_t_hours, .ref q_t_needs, .ref q_t_freeAt, .ref q_t_order, .ref q_t_starts, .ref q_t_bestOrder, .ref q_t_bestStarts, .int t_bestEnd, .int t_clamps, .int t_there, .int t_solvedClamps], aI E.I q_t_hours 7 t_hours, aI E.I q_t_needs 7 t_needs] 0 0 45 [(0, .ref q_t), (1, .int x1_13), (2, .int x2_2), (3, .int x3_8)] []) hw (fun x1_13 hw => ?_) (fun J14 hJ14 hw => ?_)
      · obtain ⟨x3_15, ex3_15⟩ : ∃ y : Int32, y = x3_8 + 1 := ⟨_, rfl⟩
        replace hw := hw x3_15 ex3_15
        refine g_iinc C0 (v := x3_15) (lv2 := [(3, .int x3_15), (0, .ref q_t), (1, .int x1_13), (2, .int x2_2)]) dX3_canAllBeCured_45 3 rfl (by rw [ex3_15]; rfl) (by decide) rfl ?_
        refine g_goto C0 (tgt := 12) dX3_canAllBeCured_48 (by decide) ?_
        refine g_lv [1, 2, 3, 0] (lv2 := [(0, .ref q_t), (1, .int x1_13), (2, .int x2_2), (3, .int x3_15)]) rfl ?_
        exact hK9 _ _ hw
      · refine g_ifb_eq C0 (tgt := 45) dX3_canAllBeCured_23 (by decide) (fun c16 => ?_) (fun c16 => ?_)
        · replace hw := hw.1 c16
          refine g_re [1, 2, 0] (by decide) (ws2 := [ob 3 q_t [.ref q_t_hours, .ref q_t_needs, .ref q_t_freeAt, .ref q_t_order, .ref q_t_starts, .ref q_t_bestOrder, .ref q_t_bestStarts, .int t_bestEnd, .int t_clamps, .int t_there, .int t_solvedClamps], aI E.I q_t_hours 7 t_hours, aI E.I q_t_needs 7 t_needs]) rfl ?_
          exact hJ14 _ hw
        · replace hw := hw.2 c16
          refine g_aload_n C0 dX3_canAllBeCured_26 0 rfl ?_
          refine g_get C0 dX3_canAllBeCured_27 1 rfl 1 rfl rfl hinX3 (by decide) (List.mem_of_getElem? (i := 1) rfl) rfl ?_
          refine g_iload_n C0 dX3_canAllBeCured_30 3 rfl ?_
          obtain ⟨h17, hw⟩ := hw
          refine g_iald C0 (cA := E.I) dX3_canAllBeCured_31 0 rfl h17 ?_
          refine g_iload_n C0 dX3_canAllBeCured_32 1 rfl ?_
          refine g_iconst C0 (v := (-1)) dX3_canAllBeCured_33 (by decide) ?_
          refine g_ixor C0 dX3_canAllBeCured_34 ?_
          refine g_iand C0 dX3_canAllBeCured_35 ?_
          refine g_if_ne C0 (tgt := 45) dX3_canAllBeCured_36 (by decide) (fun c18 => ?_) (fun c18 => ?_)
          · replace hw := hw.1 c18
            refine g_re [1, 2, 0] (by decide) (ws2 := [ob 3 q_t [.ref q_t_hours, .ref q_t_needs, .ref q_t_freeAt, .ref q_t_order, .ref q_t_starts, .ref q_t_bestOrder, .ref q_t_bestStarts, .int t_bestEnd, .int t_clamps, .int t_there, .int t_solvedClamps], aI E.I q_t_hours 7 t_hours, aI E.I q_t_needs 7 t_needs]) rfl ?_
            exact hJ14 _ hw
          · replace hw := hw.2 c18
            refine g_iload_n C0 dX3_canAllBeCured_39 1 rfl ?_
            refine g_iconst C0 (v := 1) dX3_canAllBeCured_40 (by decide) ?_
            refine g_iload_n C0 dX3_canAllBeCured_41 3 rfl ?_
            refine g_ishl C0 dX3_canAllBeCured_42 ?_
            refine g_ior C0 dX3_canAllBeCured_43 ?_
            refine g_topi (fun x1_19 ex1_19 => ?_)
            replace hw := hw x1_19 ex1_19
            refine g_istore_n C0 (lv2 := [(1, .int x1_19), (0, .ref q_t), (2, .int x2_2), (3, .int x3_8)]) dX3_canAllBeCured_44 (by decide) rfl ?_
            refine g_lv [1, 0, 2, 3] (lv2 := [(0, .ref q_t), (1, .int x1_19), (2, .int x2_2), (3, .int x3_8)]) rfl ?_
            refine g_re [1, 2, 0] (by decide) (ws2 := [ob 3 q_t [.ref q_t_hours, .ref q_t_needs, .ref q_t_freeAt, .ref q_t_order, .ref q_t_starts, .ref q_t_bestOrder, .ref q_t_bestStarts, .int t_bestEnd, .int t_clamps, .int t_there, .int t_solvedClamps], aI E.I q_t_hours 7 t_hours, aI E.I q_t_needs 7 t_needs]) rfl ?_
            exact hJ14 _ hw
def w_X3_keep (p0 : Int32) (t_order : Nat → Int32) (t_bestOrder : Nat → Int32) (t_starts : Nat → Int32) (t_bestStarts : Nat → Int32) (Q : Int32 → (Nat → Int32) → (Nat → Int32) → Prop) : Prop := ∃ n13 : Nat, wL3 (fun (K4 : Int32 → (Nat → Int32) → (Nat → Int32) → Prop) (x2_1 : Int32) (t_bestOrder_2 : Nat → Int32) (t_bestStarts_3 : Nat → Int32) => (7 ≤ x2_1 → Q p0 t_bestOrder_2 t_bestStarts_3) ∧ (¬ 7 ≤ x2_1 → vp_in x2_1 7 ∧ (∀ f7 : Int32, f7 = (t_order (Int32.toNatClampNeg x2_1)) → (vp_in x2_1 7 ∧ (vp_in x2_1 7 ∧ (∀ f10 : Int32, f10 = (t_starts (Int32.toNatClampNeg x2_1)) → (vp_in x2_1 7 ∧ (∀ x2_12 : Int32, x2_12 = (x2_1 + 1) → (K4 x2_12 (upd t_bestOrder_2 (Int32.toNatClampNeg x2_1) f7) (upd t_bestStarts_3 (Int32.toNatClampNeg x2_1) f10)))))))))) n13 0 t_bestOrder t_bestStarts
theorem ddV_X3_keep : yX3_keep.cls = RX3 ∧ yX3_keep.cls ≠ "java/lang/invoke/MethodHandle" ∧ yX3_keep.cls ≠ "java/lang/invoke/VarHandle" ∧ (parseMethodDescriptor yX3_keep.desc).map (fun d => d.parameters.length) = some 1 := by decide +kernel
set_option maxHeartbeats 4000000 in
set_option maxRecDepth 100000 in
theorem c_X3_keep (l : Launch) (E : gE) (q_t q_t_hours q_t_needs q_t_freeAt q_t_order q_t_starts q_t_bestOrder q_t_bestStarts : Nat) (p0 : Int32) (t_bestEnd : Int32) (t_clamps : Int32) (t_there : Int32) (t_solvedClamps : Int32) (t_order : Nat → Int32) (t_bestOrder : Nat → Int32) (t_starts : Nat → Int32) (t_bestStarts : Nat → Int32) (Q : Int32 → (Nat → Int32) → (Nat → Int32) → Prop) (hw : w_X3_keep p0 t_order t_bestOrder t_starts t_bestStarts Q) : Ct l E yX3_keep wsX3_keep { frames := 0, cells := 0, slots := 0, locals := 0 } [.ref q_t, .int p0] [ob 3 q_t [.ref q_t_hours, .ref q_t_needs, .ref q_t_freeAt, .ref q_t_order, .ref q_t_starts, .ref q_t_bestOrder, .ref q_t_bestStarts, .int t_bestEnd, .int t_clamps, .int t_there, .int t_solvedClamps], aI E.I q_t_order 7 t_order, aI E.I q_t_bestOrder 7 t_bestOrder, aI E.I q_t_starts 7 t_starts, aI E.I q_t_bestStarts 7 t_bestStarts] (S := Int32 × (Nat → Int32) × (Nat → Int32)) (fun _ => none) (fun u => Q u.1 u.2.1 u.2.2) (fun u => [ob 3 q_t [.ref q_t_hours, .ref q_t_needs, .ref q_t_freeAt, .ref q_t_order, .ref q_t_starts, .ref q_t_bestOrder, .ref q_t_bestStarts, .int u.1, .int t_clamps, .int t_there, .int t_solvedClamps], aI E.I q_t_order 7 t_order, aI E.I q_t_bestOrder 7 u.2.1, aI E.I q_t_starts 7 t_starts, aI E.I q_t_bestStarts 7 u.2.2]) := by
  unfold w_X3_keep at hw
  have hinX3 : ∀ w ∈ wsX30, w ∈ wsX3_keep := fun _ h => List.mem_cons_of_mem _ (List.mem_append_right _ h)
  refine g_start (cc := cX3_keep) (nL := 3) (own := RX3) (ret := none) rfl (by decide) rfl (Nat.le_of_ble_eq_true rfl) (lv0 := [(0, .ref q_t), (1, .int p0)]) rfl (fun X C0 R1 => ?_)
  refine g_aload_n C0 dX3_keep_0 0 rfl ?_
  refine g_iload_n C0 dX3_keep_1 1 rfl ?_
  refine g_put C0 (ws2 := [ob 3 q_t [.ref q_t_hours, .ref q_t_needs, .ref q_t_freeAt, .ref q_t_order, .ref q_t_starts, .ref q_t_bestOrder, .ref q_t_bestStarts, .int p0, .int t_clamps, .int t_there, .int t_solvedClamps], aI E.I q_t_order 7 t_order, aI E.I q_t_bestOrder 7 t_bestOrder, aI E.I q_t_starts 7 t_starts, aI E.I q_t_bestStarts 7 t_bestStarts]) dX3_keep_2 0 rfl 7 rfl hinX3 tyX3 tyX3_ok nmX3 (by decide) (List.mem_of_getElem? (i := 1) rfl) rfl rfl (tyX3_ok 7 (by decide)) rfl rfl (Nat.le_of_ble_eq_true rfl) rfl ?_
  refine g_iconst C0 (v := 0) dX3_keep_5 (by decide) ?_
  refine g_istore_n C0 (lv2 := [(2, .int 0), (0, .ref q_t), (1, .int p0)]) dX3_keep_6 (by decide) rfl ?_
  refine g_lv [1, 0] (lv2 := [(0, .ref q_t), (2, .int 0)]) rfl ?_
  obtain ⟨n13, hw⟩ := hw
  refine wL3_go (P := fun (x2_1 : Int32) (t_bestOrder_2 : Nat → Int32) (t_bestStarts_3 : Nat → Int32) => G X E 3 [ob 3 q_t [.ref q_t_hours, .ref q_t_needs, .ref q_t_freeAt, .ref q_t_order, .ref q_t_starts, .ref q_t_bestOrder, .ref q_t_bestStarts, .int p0, .int t_clamps, .int t_there, .int t_solvedClamps], aI E.I q_t_order 7 t_order, aI E.I q_t_bestOrder 7 t_bestOrder_2, aI E.I q_t_starts 7 t_starts, aI E.I q_t_bestStarts 7 t_bestStarts_3] 0 0 7 [(0, .ref q_t), (2, .int x2_1)] []) (fun K4 hK4 x2_1 t_bestOrder_2 t_bestStarts_3 hw => ?_) n13 _ _ _ hw
  refine g_iload_n C0 dX3_keep_7 1 rfl ?_
  refine g_bipush C0 (v := 7) dX3_keep_8 (by decide) ?_
  refine g_icmp_ge C0 (tgt := 43) dX3_keep_10 (by decide) (fun c5 => ?_) (fun c5 => ?_)
  · replace hw := hw.1 c5
    exact g_vret C0 R1 dX3_keep_43 (p0, t_bestOrder_2, t_bestStarts_3) rfl hw [0, 1, 2, 3, 4] (by decide) rfl (by decide) (by decide)
  · replace hw := hw.2 c5
    refine g_aload_n C0 dX3_keep_13 0 rfl ?_
    refine g_get C0 dX3_keep_14 0 rfl 5 rfl rfl hinX3 (by decide) (List.mem_of_getElem? (i := 2) rfl) rfl ?_
    refine g_iload_n C0 dX3_keep_17 1 rfl ?_
    refine g_aload_n C0 dX3_keep_18 0 rfl ?_
    refine g_get C0 dX3_keep_19 0 rfl 3 rfl rfl hinX3 (by decide) (List.mem_of_getElem? (i := 3) rfl) rfl ?_
    refine g_iload_n C0 dX3_keep_22 1 rfl ?_
    obtain ⟨h6, hw⟩ := hw
    refine g_iald C0 (cA := E.I) dX3_keep_23 1 rfl h6 ?_
    refine g_topi (fun f7 ef7 => ?_)
    replace hw := hw f7 ef7
    obtain ⟨h8, hw⟩ := hw
    refine g_iast C0 (ws2 := [ob 3 q_t [.ref q_t_hours, .ref q_t_needs, .ref q_t_freeAt, .ref q_t_order, .ref q_t_starts, .ref q_t_bestOrder, .ref q_t_bestStarts, .int p0, .int t_clamps, .int t_there, .int t_solvedClamps], aI E.I q_t_order 7 t_order, aI E.I q_t_bestOrder 7 (upd t_bestOrder_2 (Int32.toNatClampNeg x2_1) f7), aI E.I q_t_starts 7 t_starts, aI E.I q_t_bestStarts 7 t_bestStarts_3]) dX3_keep_24 2 rfl h8 rfl ?_
    refine g_aload_n C0 dX3_keep_25 0 rfl ?_
    refine g_get C0 dX3_keep_26 0 rfl 6 rfl rfl hinX3 (by decide) (List.mem_of_getElem? (i := 4) rfl) rfl ?_
    refine g_iload_n C0 dX3_keep_29 1 rfl ?_
    refine g_aload_n C0 dX3_keep_30 0 rfl ?_
    refine g_get C0 dX3_keep_31 0 rfl 4 rfl rfl hinX3 (by decide) (List.mem_of_getElem? (i := 5) rfl) rfl ?_
    refine g_iload_n C0 dX3_keep_34 1 rfl ?_
    obtain ⟨h9, hw⟩ := hw
    refine g_iald C0 (cA := E.I) dX3_keep_35 3 rfl h9 ?_
    refine g_topi (fun f10 ef10 => ?_)
    replace hw := hw f10 ef10
    obtain ⟨h11, hw⟩ := hw
    refine g_iast C0 (ws2 := [ob 3 q_t [.ref q_t_hours, .ref q_t_needs, .ref q_t_freeAt, .ref q_t_order, .ref q_t_starts, .ref q_t_bestOrder, .ref q_t_bestStarts, .int p0, .int t_clamps, .int t_there, .int t_solvedClamps], aI E.I q_t_order 7 t_order, aI E.I q_t_bestOrder 7 (upd t_bestOrder_2 (Int32.toNatClampNeg x2_1) f7), aI E.I q_t_starts 7 t_starts, aI E.I q_t_bestStarts 7 (upd t_bestStarts_3 (Int32.toNatClampNeg x2_1) f10)]) dX3_keep_36 4 rfl h11 rfl ?_
    obtain ⟨x2_12, ex2_12⟩ : ∃ y : Int32, y = x2_1 + 1 := ⟨_, rfl⟩
    replace hw := hw x2_12 ex2_12
    refine g_iinc C0 (v := x2_12) (lv2 := [(2, .int x2_12), (0, .ref q_t)]) dX3_keep_37 1 rfl (by rw [ex2_12]; rfl) (by decide) rfl ?_
    refine g_goto C0 (tgt := 7) dX3_keep_40 (by decide) ?_
    refine g_lv [1, 0] (lv2 := [(0, .ref q_t), (2, .int x2_12)]) rfl ?_
    exact hK4 _ _ _ hw
def w_X3_cannotEndSooner (p0 : Int32) (t_bestEnd : Int32) (t_clamps : Int32) (t_hours : Nat → Int32) (t_freeAt : Nat → Int32) (Q : Bool → Prop) : Prop := ∃ n20 : Nat, wL2 (fun (K3 : Int32 → Int32 → Prop) (x2_1 : Int32) (x3_2 : Int32) => (t_clamps ≤ x3_2 → ∃ n16 : Nat, wL2 (fun (K7 : Int32 → Int32 → Prop) (x2_5 : Int32) (x3_6 : Int32) => (7 ≤ x3_6 → (x2_5 ≤ (t_clamps * (t_bestEnd - 1)) → Q false) ∧ (¬ x2_5 ≤ (t_clamps * (t_bestEnd - 1)) → Q true)) ∧ (¬ 7 ≤ x3_6 → wj1 (fun (J11 : Int32 → Prop) => (¬ (p0 &&& (1 <<< (x3_6 &&& 31))) = 0 → J11 x2_5) ∧ ((p0 &&& (1 <<< (x3_6 &&& 31))) = 0 → vp_in x3_6 7 ∧ (∀ x2_15 : Int32, x2_15 = (x2_5 + (t_hours (Int32.toNatClampNeg x3_6))) → (J11 x2_15)))) (fun (x2_10 : Int32) => ∀ x3_12 : Int32, x3_12 = (x3_6 + 1) → (K7 x2_10 x3_12)))) n16 x2_1 0) ∧ (¬ t_clamps ≤ x3_2 → vp_in x3_2 3 ∧ (∀ x2_18 : Int32, x2_18 = (x2_1 + (t_freeAt (Int32.toNatClampNeg x3_2))) → (∀ x3_19 : Int32, x3_19 = (x3_2 + 1) → (K3 x2_18 x3_19))))) n20 0 0
theorem ddV_X3_cannotEndSooner : yX3_cannotEndSooner.cls = RX3 ∧ yX3_cannotEndSooner.cls ≠ "java/lang/invoke/MethodHandle" ∧ yX3_cannotEndSooner.cls ≠ "java/lang/invoke/VarHandle" ∧ (parseMethodDescriptor yX3_cannotEndSooner.desc).map (fun d => d.parameters.length) = some 1 := by decide +kernel
set_option maxHeartbeats 4000000 in
set_option maxRecDepth 100000 in
theorem c_X3_cannotEndSooner (l : Launch) (E : gE) (q_t q_t_hours q_t_needs q_t_freeAt q_t_order q_t_starts q_t_bestOrder q_t_bestStarts : Nat) (p0 : Int32) (t_bestEnd : Int32) (t_clamps : Int32) (t_there : Int32) (t_solvedClamps : Int32) (t_hours : Nat → Int32) (t_freeAt : Nat → Int32) (Q : Bool → Prop) (hw : w_X3_cannotEndSooner p0 t_bestEnd t_clamps t_hours t_freeAt Q) : Ct l E yX3_cannotEndSooner wsX3_cannotEndSooner { frames := 0, cells := 0, slots := 0, locals := 0 } [.ref q_t, .int p0] [ob 3 q_t [.ref q_t_hours, .ref q_t_needs, .ref q_t_freeAt, .ref q_t_order, .ref q_t_starts, .ref q_t_bestOrder, .ref q_t_bestStarts, .int t_bestEnd, .int t_clamps, .int t_there, .int t_solvedClamps], aI E.I q_t_hours 7 t_hours, aI E.I q_t_freeAt 3 t_freeAt] (S := Bool) (fun u => some (.int (bI u))) (fun u => Q u) (fun u => [ob 3 q_t [.ref q_t_hours, .ref q_t_needs, .ref q_t_freeAt, .ref q_t_order, .ref q_t_starts, .ref q_t_bestOrder, .ref q_t_bestStarts, .int t_bestEnd, .int t_clamps, .int t_there, .int t_solvedClamps], aI E.I q_t_hours 7 t_hours, aI E.I q_t_freeAt 3 t_freeAt]) := by
  unfold w_X3_cannotEndSooner at hw
  have hinX3 : ∀ w ∈ wsX30, w ∈ wsX3_cannotEndSooner := fun _ h => List.mem_cons_of_mem _ (List.mem_append_right _ h)
  refine g_start (cc := cX3_cannotEndSooner) (nL := 4) (own := RX3) (ret := (some .boolean)) rfl (by decide) rfl (Nat.le_of_ble_eq_true rfl) (lv0 := [(0, .ref q_t), (1, .int p0)]) rfl (fun X C0 R1 => ?_)
  refine g_iconst C0 (v := 0) dX3_cannotEndSooner_0 (by decide) ?_
  refine g_istore_n C0 (lv2 := [(2, .int 0), (0, .ref q_t), (1, .int p0)]) dX3_cannotEndSooner_1 (by decide) rfl ?_
  refine g_iconst C0 (v := 0) dX3_cannotEndSooner_2 (by decide) ?_
  refine g_istore_n C0 (lv2 := [(3, .int 0), (2, .int 0), (0, .ref q_t), (1, .int p0)]) dX3_cannotEndSooner_3 (by decide) rfl ?_
  refine g_lv [2, 3, 1, 0] (lv2 := [(0, .ref q_t), (1, .int p0), (2, .int 0), (3, .int 0)]) rfl ?_
  obtain ⟨n20, hw⟩ := hw
  refine wL2_go (P := fun (x2_1 : Int32) (x3_2 : Int32) => G X E 4 [ob 3 q_t [.ref q_t_hours, .ref q_t_needs, .ref q_t_freeAt, .ref q_t_order, .ref q_t_starts, .ref q_t_bestOrder, .ref q_t_bestStarts, .int t_bestEnd, .int t_clamps, .int t_there, .int t_solvedClamps], aI E.I q_t_hours 7 t_hours, aI E.I q_t_freeAt 3 t_freeAt] 0 0 4 [(0, .ref q_t), (1, .int p0), (2, .int x2_1), (3, .int x3_2)] []) (fun K3 hK3 x2_1 x3_2 hw => ?_) n20 _ _ hw
  refine g_iload_n C0 dX3_cannotEndSooner_4 3 rfl ?_
  refine g_aload_n C0 dX3_cannotEndSooner_5 0 rfl ?_
  refine g_get C0 dX3_cannotEndSooner_6 0 rfl 8 rfl rfl hinX3 (by decide) (List.mem_of_getElem? (i := 1) rfl) rfl ?_
  refine g_icmp_ge C0 (tgt := 27) dX3_cannotEndSooner_9 (by decide) (fun c4 => ?_) (fun c4 => ?_)
  · replace hw := hw.1 c4
    refine g_iconst C0 (v := 0) dX3_cannotEndSooner_27 (by decide) ?_
    refine g_istore_n C0 (lv2 := [(3, .int 0), (0, .ref q_t), (1, .int p0), (2, .int x2_1)]) dX3_cannotEndSooner_28 (by decide) rfl ?_
    refine g_lv [1, 2, 3, 0] (lv2 := [(0, .ref q_t), (1, .int p0), (2, .int x2_1), (3, .int 0)]) rfl ?_
    obtain ⟨n16, hw⟩ := hw
    refine wL2_go (P := fun (x2_5 : Int32) (x3_6 : Int32) => G X E 4 [ob 3 q_t [.ref q_t_hours, .ref q_t_needs, .ref q_t_freeAt, .ref q_t_order, .ref q_t_starts, .ref q_t_bestOrder, .ref q_t_bestStarts, .int t_bestEnd, .int t_clamps, .int t_there, .int t_solvedClamps], aI E.I q_t_hours 7 t_hours, aI E.I q_t_freeAt 3 t_freeAt] 0 0 29 [(0, .ref q_t), (1, .int p0), (2, .int x2_5), (3, .int x3_6)] []) (fun K7 hK7 x2_5 x3_6 hw => ?_) n16 _ _ hw
    refine g_iload_n C0 dX3_cannotEndSooner_29 3 rfl ?_
    refine g_bipush C0 (v := 7) dX3_cannotEndSooner_30 (by decide) ?_
    refine g_icmp_ge C0 (tgt := 58) dX3_cannotEndSooner_32 (by decide) (fun c8 => ?_) (fun c8 => ?_)
    · replace hw := hw.1 c8
      refine g_iload_n C0 dX3_cannotEndSooner_58 2 rfl ?_
      refine g_aload_n C0 dX3_cannotEndSooner_59 0 rfl ?_
      refine g_get C0 dX3_cannotEndSooner_60 0 rfl 8 rfl rfl hinX3 (by decide) (List.mem_of_getElem? (i := 1) rfl) rfl ?_
      refine g_aload_n C0 dX3_cannotEndSooner_63 0 rfl ?_
      refine g_get C0 dX3_cannotEndSooner_64 0 rfl 7 rfl rfl hinX3 (by decide) (List.mem_of_getElem? (i := 4) rfl) rfl ?_
      refine g_iconst C0 (v := 1) dX3_cannotEndSooner_67 (by decide) ?_
      refine g_isub C0 dX3_cannotEndSooner_68 ?_
      refine g_imul C0 dX3_cannotEndSooner_69 ?_
      refine g_icmp_le C0 (tgt := 77) dX3_cannotEndSooner_70 (by decide) (fun c9 => ?_) (fun c9 => ?_)
      · replace hw := hw.1 c9
        refine g_iconst C0 (v := 0) dX3_cannotEndSooner_77 (by decide) ?_
        exact g_zret C0 R1 (b := false) dX3_cannotEndSooner_78 false rfl hw [0, 1, 2] (by decide) rfl (by decide) (by decide)
      · replace hw := hw.2 c9
        refine g_iconst C0 (v := 1) dX3_cannotEndSooner_73 (by decide) ?_
        refine g_goto C0 (tgt := 78) dX3_cannotEndSooner_74 (by decide) ?_
        exact g_zret C0 R1 (b := true) dX3_cannotEndSooner_78 true rfl hw [0, 1, 2] (by decide) rfl (by decide) (by decide)
    · replace hw := hw.2 c8
      refine g_iload_n C0 dX3_cannotEndSooner_35 1 rfl ?_
      refine g_iconst C0 (v := 1) dX3_cannotEndSooner_36 (by decide) ?_
      refine g_iload_n C0 dX3_cannotEndSooner_37 3 rfl ?_
      refine g_ishl C0 dX3_cannotEndSooner_38 ?_
      refine g_iand C0 dX3_cannotEndSooner_39 ?_
      refine wj1_go (P := fun (x2_10 : Int32) => G X E 4 [ob 3 q_t [.ref q_t_hours, .ref q_t_needs, .ref q_t_freeAt, .ref q_t_order, .ref q_t_starts, .ref q_t_bestOrder, .ref q_t_bestStarts, .int t_bestEnd, .int t_clamps, .int t_there, .int t_solvedClamps], aI E.I q_t_hours 7 t_hours, aI E.I q_t_freeAt 3 t_freeAt] 0 0 52 [(0, .ref q_t), (1, .int p0), (2, .int x2_10), (3, .int x3_6)] []) hw (fun x2_10 hw => ?_) (fun J11 hJ11 hw => ?_)
      · obtain ⟨x3_12, ex3_12⟩ : ∃ y : Int32, y = x3_6 + 1 := ⟨_, rfl⟩
        replace hw := hw x3_12 ex3_12
        refine g_iinc C0 (v := x3_12) (lv2 := [(3, .int x3_12), (0, .ref q_t), (1, .int p0), (2, .int x2_10)]) dX3_cannotEndSooner_52 3 rfl (by rw [ex3_12]; rfl) (by decide) rfl ?_
        refine g_goto C0 (tgt := 29) dX3_cannotEndSooner_55 (by decide) ?_
        refine g_lv [1, 2, 3, 0] (lv2 := [(0, .ref q_t), (1, .int p0), (2, .int x2_10), (3, .int x3_12)]) rfl ?_
        exact hK7 _ _ hw
      · refine g_if_ne C0 (tgt := 52) dX3_cannotEndSooner_40 (by decide) (fun c13 => ?_) (fun c13 => ?_)
        · replace hw := hw.1 c13
          exact hJ11 _ hw
        · replace hw := hw.2 c13
          refine g_iload_n C0 dX3_cannotEndSooner_43 2 rfl ?_
          refine g_aload_n C0 dX3_cannotEndSooner_44 0 rfl ?_
          refine g_get C0 dX3_cannotEndSooner_45 0 rfl 0 rfl rfl hinX3 (by decide) (List.mem_of_getElem? (i := 3) rfl) rfl ?_
          refine g_iload_n C0 dX3_cannotEndSooner_48 3 rfl ?_
          obtain ⟨h14, hw⟩ := hw
          refine g_iald C0 (cA := E.I) dX3_cannotEndSooner_49 1 rfl h14 ?_
          refine g_iadd C0 dX3_cannotEndSooner_50 ?_
          refine g_topi (fun x2_15 ex2_15 => ?_)
          replace hw := hw x2_15 ex2_15
          refine g_istore_n C0 (lv2 := [(2, .int x2_15), (0, .ref q_t), (1, .int p0), (3, .int x3_6)]) dX3_cannotEndSooner_51 (by decide) rfl ?_
          refine g_lv [1, 2, 0, 3] (lv2 := [(0, .ref q_t), (1, .int p0), (2, .int x2_15), (3, .int x3_6)]) rfl ?_
          exact hJ11 _ hw
  · replace hw := hw.2 c4
    refine g_iload_n C0 dX3_cannotEndSooner_12 2 rfl ?_
    refine g_aload_n C0 dX3_cannotEndSooner_13 0 rfl ?_
    refine g_get C0 dX3_cannotEndSooner_14 0 rfl 2 rfl rfl hinX3 (by decide) (List.mem_of_getElem? (i := 2) rfl) rfl ?_
    refine g_iload_n C0 dX3_cannotEndSooner_17 3 rfl ?_
    obtain ⟨h17, hw⟩ := hw
    refine g_iald C0 (cA := E.I) dX3_cannotEndSooner_18 2 rfl h17 ?_
    refine g_iadd C0 dX3_cannotEndSooner_19 ?_
    refine g_topi (fun x2_18 ex2_18 => ?_)
    replace hw := hw x2_18 ex2_18
    refine g_istore_n C0 (lv2 := [(2, .int x2_18), (0, .ref q_t), (1, .int p0), (3, .int x3_2)]) dX3_cannotEndSooner_20 (by decide) rfl ?_
    obtain ⟨x3_19, ex3_19⟩ : ∃ y : Int32, y = x3_2 + 1 := ⟨_, rfl⟩
    replace hw := hw x3_19 ex3_19
    refine g_iinc C0 (v := x3_19) (lv2 := [(3, .int x3_19), (2, .int x2_18), (0, .ref q_t), (1, .int p0)]) dX3_cannotEndSooner_21 3 rfl (by rw [ex3_19]; rfl) (by decide) rfl ?_
    refine g_goto C0 (tgt := 4) dX3_cannotEndSooner_24 (by decide) ?_
    refine g_lv [2, 3, 1, 0] (lv2 := [(0, .ref q_t), (1, .int p0), (2, .int x2_18), (3, .int x3_19)]) rfl ?_
    exact hK3 _ _ hw
def w_X3_firstFreeClamp (t_clamps : Int32) (t_freeAt : Nat → Int32) (Q : Int32 → Prop) : Prop := ∃ n11 : Nat, wL2 (fun (K3 : Int32 → Int32 → Prop) (x1_1 : Int32) (x2_2 : Int32) => (t_clamps ≤ x2_2 → Q x1_1) ∧ (¬ t_clamps ≤ x2_2 → vp_in x2_2 3 ∧ (vp_in x1_1 3 ∧ (wj1 (fun (J8 : Int32 → Prop) => ((t_freeAt (Int32.toNatClampNeg x1_1)) ≤ (t_freeAt (Int32.toNatClampNeg x2_2)) → J8 x1_1) ∧ (¬ (t_freeAt (Int32.toNatClampNeg x1_1)) ≤ (t_freeAt (Int32.toNatClampNeg x2_2)) → J8 x2_2)) (fun (x1_7 : Int32) => ∀ x2_9 : Int32, x2_9 = (x2_2 + 1) → (K3 x1_7 x2_9)))))) n11 0 1
theorem ddV_X3_firstFreeClamp : yX3_firstFreeClamp.cls = RX3 ∧ yX3_firstFreeClamp.cls ≠ "java/lang/invoke/MethodHandle" ∧ yX3_firstFreeClamp.cls ≠ "java/lang/invoke/VarHandle" ∧ (parseMethodDescriptor yX3_firstFreeClamp.desc).map (fun d => d.parameters.length) = some 0 := by decide +kernel
set_option maxHeartbeats 4000000 in
set_option maxRecDepth 100000 in
theorem c_X3_firstFreeClamp (l : Launch) (E : gE) (q_t q_t_hours q_t_needs q_t_freeAt q_t_order q_t_starts q_t_bestOrder q_t_bestStarts : Nat) (t_bestEnd : Int32) (t_clamps : Int32) (t_there : Int32) (t_solvedClamps : Int32) (t_freeAt : Nat → Int32) (Q : Int32 → Prop) (hw : w_X3_firstFreeClamp t_clamps t_freeAt Q) : Ct l E yX3_firstFreeClamp wsX3_firstFreeClamp { frames := 0, cells := 0, slots := 0, locals := 0 } [.ref q_t] [ob 3 q_t [.ref q_t_hours, .ref q_t_needs, .ref q_t_freeAt, .ref q_t_order, .ref q_t_starts, .ref q_t_bestOrder, .ref q_t_bestStarts, .int t_bestEnd, .int t_clamps, .int t_there, .int t_solvedClamps], aI E.I q_t_freeAt 3 t_freeAt] (S := Int32) (fun u => some (.int u)) (fun u => Q u) (fun u => [ob 3 q_t [.ref q_t_hours, .ref q_t_needs, .ref q_t_freeAt, .ref q_t_order, .ref q_t_starts, .ref q_t_bestOrder, .ref q_t_bestStarts, .int t_bestEnd, .int t_clamps, .int t_there, .int t_solvedClamps], aI E.I q_t_freeAt 3 t_freeAt]) := by
  unfold w_X3_firstFreeClamp at hw
  have hinX3 : ∀ w ∈ wsX30, w ∈ wsX3_firstFreeClamp := fun _ h => List.mem_cons_of_mem _ (List.mem_append_right _ h)
  refine g_start (cc := cX3_firstFreeClamp) (nL := 3) (own := RX3) (ret := (some .int)) rfl (by decide) rfl (Nat.le_of_ble_eq_true rfl) (lv0 := [(0, .ref q_t)]) rfl (fun X C0 R1 => ?_)
  refine g_iconst C0 (v := 0) dX3_firstFreeClamp_0 (by decide) ?_
  refine g_istore_n C0 (lv2 := [(1, .int 0), (0, .ref q_t)]) dX3_firstFreeClamp_1 (by decide) rfl ?_
  refine g_iconst C0 (v := 1) dX3_firstFreeClamp_2 (by decide) ?_
  refine g_istore_n C0 (lv2 := [(2, .int 1), (1, .int 0), (0, .ref q_t)]) dX3_firstFreeClamp_3 (by decide) rfl ?_
  refine g_lv [2, 1, 0] (lv2 := [(0, .ref q_t), (1, .int 0), (2, .int 1)]) rfl ?_
  obtain ⟨n11, hw⟩ := hw
  refine wL2_go (P := fun (x1_1 : Int32) (x2_2 : Int32) => G X E 3 [ob 3 q_t [.ref q_t_hours, .ref q_t_needs, .ref q_t_freeAt, .ref q_t_order, .ref q_t_starts, .ref q_t_bestOrder, .ref q_t_bestStarts, .int t_bestEnd, .int t_clamps, .int t_there, .int t_solvedClamps], aI E.I q_t_freeAt 3 t_freeAt] 0 0 4 [(0, .ref q_t), (1, .int x1_1), (2, .int x2_2)] []) (fun K3 hK3 x1_1 x2_2 hw => ?_) n11 _ _ hw
  refine g_iload_n C0 dX3_firstFreeClamp_4 2 rfl ?_
  refine g_aload_n C0 dX3_firstFreeClamp_5 0 rfl ?_
  refine g_get C0 dX3_firstFreeClamp_6 0 rfl 8 rfl rfl hinX3 (by decide) (List.mem_of_getElem? (i := 1) rfl) rfl ?_
  refine g_icmp_ge C0 (tgt := 35) dX3_firstFreeClamp_9 (by decide) (fun c4 => ?_) (fun c4 => ?_)
  · replace hw := hw.1 c4
    refine g_iload_n C0 dX3_firstFreeClamp_35 1 rfl ?_
    exact g_iret C0 R1 dX3_firstFreeClamp_36 x1_1 rfl hw [0, 1] (by decide) rfl (by decide) (by decide)
  · replace hw := hw.2 c4
    refine g_aload_n C0 dX3_firstFreeClamp_12 0 rfl ?_
    refine g_get C0 dX3_firstFreeClamp_13 0 rfl 2 rfl rfl hinX3 (by decide) (List.mem_of_getElem? (i := 2) rfl) rfl ?_
    refine g_iload_n C0 dX3_firstFreeClamp_16 2 rfl ?_
    obtain ⟨h5, hw⟩ := hw
    refine g_iald C0 (cA := E.I) dX3_firstFreeClamp_17 1 rfl h5 ?_
    refine g_aload_n C0 dX3_firstFreeClamp_18 0 rfl ?_
    refine g_get C0 dX3_firstFreeClamp_19 0 rfl 2 rfl rfl hinX3 (by decide) (List.mem_of_getElem? (i := 2) rfl) rfl ?_
    refine g_iload_n C0 dX3_firstFreeClamp_22 1 rfl ?_
    obtain ⟨h6, hw⟩ := hw
    refine g_iald C0 (cA := E.I) dX3_firstFreeClamp_23 1 rfl h6 ?_
    refine wj1_go (P := fun (x1_7 : Int32) => G X E 3 [ob 3 q_t [.ref q_t_hours, .ref q_t_needs, .ref q_t_freeAt, .ref q_t_order, .ref q_t_starts, .ref q_t_bestOrder, .ref q_t_bestStarts, .int t_bestEnd, .int t_clamps, .int t_there, .int t_solvedClamps], aI E.I q_t_freeAt 3 t_freeAt] 0 0 29 [(0, .ref q_t), (1, .int x1_7), (2, .int x2_2)] []) hw (fun x1_7 hw => ?_) (fun J8 hJ8 hw => ?_)
    · obtain ⟨x2_9, ex2_9⟩ : ∃ y : Int32, y = x2_2 + 1 := ⟨_, rfl⟩
      replace hw := hw x2_9 ex2_9
      refine g_iinc C0 (v := x2_9) (lv2 := [(2, .int x2_9), (0, .ref q_t), (1, .int x1_7)]) dX3_firstFreeClamp_29 2 rfl (by rw [ex2_9]; rfl) (by decide) rfl ?_
      refine g_goto C0 (tgt := 4) dX3_firstFreeClamp_32 (by decide) ?_
      refine g_lv [1, 2, 0] (lv2 := [(0, .ref q_t), (1, .int x1_7), (2, .int x2_9)]) rfl ?_
      exact hK3 _ _ hw
    · refine g_icmp_ge C0 (tgt := 29) dX3_firstFreeClamp_24 (by decide) (fun c10 => ?_) (fun c10 => ?_)
      · replace hw := hw.1 c10
        exact hJ8 _ hw
      · replace hw := hw.2 c10
        refine g_iload_n C0 dX3_firstFreeClamp_27 2 rfl ?_
        refine g_istore_n C0 (lv2 := [(1, .int x2_2), (0, .ref q_t), (2, .int x2_2)]) dX3_firstFreeClamp_28 (by decide) rfl ?_
        refine g_lv [1, 0, 2] (lv2 := [(0, .ref q_t), (1, .int x2_2), (2, .int x2_2)]) rfl ?_
        exact hJ8 _ hw
def w_X3_needsCuredAt (p0 : Int32) (t_needs : Nat → Int32) (t_starts : Nat → Int32) (t_hours : Nat → Int32) (Q : Int32 → Prop) : Prop := ∃ n13 : Nat, wL2 (fun (K3 : Int32 → Int32 → Prop) (x2_1 : Int32) (x3_2 : Int32) => (7 ≤ x3_2 → Q x2_1) ∧ (¬ 7 ≤ x3_2 → vp_in p0 7 ∧ (wj1 (fun (J7 : Int32 → Prop) => (((t_needs (Int32.toNatClampNeg p0)) &&& (1 <<< (x3_2 &&& 31))) = 0 → J7 x2_1) ∧ (¬ ((t_needs (Int32.toNatClampNeg p0)) &&& (1 <<< (x3_2 &&& 31))) = 0 → vp_in x3_2 7 ∧ (vp_in x3_2 7 ∧ (∀ x2_12 : Int32, x2_12 = (if x2_1 < ((t_starts (Int32.toNatClampNeg x3_2)) + (t_hours (Int32.toNatClampNeg x3_2))) then ((t_starts (Int32.toNatClampNeg x3_2)) + (t_hours (Int32.toNatClampNeg x3_2))) else x2_1) → (J7 x2_12))))) (fun (x2_6 : Int32) => ∀ x3_8 : Int32, x3_8 = (x3_2 + 1) → (K3 x2_6 x3_8))))) n13 0 0
theorem ddV_X3_needsCuredAt : yX3_needsCuredAt.cls = RX3 ∧ yX3_needsCuredAt.cls ≠ "java/lang/invoke/MethodHandle" ∧ yX3_needsCuredAt.cls ≠ "java/lang/invoke/VarHandle" ∧ (parseMethodDescriptor yX3_needsCuredAt.desc).map (fun d => d.parameters.length) = some 1 := by decide +kernel
set_option maxHeartbeats 4000000 in
set_option maxRecDepth 100000 in
theorem c_X3_needsCuredAt (l : Launch) (E : gE) (q_t q_t_hours q_t_needs q_t_freeAt q_t_order q_t_starts q_t_bestOrder q_t_bestStarts : Nat) (p0 : Int32) (t_bestEnd : Int32) (t_clamps : Int32) (t_there : Int32) (t_solvedClamps : Int32) (t_needs : Nat → Int32) (t_starts : Nat → Int32) (t_hours : Nat → Int32) (Q : Int32 → Prop) (hw : w_X3_needsCuredAt p0 t_needs t_starts t_hours Q) : Ct l E yX3_needsCuredAt wsX3_needsCuredAt { frames := 1, cells := 0, slots := 0, locals := 21 } [.ref q_t, .int p0] [ob 3 q_t [.ref q_t_hours, .ref q_t_needs, .ref q_t_freeAt, .ref q_t_order, .ref q_t_starts, .ref q_t_bestOrder, .ref q_t_bestStarts, .int t_bestEnd, .int t_clamps, .int t_there, .int t_solvedClamps], aI E.I q_t_needs 7 t_needs, aI E.I q_t_starts 7 t_starts, aI E.I q_t_hours 7 t_hours] (S := Int32) (fun u => some (.int u)) (fun u => Q u) (fun u => [ob 3 q_t [.ref q_t_hours, .ref q_t_needs, .ref q_t_freeAt, .ref q_t_order, .ref q_t_starts, .ref q_t_bestOrder, .ref q_t_bestStarts, .int t_bestEnd, .int t_clamps, .int t_there, .int t_solvedClamps], aI E.I q_t_needs 7 t_needs, aI E.I q_t_starts 7 t_starts, aI E.I q_t_hours 7 t_hours]) := by
  unfold w_X3_needsCuredAt at hw
  have hinX3 : ∀ w ∈ wsX30, w ∈ wsX3_needsCuredAt := fun _ h => List.mem_cons_of_mem _ (List.mem_append_right _ h)
  refine g_start (cc := cX3_needsCuredAt) (nL := 4) (own := RX3) (ret := (some .int)) rfl (by decide) rfl (Nat.le_of_ble_eq_true rfl) (lv0 := [(0, .ref q_t), (1, .int p0)]) rfl (fun X C0 R1 => ?_)
  refine g_iconst C0 (v := 0) dX3_needsCuredAt_0 (by decide) ?_
  refine g_istore_n C0 (lv2 := [(2, .int 0), (0, .ref q_t), (1, .int p0)]) dX3_needsCuredAt_1 (by decide) rfl ?_
  refine g_iconst C0 (v := 0) dX3_needsCuredAt_2 (by decide) ?_
  refine g_istore_n C0 (lv2 := [(3, .int 0), (2, .int 0), (0, .ref q_t), (1, .int p0)]) dX3_needsCuredAt_3 (by decide) rfl ?_
  refine g_lv [2, 3, 1, 0] (lv2 := [(0, .ref q_t), (1, .int p0), (2, .int 0), (3, .int 0)]) rfl ?_
  obtain ⟨n13, hw⟩ := hw
  refine wL2_go (P := fun (x2_1 : Int32) (x3_2 : Int32) => G X E 4 [ob 3 q_t [.ref q_t_hours, .ref q_t_needs, .ref q_t_freeAt, .ref q_t_order, .ref q_t_starts, .ref q_t_bestOrder, .ref q_t_bestStarts, .int t_bestEnd, .int t_clamps, .int t_there, .int t_solvedClamps], aI E.I q_t_needs 7 t_needs, aI E.I q_t_starts 7 t_starts, aI E.I q_t_hours 7 t_hours] 0 0 4 [(0, .ref q_t), (1, .int p0), (2, .int x2_1), (3, .int x3_2)] []) (fun K3 hK3 x2_1 x3_2 hw => ?_) n13 _ _ hw
  refine g_iload_n C0 dX3_needsCuredAt_4 3 rfl ?_
  refine g_bipush C0 (v := 7) dX3_needsCuredAt_5 (by decide) ?_
  refine g_icmp_ge C0 (tgt := 47) dX3_needsCuredAt_7 (by decide) (fun c4 => ?_) (fun c4 => ?_)
  · replace hw := hw.1 c4
    refine g_iload_n C0 dX3_needsCuredAt_47 2 rfl ?_
    exact g_iret C0 R1 dX3_needsCuredAt_48 x2_1 rfl hw [0, 1, 2, 3] (by decide) rfl (by decide) (by decide)
  · replace hw := hw.2 c4
    refine g_aload_n C0 dX3_needsCuredAt_10 0 rfl ?_
    refine g_get C0 dX3_needsCuredAt_11 0 rfl 1 rfl rfl hinX3 (by decide) (List.mem_of_getElem? (i := 1) rfl) rfl ?_
    refine g_iload_n C0 dX3_needsCuredAt_14 1 rfl ?_
    obtain ⟨h5, hw⟩ := hw
    refine g_iald C0 (cA := E.I) dX3_needsCuredAt_15 1 rfl h5 ?_
    refine g_iconst C0 (v := 1) dX3_needsCuredAt_16 (by decide) ?_
    refine g_iload_n C0 dX3_needsCuredAt_17 3 rfl ?_
    refine g_ishl C0 dX3_needsCuredAt_18 ?_
    refine g_iand C0 dX3_needsCuredAt_19 ?_
    refine wj1_go (P := fun (x2_6 : Int32) => G X E 4 [ob 3 q_t [.ref q_t_hours, .ref q_t_needs, .ref q_t_freeAt, .ref q_t_order, .ref q_t_starts, .ref q_t_bestOrder, .ref q_t_bestStarts, .int t_bestEnd, .int t_clamps, .int t_there, .int t_solvedClamps], aI E.I q_t_needs 7 t_needs, aI E.I q_t_starts 7 t_starts, aI E.I q_t_hours 7 t_hours] 0 0 41 [(0, .ref q_t), (1, .int p0), (2, .int x2_6), (3, .int x3_2)] []) hw (fun x2_6 hw => ?_) (fun J7 hJ7 hw => ?_)
    · obtain ⟨x3_8, ex3_8⟩ : ∃ y : Int32, y = x3_2 + 1 := ⟨_, rfl⟩
      replace hw := hw x3_8 ex3_8
      refine g_iinc C0 (v := x3_8) (lv2 := [(3, .int x3_8), (0, .ref q_t), (1, .int p0), (2, .int x2_6)]) dX3_needsCuredAt_41 3 rfl (by rw [ex3_8]; rfl) (by decide) rfl ?_
      refine g_goto C0 (tgt := 4) dX3_needsCuredAt_44 (by decide) ?_
      refine g_lv [1, 2, 3, 0] (lv2 := [(0, .ref q_t), (1, .int p0), (2, .int x2_6), (3, .int x3_8)]) rfl ?_
      exact hK3 _ _ hw
    · refine g_if_eq C0 (tgt := 41) dX3_needsCuredAt_20 (by decide) (fun c9 => ?_) (fun c9 => ?_)
      · replace hw := hw.1 c9
        exact hJ7 _ hw
      · replace hw := hw.2 c9
        refine g_iload_n C0 dX3_needsCuredAt_23 2 rfl ?_
        refine g_aload_n C0 dX3_needsCuredAt_24 0 rfl ?_
        refine g_get C0 dX3_needsCuredAt_25 0 rfl 4 rfl rfl hinX3 (by decide) (List.mem_of_getElem? (i := 2) rfl) rfl ?_
        refine g_iload_n C0 dX3_needsCuredAt_28 3 rfl ?_
        obtain ⟨h10, hw⟩ := hw
        refine g_iald C0 (cA := E.I) dX3_needsCuredAt_29 2 rfl h10 ?_
        refine g_aload_n C0 dX3_needsCuredAt_30 0 rfl ?_
        refine g_get C0 dX3_needsCuredAt_31 0 rfl 0 rfl rfl hinX3 (by decide) (List.mem_of_getElem? (i := 3) rfl) rfl ?_
        refine g_iload_n C0 dX3_needsCuredAt_34 3 rfl ?_
        obtain ⟨h11, hw⟩ := hw
        refine g_iald C0 (cA := E.I) dX3_needsCuredAt_35 3 rfl h11 ?_
        refine g_iadd C0 dX3_needsCuredAt_36 ?_
        refine g_mmax C0 dX3_needsCuredAt_37 (List.mem_of_getElem? (i := 4) rfl) (List.mem_of_getElem? (i := 5) rfl) (List.mem_of_getElem? (i := 6) rfl) (List.mem_of_getElem? (i := 7) rfl) (by decide) (Nat.le_of_ble_eq_true rfl) (by decide) (by decide) ?_
        refine g_topi (fun x2_12 ex2_12 => ?_)
        replace hw := hw x2_12 ex2_12
        refine g_istore_n C0 (lv2 := [(2, .int x2_12), (0, .ref q_t), (1, .int p0), (3, .int x3_2)]) dX3_needsCuredAt_40 (by decide) rfl ?_
        refine g_lv [1, 2, 0, 3] (lv2 := [(0, .ref q_t), (1, .int p0), (2, .int x2_12), (3, .int x3_2)]) rfl ?_
        exact hJ7 _ hw
