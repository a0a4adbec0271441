def w_X4_soundAt (p0 : Int32) (p1 : Int32) (t_soundOf : Nat → Int32) (Q : Int32 → Prop) : Prop := ∀ x3_1 : Int32, x3_1 = ((p0 * 4) + p1) → (w_X9_within x3_1 0 (16 - 1) (fun (r2 : Bool) => (r2 = false → Q (-1)) ∧ (r2 = true → vp_in x3_1 16 ∧ (Q (t_soundOf (Int32.toNatClampNeg x3_1))))))
theorem ddV_X4_soundAt : yX4_soundAt.cls = RX4 ∧ yX4_soundAt.cls ≠ "java/lang/invoke/MethodHandle" ∧ yX4_soundAt.cls ≠ "java/lang/invoke/VarHandle" ∧ (parseMethodDescriptor yX4_soundAt.desc).map (fun d => d.parameters.length) = some 2 := by decide +kernel
set_option maxHeartbeats 4000000 in
set_option maxRecDepth 100000 in
theorem c_X4_soundAt (l : Launch) (E : gE) (q_t q_t_heard q_t_sheetOf q_t_soundOf q_t_ways q_t_nextWays : Nat) (p0 : Int32) (p1 : Int32) (t_soundOf : Nat → Int32) (Q : Int32 → Prop) (hw : w_X4_soundAt p0 p1 t_soundOf Q) : Ct l E yX4_soundAt wsX4_soundAt { frames := 1, cells := 0, slots := 0, locals := 22 } [.ref q_t, .int p0, .int p1] [ob 4 q_t [.ref q_t_heard, .ref q_t_sheetOf, .ref q_t_soundOf, .ref q_t_ways, .ref q_t_nextWays], aI E.I q_t_soundOf 16 t_soundOf] (S := Int32) (fun u => some (.int u)) (fun u => Q u) (fun u => [ob 4 q_t [.ref q_t_heard, .ref q_t_sheetOf, .ref q_t_soundOf, .ref q_t_ways, .ref q_t_nextWays], aI E.I q_t_soundOf 16 t_soundOf]) := by
  unfold w_X4_soundAt at hw
  have hinX4 : ∀ w ∈ wsX40, w ∈ wsX4_soundAt := fun _ h => List.mem_cons_of_mem _ (List.mem_append_right _ h)
  refine g_start (cc := cX4_soundAt) (nL := 4) (own := RX4) (ret := (some .int)) rfl (by decide) rfl (Nat.le_of_ble_eq_true rfl) (lv0 := [(0, .ref q_t), (1, .int p0), (2, .int p1)]) rfl (fun X C0 R1 => ?_)
  refine g_iload_n C0 dX4_soundAt_0 1 rfl ?_
  refine g_iconst C0 (v := 4) dX4_soundAt_1 (by decide) ?_
  refine g_imul C0 dX4_soundAt_2 ?_
  refine g_iload_n C0 dX4_soundAt_3 2 rfl ?_
  refine g_iadd C0 dX4_soundAt_4 ?_
  refine g_topi (fun x3_1 ex3_1 => ?_)
  replace hw := hw x3_1 ex3_1
  refine g_istore_n C0 (lv2 := [(3, .int x3_1), (0, .ref q_t), (1, .int p0), (2, .int p1)]) dX4_soundAt_5 (by decide) rfl ?_
  refine g_iload_n C0 dX4_soundAt_6 0 rfl ?_
  refine g_iconst C0 (v := 0) dX4_soundAt_7 (by decide) ?_
  refine g_aload_n C0 dX4_soundAt_8 1 rfl ?_
  refine g_get C0 dX4_soundAt_9 0 rfl 2 rfl rfl hinX4 (by decide) (List.mem_of_getElem? (i := 1) rfl) rfl ?_
  refine g_alen C0 (v := 16) dX4_soundAt_12 1 0 rfl rfl rfl ?_
  refine g_iconst C0 (v := 1) dX4_soundAt_13 (by decide) ?_
  refine g_isub C0 dX4_soundAt_14 ?_
  refine g_callN C0 (c_X9_within l E x3_1 0 (16 - 1) _ hw) dX4_soundAt_15 gX4_soundAt_X9_within_n33 rfl (List.mem_of_getElem? (i := 2) rfl) (List.mem_of_getElem? (i := 3) rfl) (List.mem_of_getElem? (i := 2) rfl) ddS_X9_within rfl (by decide) (by decide) rfl (Nat.le_of_ble_eq_true rfl) [] [0, 1] rfl (wr := [ob 4 q_t [.ref q_t_heard, .ref q_t_sheetOf, .ref q_t_soundOf, .ref q_t_ways, .ref q_t_nextWays], aI E.I q_t_soundOf 16 t_soundOf]) rfl (by decide) (by decide) (by decide) (fun u hw => ?_)
  obtain ⟨r2, hu_⟩ : ∃ z, z = u := ⟨_, rfl⟩
  subst hu_
  try dsimp only at hw
  show G X E 4 [ob 4 q_t [.ref q_t_heard, .ref q_t_sheetOf, .ref q_t_soundOf, .ref q_t_ways, .ref q_t_nextWays], aI E.I q_t_soundOf 16 t_soundOf] 0 0 18 [(3, .int x3_1), (0, .ref q_t), (1, .int p0), (2, .int p1)] [.int (bI r2)]
  refine g_ifb_eq C0 (tgt := 30) dX4_soundAt_18 (by decide) (fun c3 => ?_) (fun c3 => ?_)
  · replace hw := hw.1 c3
    refine g_iconst C0 (v := (-1)) dX4_soundAt_30 (by decide) ?_
    exact g_iret C0 R1 dX4_soundAt_31 (-1) rfl hw [0, 1] (by decide) rfl (by decide) (by decide)
  · replace hw := hw.2 c3
    refine g_aload_n C0 dX4_soundAt_21 1 rfl ?_
    refine g_get C0 dX4_soundAt_22 0 rfl 2 rfl rfl hinX4 (by decide) (List.mem_of_getElem? (i := 1) rfl) rfl ?_
    refine g_iload_n C0 dX4_soundAt_25 0 rfl ?_
    obtain ⟨h4, hw⟩ := hw
    refine g_iald C0 (cA := E.I) dX4_soundAt_26 1 rfl h4 ?_
    refine g_goto C0 (tgt := 31) dX4_soundAt_27 (by decide) ?_
    exact g_iret C0 R1 dX4_soundAt_31 (t_soundOf (Int32.toNatClampNeg x3_1)) rfl hw [0, 1] (by decide) rfl (by decide) (by decide)
def w_X4_gapsThatFit (p0 : Int32) (t_heard : Nat → Int32) (t_sheetOf : Nat → Int32) (t_soundOf : Nat → Int32) (Q : Int32 → Prop) : Prop := w_X9_within p0 0 9 (fun (r1 : Bool) => (r1 = true → vp_in p0 10 ∧ (∀ x2_4 : Int32, x2_4 = (t_heard (Int32.toNatClampNeg p0)) → (∃ n18 : Nat, wL2 (fun (K7 : Int32 → Int32 → Prop) (x3_5 : Int32) (x4_6 : Int32) => (4 ≤ x4_6 → Q x3_5) ∧ (¬ 4 ≤ x4_6 → wj1 (fun (J10 : Int32 → Prop) => (x2_4 = (-1) → ∀ x3_13 : Int32, x3_13 = (x3_5 ||| (1 <<< (x4_6 &&& 31))) → (J10 x3_13)) ∧ (¬ x2_4 = (-1) → vp_in p0 10 ∧ (w_X4_soundAt (t_sheetOf (Int32.toNatClampNeg p0)) x4_6 t_soundOf (fun (r15 : Int32) => (¬ r15 = x2_4 → J10 x3_5) ∧ (r15 = x2_4 → ∀ x3_17 : Int32, x3_17 = (x3_5 ||| (1 <<< (x4_6 &&& 31))) → (J10 x3_17)))))) (fun (x3_9 : Int32) => ∀ x4_11 : Int32, x4_11 = (x4_6 + 1) → (K7 x3_9 x4_11)))) n18 0 0))) ∧ (r1 = false → Q 0))
theorem ddV_X4_gapsThatFit : yX4_gapsThatFit.cls = RX4 ∧ yX4_gapsThatFit.cls ≠ "java/lang/invoke/MethodHandle" ∧ yX4_gapsThatFit.cls ≠ "java/lang/invoke/VarHandle" ∧ (parseMethodDescriptor yX4_gapsThatFit.desc).map (fun d => d.parameters.length) = some 1 := by decide +kernel
set_option maxHeartbeats 4000000 in
set_option maxRecDepth 100000 in
theorem c_X4_gapsThatFit (l : Launch) (E : gE) (q_t q_t_heard q_t_sheetOf q_t_soundOf q_t_ways q_t_nextWays : Nat) (p0 : Int32) (t_heard : Nat → Int32) (t_sheetOf : Nat → Int32) (t_soundOf : Nat → Int32) (Q : Int32 → Prop) (hw : w_X4_gapsThatFit p0 t_heard t_sheetOf t_soundOf Q) : Ct l E yX4_gapsThatFit wsX4_gapsThatFit { frames := 2, cells := 0, slots := 0, locals := 45 } [.ref q_t, .int p0] [ob 4 q_t [.ref q_t_heard, .ref q_t_sheetOf, .ref q_t_soundOf, .ref q_t_ways, .ref q_t_nextWays], aI E.I q_t_heard 10 t_heard, aI E.I q_t_sheetOf 10 t_sheetOf, aI E.I q_t_soundOf 16 t_soundOf] (S := Int32) (fun u => some (.int u)) (fun u => Q u) (fun u => [ob 4 q_t [.ref q_t_heard, .ref q_t_sheetOf, .ref q_t_soundOf, .ref q_t_ways, .ref q_t_nextWays], aI E.I q_t_heard 10 t_heard, aI E.I q_t_sheetOf 10 t_sheetOf, aI E.I q_t_soundOf 16 t_soundOf]) := by
  unfold w_X4_gapsThatFit at hw
  have hinX4 : ∀ w ∈ wsX40, w ∈ wsX4_gapsThatFit := fun _ h => List.mem_cons_of_mem _ (List.mem_append_right _ h)
  refine g_start (cc := cX4_gapsThatFit) (nL := 5) (own := RX4) (ret := (some .int)) rfl (by decide) rfl (Nat.le_of_ble_eq_true rfl) (lv0 := [(0, .ref q_t), (1, .int p0)]) rfl (fun X C0 R1 => ?_)
  refine g_iload_n C0 dX4_gapsThatFit_0 1 rfl ?_
  refine g_iconst C0 (v := 0) dX4_gapsThatFit_1 (by decide) ?_
  refine g_bipush C0 (v := 9) dX4_gapsThatFit_2 (by decide) ?_
  refine g_callN C0 (c_X9_within l E p0 0 9 _ hw) dX4_gapsThatFit_4 gX4_gapsThatFit_X9_within_n33 rfl (List.mem_of_getElem? (i := 2) rfl) (List.mem_of_getElem? (i := 4) rfl) (List.mem_of_getElem? (i := 3) rfl) ddS_X9_within rfl (by decide) (by decide) rfl (Nat.le_of_ble_eq_true rfl) [] [0, 1, 2, 3] rfl (wr := [ob 4 q_t [.ref q_t_heard, .ref q_t_sheetOf, .ref q_t_soundOf, .ref q_t_ways, .ref q_t_nextWays], aI E.I q_t_heard 10 t_heard, aI E.I q_t_sheetOf 10 t_sheetOf, aI E.I q_t_soundOf 16 t_soundOf]) rfl (by decide) (by decide) (by decide) (fun u hw => ?_)
  obtain ⟨r1, hu_⟩ : ∃ z, z = u := ⟨_, rfl⟩
  subst hu_
  try dsimp only at hw
  show G X E 5 [ob 4 q_t [.ref q_t_heard, .ref q_t_sheetOf, .ref q_t_soundOf, .ref q_t_ways, .ref q_t_nextWays], aI E.I q_t_heard 10 t_heard, aI E.I q_t_sheetOf 10 t_sheetOf, aI E.I q_t_soundOf 16 t_soundOf] 0 0 7 [(0, .ref q_t), (1, .int p0)] [.int (bI r1)]
  refine g_ifb_ne C0 (tgt := 12) dX4_gapsThatFit_7 (by decide) (fun c2 => ?_) (fun c2 => ?_)
  · replace hw := hw.1 c2
    refine g_aload_n C0 dX4_gapsThatFit_12 0 rfl ?_
    refine g_get C0 dX4_gapsThatFit_13 0 rfl 0 rfl rfl hinX4 (by decide) (List.mem_of_getElem? (i := 1) rfl) rfl ?_
    refine g_iload_n C0 dX4_gapsThatFit_16 1 rfl ?_
    obtain ⟨h3, hw⟩ := hw
    refine g_iald C0 (cA := E.I) dX4_gapsThatFit_17 1 rfl h3 ?_
    refine g_topi (fun x2_4 ex2_4 => ?_)
    replace hw := hw x2_4 ex2_4
    refine g_istore_n C0 (lv2 := [(2, .int x2_4), (0, .ref q_t), (1, .int p0)]) dX4_gapsThatFit_18 (by decide) rfl ?_
    refine g_iconst C0 (v := 0) dX4_gapsThatFit_19 (by decide) ?_
    refine g_istore_n C0 (lv2 := [(3, .int 0), (2, .int x2_4), (0, .ref q_t), (1, .int p0)]) dX4_gapsThatFit_20 (by decide) rfl ?_
    refine g_iconst C0 (v := 0) dX4_gapsThatFit_21 (by decide) ?_
    refine g_istore C0 (lv2 := [(4, .int 0), (3, .int 0), (2, .int x2_4), (0, .ref q_t), (1, .int p0)]) dX4_gapsThatFit_22 (by decide) rfl ?_
    refine g_lv [3, 4, 2, 1, 0] (lv2 := [(0, .ref q_t), (1, .int p0), (2, .int x2_4), (3, .int 0), (4, .int 0)]) rfl ?_
    obtain ⟨n18, hw⟩ := hw
    refine wL2_go (P := fun (x3_5 : Int32) (x4_6 : Int32) => G X E 5 [ob 4 q_t [.ref q_t_heard, .ref q_t_sheetOf, .ref q_t_soundOf, .ref q_t_ways, .ref q_t_nextWays], aI E.I q_t_heard 10 t_heard, aI E.I q_t_sheetOf 10 t_sheetOf, aI E.I q_t_soundOf 16 t_soundOf] 0 0 24 [(0, .ref q_t), (1, .int p0), (2, .int x2_4), (3, .int x3_5), (4, .int x4_6)] []) (fun K7 hK7 x3_5 x4_6 hw => ?_) n18 _ _ hw
    refine g_iload C0 dX4_gapsThatFit_24 4 rfl ?_
    refine g_iconst C0 (v := 4) dX4_gapsThatFit_26 (by decide) ?_
    refine g_icmp_ge C0 (tgt := 64) dX4_gapsThatFit_27 (by decide) (fun c8 => ?_) (fun c8 => ?_)
    · replace hw := hw.1 c8
      refine g_iload_n C0 dX4_gapsThatFit_64 3 rfl ?_
      exact g_iret C0 R1 dX4_gapsThatFit_65 x3_5 rfl hw [0, 1, 2, 3] (by decide) rfl (by decide) (by decide)
    · replace hw := hw.2 c8
      refine g_iload_n C0 dX4_gapsThatFit_30 2 rfl ?_
      refine g_iconst C0 (v := (-1)) dX4_gapsThatFit_31 (by decide) ?_
      refine wj1_go (P := fun (x3_9 : Int32) => G X E 5 [ob 4 q_t [.ref q_t_heard, .ref q_t_sheetOf, .ref q_t_soundOf, .ref q_t_ways, .ref q_t_nextWays], aI E.I q_t_heard 10 t_heard, aI E.I q_t_sheetOf 10 t_sheetOf, aI E.I q_t_soundOf 16 t_soundOf] 0 0 58 [(0, .ref q_t), (1, .int p0), (2, .int x2_4), (3, .int x3_9), (4, .int x4_6)] []) hw (fun x3_9 hw => ?_) (fun J10 hJ10 hw => ?_)
      · obtain ⟨x4_11, ex4_11⟩ : ∃ y : Int32, y = x4_6 + 1 := ⟨_, rfl⟩
        replace hw := hw x4_11 ex4_11
        refine g_iinc C0 (v := x4_11) (lv2 := [(4, .int x4_11), (0, .ref q_t), (1, .int p0), (2, .int x2_4), (3, .int x3_9)]) dX4_gapsThatFit_58 4 rfl (by rw [ex4_11]; rfl) (by decide) rfl ?_
        refine g_goto C0 (tgt := 24) dX4_gapsThatFit_61 (by decide) ?_
        refine g_lv [1, 2, 3, 4, 0] (lv2 := [(0, .ref q_t), (1, .int p0), (2, .int x2_4), (3, .int x3_9), (4, .int x4_11)]) rfl ?_
        exact hK7 _ _ hw
      · refine g_icmp_eq C0 (tgt := 51) dX4_gapsThatFit_32 (by decide) (fun c12 => ?_) (fun c12 => ?_)
        · replace hw := hw.1 c12
          refine g_iload_n C0 dX4_gapsThatFit_51 3 rfl ?_
          refine g_iconst C0 (v := 1) dX4_gapsThatFit_52 (by decide) ?_
          refine g_iload C0 dX4_gapsThatFit_53 4 rfl ?_
          refine g_ishl C0 dX4_gapsThatFit_55 ?_
          refine g_ior C0 dX4_gapsThatFit_56 ?_
          refine g_topi (fun x3_13 ex3_13 => ?_)
          replace hw := hw x3_13 ex3_13
          refine g_istore_n C0 (lv2 := [(3, .int x3_13), (0, .ref q_t), (1, .int p0), (2, .int x2_4), (4, .int x4_6)]) dX4_gapsThatFit_57 (by decide) rfl ?_
          refine g_lv [1, 2, 3, 0, 4] (lv2 := [(0, .ref q_t), (1, .int p0), (2, .int x2_4), (3, .int x3_13), (4, .int x4_6)]) rfl ?_
          exact hJ10 _ hw
        · replace hw := hw.2 c12
          refine g_aload_n C0 dX4_gapsThatFit_35 0 rfl ?_
          refine g_aload_n C0 dX4_gapsThatFit_36 0 rfl ?_
          refine g_get C0 dX4_gapsThatFit_37 0 rfl 1 rfl rfl hinX4 (by decide) (List.mem_of_getElem? (i := 2) rfl) rfl ?_
          refine g_iload_n C0 dX4_gapsThatFit_40 1 rfl ?_
          obtain ⟨h14, hw⟩ := hw
          refine g_iald C0 (cA := E.I) dX4_gapsThatFit_41 2 rfl h14 ?_
          refine g_iload C0 dX4_gapsThatFit_42 4 rfl ?_
          refine g_callV C0 (q0 := 0) (ci := 4) (c_X4_soundAt l E q_t q_t_heard q_t_sheetOf q_t_soundOf q_t_ways q_t_nextWays (t_sheetOf (Int32.toNatClampNeg p0)) x4_6 t_soundOf _ hw) dX4_gapsThatFit_44 gX4_gapsThatFit_X4_soundAt rfl ddV_X4_soundAt rfl (by decide) (by decide) rfl (Nat.le_of_ble_eq_true rfl) [0, 3] [1, 2] rfl (wr := [aI E.I q_t_heard 10 t_heard, aI E.I q_t_sheetOf 10 t_sheetOf]) rfl (by decide) (by decide) (by decide) rfl rfl (fun u hw => ?_)
          obtain ⟨r15, hu_⟩ : ∃ z, z = u := ⟨_, rfl⟩
          subst hu_
          try dsimp only at hw
          show G X E 5 [aI E.I q_t_heard 10 t_heard, aI E.I q_t_sheetOf 10 t_sheetOf, ob 4 q_t [.ref q_t_heard, .ref q_t_sheetOf, .ref q_t_soundOf, .ref q_t_ways, .ref q_t_nextWays], aI E.I q_t_soundOf 16 t_soundOf] 0 0 47 [(0, .ref q_t), (1, .int p0), (2, .int x2_4), (3, .int x3_5), (4, .int x4_6)] [.int r15]
          refine g_iload_n C0 dX4_gapsThatFit_47 2 rfl ?_
          refine g_icmp_ne C0 (tgt := 58) dX4_gapsThatFit_48 (by decide) (fun c16 => ?_) (fun c16 => ?_)
          · replace hw := hw.1 c16
            refine g_re [2, 0, 1, 3] (by decide) (ws2 := [ob 4 q_t [.ref q_t_heard, .ref q_t_sheetOf, .ref q_t_soundOf, .ref q_t_ways, .ref q_t_nextWays], aI E.I q_t_heard 10 t_heard, aI E.I q_t_sheetOf 10 t_sheetOf, aI E.I q_t_soundOf 16 t_soundOf]) rfl ?_
            exact hJ10 _ hw
          · replace hw := hw.2 c16
            refine g_iload_n C0 dX4_gapsThatFit_51 3 rfl ?_
            refine g_iconst C0 (v := 1) dX4_gapsThatFit_52 (by decide) ?_
            refine g_iload C0 dX4_gapsThatFit_53 4 rfl ?_
            refine g_ishl C0 dX4_gapsThatFit_55 ?_
            refine g_ior C0 dX4_gapsThatFit_56 ?_
            refine g_topi (fun x3_17 ex3_17 => ?_)
            replace hw := hw x3_17 ex3_17
            refine g_istore_n C0 (lv2 := [(3, .int x3_17), (0, .ref q_t), (1, .int p0), (2, .int x2_4), (4, .int x4_6)]) dX4_gapsThatFit_57 (by decide) rfl ?_
            refine g_lv [1, 2, 3, 0, 4] (lv2 := [(0, .ref q_t), (1, .int p0), (2, .int x2_4), (3, .int x3_17), (4, .int x4_6)]) rfl ?_
            refine g_re [2, 0, 1, 3] (by decide) (ws2 := [ob 4 q_t [.ref q_t_heard, .ref q_t_sheetOf, .ref q_t_soundOf, .ref q_t_ways, .ref q_t_nextWays], aI E.I q_t_heard 10 t_heard, aI E.I q_t_sheetOf 10 t_sheetOf, aI E.I q_t_soundOf 16 t_soundOf]) rfl ?_
            exact hJ10 _ hw
  · replace hw := hw.2 c2
    refine g_iconst C0 (v := 0) dX4_gapsThatFit_10 (by decide) ?_
    exact g_iret C0 R1 dX4_gapsThatFit_11 0 rfl hw [0, 1, 2, 3] (by decide) rfl (by decide) (by decide)
def w_X4_goOnTo (p0 : Int32) (p1 : Int32) (t_nextWays : Nat → Int32) (t_ways : Nat → Int32) (Q : (Nat → Int32) → (Nat → Int32) → Prop) : Prop := ∃ n21 : Nat, wL2 (fun (K3 : Int32 → (Nat → Int32) → Prop) (x3_1 : Int32) (t_nextWays_2 : Nat → Int32) => (4 ≤ x3_1 → Q (va_cpy t_nextWays_2 t_ways (Int32.toNatClampNeg 0) (Int32.toNatClampNeg 0) (Int32.toNatClampNeg 4)) t_nextWays_2) ∧ (¬ 4 ≤ x3_1 → vp_in x3_1 4 ∧ (∃ n20 : Nat, wL2 (fun (K8 : Int32 → (Nat → Int32) → Prop) (x4_6 : Int32) (t_nextWays_7 : Nat → Int32) => (4 ≤ x4_6 → ∀ x3_10 : Int32, x3_10 = (x3_1 + 1) → (K3 x3_10 t_nextWays_7)) ∧ (¬ 4 ≤ x4_6 → wj1 (fun (J12 : (Nat → Int32) → Prop) => (¬ ((p0 >>> (x3_1 &&& 31)) &&& 1) = 1 → J12 t_nextWays_7) ∧ (((p0 >>> (x3_1 &&& 31)) &&& 1) = 1 → (p1 < (if 0 ≤ (x3_1 - x4_6) then (x3_1 - x4_6) else 0 - (x3_1 - x4_6)) → J12 t_nextWays_7) ∧ (¬ p1 < (if 0 ≤ (x3_1 - x4_6) then (x3_1 - x4_6) else 0 - (x3_1 - x4_6)) → vp_in x3_1 4 ∧ (vp_in x4_6 4 ∧ (∀ f18 : Int32, f18 = ((t_nextWays_7 (Int32.toNatClampNeg x3_1)) + (t_ways (Int32.toNatClampNeg x4_6))) → (vp_in x3_1 4 ∧ (J12 (upd t_nextWays_7 (Int32.toNatClampNeg x3_1) f18)))))))) (fun (t_nextWays_11 : Nat → Int32) => ∀ x4_13 : Int32, x4_13 = (x4_6 + 1) → (K8 x4_13 t_nextWays_11)))) n20 0 (upd t_nextWays_2 (Int32.toNatClampNeg x3_1) 0)))) n21 0 t_nextWays
theorem ddV_X4_goOnTo : yX4_goOnTo.cls = RX4 ∧ yX4_goOnTo.cls ≠ "java/lang/invoke/MethodHandle" ∧ yX4_goOnTo.cls ≠ "java/lang/invoke/VarHandle" ∧ (parseMethodDescriptor yX4_goOnTo.desc).map (fun d => d.parameters.length) = some 2 := by decide +kernel
set_option maxHeartbeats 4000000 in
set_option maxRecDepth 100000 in
theorem c_X4_goOnTo (l : Launch) (E : gE) (q_t q_t_heard q_t_sheetOf q_t_soundOf q_t_ways q_t_nextWays : Nat) (p0 : Int32) (p1 : Int32) (t_nextWays : Nat → Int32) (t_ways : Nat → Int32) (Q : (Nat → Int32) → (Nat → Int32) → Prop) (hw : w_X4_goOnTo p0 p1 t_nextWays t_ways Q) : Ct l E yX4_goOnTo wsX4_goOnTo { frames := 1, cells := 0, slots := 0, locals := 59 } [.ref q_t, .int p0, .int p1] [ob 4 q_t [.ref q_t_heard, .ref q_t_sheetOf, .ref q_t_soundOf, .ref q_t_ways, .ref q_t_nextWays], aI E.I q_t_nextWays 4 t_nextWays, aI E.I q_t_ways 4 t_ways] (S := (Nat → Int32) × (Nat → Int32)) (fun _ => none) (fun u => Q u.1 u.2) (fun u => [ob 4 q_t [.ref q_t_heard, .ref q_t_sheetOf, .ref q_t_soundOf, .ref q_t_ways, .ref q_t_nextWays], aI E.I q_t_nextWays 4 u.2, aI E.I q_t_ways 4 u.1]) := by
  unfold w_X4_goOnTo at hw
  have hinX4 : ∀ w ∈ wsX40, w ∈ wsX4_goOnTo := fun _ h => List.mem_cons_of_mem _ (List.mem_append_right _ h)
  refine g_start (cc := cX4_goOnTo) (nL := 5) (own := RX4) (ret := none) rfl (by decide) rfl (Nat.le_of_ble_eq_true rfl) (lv0 := [(0, .ref q_t), (1, .int p0), (2, .int p1)]) rfl (fun X C0 R1 => ?_)
  refine g_iconst C0 (v := 0) dX4_goOnTo_0 (by decide) ?_
  refine g_istore_n C0 (lv2 := [(3, .int 0), (0, .ref q_t), (1, .int p0), (2, .int p1)]) dX4_goOnTo_1 (by decide) rfl ?_
  refine g_lv [1, 2, 3, 0] (lv2 := [(0, .ref q_t), (1, .int p0), (2, .int p1), (3, .int 0)]) rfl ?_
  obtain ⟨n21, hw⟩ := hw
  refine wL2_go (P := fun (x3_1 : Int32) (t_nextWays_2 : Nat → Int32) => G X E 5 [ob 4 q_t [.ref q_t_heard, .ref q_t_sheetOf, .ref q_t_soundOf, .ref q_t_ways, .ref q_t_nextWays], aI E.I q_t_nextWays 4 t_nextWays_2, aI E.I q_t_ways 4 t_ways] 0 0 2 [(0, .ref q_t), (1, .int p0), (2, .int p1), (3, .int x3_1)] []) (fun K3 hK3 x3_1 t_nextWays_2 hw => ?_) n21 _ _ hw
  refine g_iload_n C0 dX4_goOnTo_2 3 rfl ?_
  refine g_iconst C0 (v := 4) dX4_goOnTo_3 (by decide) ?_
  refine g_icmp_ge C0 (tgt := 71) dX4_goOnTo_4 (by decide) (fun c4 => ?_) (fun c4 => ?_)
  · replace hw := hw.1 c4
    refine g_aload_n C0 dX4_goOnTo_71 0 rfl ?_
    refine g_get C0 dX4_goOnTo_72 0 rfl 4 rfl rfl hinX4 (by decide) (List.mem_of_getElem? (i := 1) rfl) rfl ?_
    refine g_iconst C0 (v := 0) dX4_goOnTo_75 (by decide) ?_
    refine g_aload_n C0 dX4_goOnTo_76 0 rfl ?_
    refine g_get C0 dX4_goOnTo_77 0 rfl 3 rfl rfl hinX4 (by decide) (List.mem_of_getElem? (i := 6) rfl) rfl ?_
    refine g_iconst C0 (v := 0) dX4_goOnTo_80 (by decide) ?_
    refine g_iconst C0 (v := 4) dX4_goOnTo_81 (by decide) ?_
    refine g_copyi C0 (ws2 := [ob 4 q_t [.ref q_t_heard, .ref q_t_sheetOf, .ref q_t_soundOf, .ref q_t_ways, .ref q_t_nextWays], aI E.I q_t_nextWays 4 t_nextWays_2, aI E.I q_t_ways 4 (va_cpy t_nextWays_2 t_ways (Int32.toNatClampNeg 0) (Int32.toNatClampNeg 0) (Int32.toNatClampNeg 4))]) dX4_goOnTo_82 (List.mem_of_getElem? (i := 7) rfl) (List.mem_of_getElem? (i := 8) rfl) (List.mem_of_getElem? (i := 9) rfl) (List.mem_of_getElem? (i := 10) rfl) 1 2 rfl rfl (by decide) (by decide) (by decide) (by decide) (by decide) (by decide) (Nat.le_of_ble_eq_true rfl) rfl ?_
    exact g_vret C0 R1 dX4_goOnTo_85 (va_cpy t_nextWays_2 t_ways (Int32.toNatClampNeg 0) (Int32.toNatClampNeg 0) (Int32.toNatClampNeg 4), t_nextWays_2) rfl hw [0, 1, 2] (by decide) rfl (by decide) (by decide)
  · replace hw := hw.2 c4
    refine g_aload_n C0 dX4_goOnTo_7 0 rfl ?_
    refine g_get C0 dX4_goOnTo_8 0 rfl 4 rfl rfl hinX4 (by decide) (List.mem_of_getElem? (i := 1) rfl) rfl ?_
    refine g_iload_n C0 dX4_goOnTo_11 3 rfl ?_
    refine g_iconst C0 (v := 0) dX4_goOnTo_12 (by decide) ?_
    obtain ⟨h5, hw⟩ := hw
    refine g_iast C0 (ws2 := [ob 4 q_t [.ref q_t_heard, .ref q_t_sheetOf, .ref q_t_soundOf, .ref q_t_ways, .ref q_t_nextWays], aI E.I q_t_nextWays 4 (upd t_nextWays_2 (Int32.toNatClampNeg x3_1) 0), aI E.I q_t_ways 4 t_ways]) dX4_goOnTo_13 1 rfl h5 rfl ?_
    refine g_iconst C0 (v := 0) dX4_goOnTo_14 (by decide) ?_
    refine g_istore C0 (lv2 := [(4, .int 0), (0, .ref q_t), (1, .int p0), (2, .int p1), (3, .int x3_1)]) dX4_goOnTo_15 (by decide) rfl ?_
    refine g_lv [1, 2, 3, 4, 0] (lv2 := [(0, .ref q_t), (1, .int p0), (2, .int p1), (3, .int x3_1), (4, .int 0)]) rfl ?_
    obtain ⟨n20, hw⟩ := hw
    refine wL2_go (P := fun (x4_6 : Int32) (t_nextWays_7 : Nat → Int32) => G X E 5 [ob 4 q_t [.ref q_t_heard, .ref q_t_sheetOf, .ref q_t_soundOf, .ref q_t_ways, .ref q_t_nextWays], aI E.I q_t_nextWays 4 t_nextWays_7, aI E.I q_t_ways 4 t_ways] 0 0 17 [(0, .ref q_t), (1, .int p0), (2, .int p1), (3, .int x3_1), (4, .int x4_6)] []) (fun K8 hK8 x4_6 t_nextWays_7 hw => ?_) n20 _ _ hw
    refine g_iload C0 dX4_goOnTo_17 4 rfl ?_
    refine g_iconst C0 (v := 4) dX4_goOnTo_19 (by decide) ?_
    refine g_icmp_ge C0 (tgt := 65) dX4_goOnTo_20 (by decide) (fun c9 => ?_) (fun c9 => ?_)
    · replace hw := hw.1 c9
      obtain ⟨x3_10, ex3_10⟩ : ∃ y : Int32, y = x3_1 + 1 := ⟨_, rfl⟩
      replace hw := hw x3_10 ex3_10
      refine g_iinc C0 (v := x3_10) (lv2 := [(3, .int x3_10), (0, .ref q_t), (1, .int p0), (2, .int p1), (4, .int x4_6)]) dX4_goOnTo_65 3 rfl (by rw [ex3_10]; rfl) (by decide) rfl ?_
      refine g_goto C0 (tgt := 2) dX4_goOnTo_68 (by decide) ?_
      refine g_lv [1, 2, 3, 0] (lv2 := [(0, .ref q_t), (1, .int p0), (2, .int p1), (3, .int x3_10)]) rfl ?_
      exact hK3 _ _ hw
    · replace hw := hw.2 c9
      refine g_iload_n C0 dX4_goOnTo_23 1 rfl ?_
      refine g_iload_n C0 dX4_goOnTo_24 3 rfl ?_
      refine g_ishr C0 dX4_goOnTo_25 ?_
      refine g_iconst C0 (v := 1) dX4_goOnTo_26 (by decide) ?_
      refine g_iand C0 dX4_goOnTo_27 ?_
      refine g_iconst C0 (v := 1) dX4_goOnTo_28 (by decide) ?_
      refine wj1_go (P := fun (t_nextWays_11 : Nat → Int32) => G X E 5 [ob 4 q_t [.ref q_t_heard, .ref q_t_sheetOf, .ref q_t_soundOf, .ref q_t_ways, .ref q_t_nextWays], aI E.I q_t_nextWays 4 t_nextWays_11, aI E.I q_t_ways 4 t_ways] 0 0 59 [(0, .ref q_t), (1, .int p0), (2, .int p1), (3, .int x3_1), (4, .int x4_6)] []) hw (fun t_nextWays_11 hw => ?_) (fun J12 hJ12 hw => ?_)
      · obtain ⟨x4_13, ex4_13⟩ : ∃ y : Int32, y = x4_6 + 1 := ⟨_, rfl⟩
        replace hw := hw x4_13 ex4_13
        refine g_iinc C0 (v := x4_13) (lv2 := [(4, .int x4_13), (0, .ref q_t), (1, .int p0), (2, .int p1), (3, .int x3_1)]) dX4_goOnTo_59 4 rfl (by rw [ex4_13]; rfl) (by decide) rfl ?_
        refine g_goto C0 (tgt := 17) dX4_goOnTo_62 (by decide) ?_
        refine g_lv [1, 2, 3, 4, 0] (lv2 := [(0, .ref q_t), (1, .int p0), (2, .int p1), (3, .int x3_1), (4, .int x4_13)]) rfl ?_
        exact hK8 _ _ hw
      · refine g_icmp_ne C0 (tgt := 59) dX4_goOnTo_29 (by decide) (fun c14 => ?_) (fun c14 => ?_)
        · replace hw := hw.1 c14
          exact hJ12 _ hw
        · replace hw := hw.2 c14
          refine g_iload_n C0 dX4_goOnTo_32 3 rfl ?_
          refine g_iload C0 dX4_goOnTo_33 4 rfl ?_
          refine g_isub C0 dX4_goOnTo_35 ?_
          refine g_mabs C0 dX4_goOnTo_36 (List.mem_of_getElem? (i := 2) rfl) (List.mem_of_getElem? (i := 3) rfl) (List.mem_of_getElem? (i := 4) rfl) (List.mem_of_getElem? (i := 5) rfl) (by decide) (Nat.le_of_ble_eq_true rfl) (by decide) (by decide) ?_
          refine g_iload_n C0 dX4_goOnTo_39 2 rfl ?_
          refine g_icmp_gt C0 (tgt := 59) dX4_goOnTo_40 (by decide) (fun c15 => ?_) (fun c15 => ?_)
          · replace hw := hw.1 c15
            exact hJ12 _ hw
          · replace hw := hw.2 c15
            refine g_aload_n C0 dX4_goOnTo_43 0 rfl ?_
            refine g_get C0 dX4_goOnTo_44 0 rfl 4 rfl rfl hinX4 (by decide) (List.mem_of_getElem? (i := 1) rfl) rfl ?_
            refine g_iload_n C0 dX4_goOnTo_47 3 rfl ?_
            refine g_dup2 C0 dX4_goOnTo_48 rfl rfl ?_
            obtain ⟨h16, hw⟩ := hw
            refine g_iald C0 (cA := E.I) dX4_goOnTo_49 1 rfl h16 ?_
            refine g_aload_n C0 dX4_goOnTo_50 0 rfl ?_
            refine g_get C0 dX4_goOnTo_51 0 rfl 3 rfl rfl hinX4 (by decide) (List.mem_of_getElem? (i := 6) rfl) rfl ?_
            refine g_iload C0 dX4_goOnTo_54 4 rfl ?_
            obtain ⟨h17, hw⟩ := hw
            refine g_iald C0 (cA := E.I) dX4_goOnTo_56 2 rfl h17 ?_
            refine g_iadd C0 dX4_goOnTo_57 ?_
            refine g_topi (fun f18 ef18 => ?_)
            replace hw := hw f18 ef18
            obtain ⟨h19, hw⟩ := hw
            refine g_iast C0 (ws2 := [ob 4 q_t [.ref q_t_heard, .ref q_t_sheetOf, .ref q_t_soundOf, .ref q_t_ways, .ref q_t_nextWays], aI E.I q_t_nextWays 4 (upd t_nextWays_7 (Int32.toNatClampNeg x3_1) f18), aI E.I q_t_ways 4 t_ways]) dX4_goOnTo_58 1 rfl h19 rfl ?_
            exact hJ12 _ hw
def w_X4_rowsThatFit (p0 : Int32) (t_ways : Nat → Int32) (t_heard : Nat → Int32) (t_sheetOf : Nat → Int32) (t_soundOf : Nat → Int32) (t_nextWays : Nat → Int32) (Q : Int32 → (Nat → Int32) → (Nat → Int32) → Prop) : Prop := ∃ n27 : Nat, wL2 (fun (K3 : Int32 → (Nat → Int32) → Prop) (x2_1 : Int32) (t_ways_2 : Nat → Int32) => (4 ≤ x2_1 → ∃ n22 : Nat, wL3 (fun (K8 : Int32 → (Nat → Int32) → (Nat → Int32) → Prop) (x2_5 : Int32) (t_ways_6 : Nat → Int32) (t_nextWays_7 : Nat → Int32) => (10 ≤ x2_5 → ∃ n17 : Nat, wL2 (fun (K12 : Int32 → Int32 → Prop) (x2_10 : Int32) (x3_11 : Int32) => (4 ≤ x3_11 → Q x2_10 t_ways_6 t_nextWays_7) ∧ (¬ 4 ≤ x3_11 → vp_in x3_11 4 ∧ (∀ x2_15 : Int32, x2_15 = (x2_10 + (t_ways_6 (Int32.toNatClampNeg x3_11))) → (∀ x3_16 : Int32, x3_16 = (x3_11 + 1) → (K12 x2_15 x3_16))))) n17 0 0) ∧ (¬ 10 ≤ x2_5 → w_X4_gapsThatFit x2_5 t_heard t_sheetOf t_soundOf (fun (r18 : Int32) => w_X4_goOnTo r18 p0 t_nextWays_7 t_ways_6 (fun (t_ways_19 : Nat → Int32) (t_nextWays_20 : Nat → Int32) => ∀ x2_21 : Int32, x2_21 = (x2_5 + 1) → (K8 x2_21 t_ways_19 t_nextWays_20))))) n22 1 t_ways_2 t_nextWays) ∧ (¬ 4 ≤ x2_1 → w_X4_gapsThatFit 0 t_heard t_sheetOf t_soundOf (fun (r23 : Int32) => ∀ f24 : Int32, f24 = ((r23 >>> (x2_1 &&& 31)) &&& 1) → (vp_in x2_1 4 ∧ (∀ x2_26 : Int32, x2_26 = (x2_1 + 1) → (K3 x2_26 (upd t_ways_2 (Int32.toNatClampNeg x2_1) f24))))))) n27 0 t_ways
theorem ddV_X4_rowsThatFit : yX4_rowsThatFit.cls = RX4 ∧ yX4_rowsThatFit.cls ≠ "java/lang/invoke/MethodHandle" ∧ yX4_rowsThatFit.cls ≠ "java/lang/invoke/VarHandle" ∧ (parseMethodDescriptor yX4_rowsThatFit.desc).map (fun d => d.parameters.length) = some 1 := by decide +kernel
set_option maxHeartbeats 4000000 in
set_option maxRecDepth 100000 in
theorem c_X4_rowsThatFit (l : Launch) (E : gE) (q_t q_t_heard q_t_sheetOf q_t_soundOf q_t_ways q_t_nextWays : Nat) (p0 : Int32) (t_ways : Nat → Int32) (t_heard : Nat → Int32) (t_sheetOf : Nat → Int32) (t_soundOf : Nat → Int32) (t_nextWays : Nat → Int32) (Q : Int32 → (Nat → Int32) → (Nat → Int32) → Prop) (hw : w_X4_rowsThatFit p0 t_ways t_heard t_sheetOf t_soundOf t_nextWays Q) : Ct l E yX4_rowsThatFit wsX4_rowsThatFit { frames := 3, cells := 0, slots := 0, locals := 83 } [.ref q_t, .int p0] [ob 4 q_t [.ref q_t_heard, .ref q_t_sheetOf, .ref q_t_soundOf, .ref q_t_ways, .ref q_t_nextWays], aI E.I q_t_ways 4 t_ways, aI E.I q_t_heard 10 t_heard, aI E.I q_t_sheetOf 10 t_sheetOf, aI E.I q_t_soundOf 16 t_soundOf, aI E.I q_t_nextWays 4 t_nextWays] (S := Int32 × (Nat → Int32) × (Nat → Int32)) (fun u => some (.int u.1)) (fun u => Q u.1 u.2.1 u.2.2) (fun u => [ob 4 q_t [.ref q_t_heard, .ref q_t_sheetOf, .ref q_t_soundOf, .ref q_t_ways, .ref q_t_nextWays], aI E.I q_t_ways 4 u.2.1, aI E.I q_t_heard 10 t_heard, aI E.I q_t_sheetOf 10 t_sheetOf, aI E.I q_t_soundOf 16 t_soundOf, aI E.I q_t_nextWays 4 u.2.2]) := by
  unfold w_X4_rowsThatFit at hw
  have hinX4 : ∀ w ∈ wsX40, w ∈ wsX4_rowsThatFit := fun _ h => List.mem_cons_of_mem _ (List.mem_append_right _ h)
  refine g_start (cc := cX4_rowsThatFit) (nL := 4) (own := RX4) (ret := (some .int)) rfl (by decide) rfl (Nat.le_of_ble_eq_true rfl) (lv0 := [(0, .ref q_t), (1, .int p0)]) rfl (fun X C0 R1 => ?_)
  refine g_iconst C0 (v := 0) dX4_rowsThatFit_0 (by decide) ?_
  refine g_istore_n C0 (lv2 := [(2, .int 0), (0, .ref q_t), (1, .int p0)]) dX4_rowsThatFit_1 (by decide) rfl ?_
  refine g_lv [1, 2, 0] (lv2 := [(0, .ref q_t), (1, .int p0), (2, .int 0)]) rfl ?_
  obtain ⟨n27, hw⟩ := hw
  refine wL2_go (P := fun (x2_1 : Int32) (t_ways_2 : Nat → Int32) => G X E 4 [ob 4 q_t [.ref q_t_heard, .ref q_t_sheetOf, .ref q_t_soundOf, .ref q_t_ways, .ref q_t_nextWays], aI E.I q_t_ways 4 t_ways_2, aI E.I q_t_heard 10 t_heard, aI E.I q_t_sheetOf 10 t_sheetOf, aI E.I q_t_soundOf 16 t_soundOf, aI E.I q_t_nextWays 4 t_nextWays] 0 0 2 [(0, .ref q_t), (1, .int p0), (2, .int x2_1)] []) (fun K3 hK3 x2_1 t_ways_2 hw => ?_) n27 _ _ hw
  refine g_iload_n C0 dX4_rowsThatFit_2 2 rfl ?_
  refine g_iconst C0 (v := 4) dX4_rowsThatFit_3 (by decide) ?_
  refine g_icmp_ge C0 (tgt := 28) dX4_rowsThatFit_4 (by decide) (fun c4 => ?_) (fun c4 => ?_)
  · replace hw := hw.1 c4
    refine g_iconst C0 (v := 1) dX4_rowsThatFit_28 (by decide) ?_
    refine g_istore_n C0 (lv2 := [(2, .int 1), (0, .ref q_t), (1, .int p0)]) dX4_rowsThatFit_29 (by decide) rfl ?_
    refine g_lv [1, 2, 0] (lv2 := [(0, .ref q_t), (1, .int p0), (2, .int 1)]) rfl ?_
    obtain ⟨n22, hw⟩ := hw
    refine wL3_go (P := fun (x2_5 : Int32) (t_ways_6 : Nat → Int32) (t_nextWays_7 : Nat → Int32) => G X E 4 [ob 4 q_t [.ref q_t_heard, .ref q_t_sheetOf, .ref q_t_soundOf, .ref q_t_ways, .ref q_t_nextWays], aI E.I q_t_ways 4 t_ways_6, aI E.I q_t_heard 10 t_heard, aI E.I q_t_sheetOf 10 t_sheetOf, aI E.I q_t_soundOf 16 t_soundOf, aI E.I q_t_nextWays 4 t_nextWays_7] 0 0 30 [(0, .ref q_t), (1, .int p0), (2, .int x2_5)] []) (fun K8 hK8 x2_5 t_ways_6 t_nextWays_7 hw => ?_) n22 _ _ _ hw
    refine g_iload_n C0 dX4_rowsThatFit_30 2 rfl ?_
    refine g_bipush C0 (v := 10) dX4_rowsThatFit_31 (by decide) ?_
    refine g_icmp_ge C0 (tgt := 52) dX4_rowsThatFit_33 (by decide) (fun c9 => ?_) (fun c9 => ?_)
    · replace hw := hw.1 c9
      refine g_iconst C0 (v := 0) dX4_rowsThatFit_52 (by decide) ?_
      refine g_istore_n C0 (lv2 := [(2, .int 0), (0, .ref q_t), (1, .int p0)]) dX4_rowsThatFit_53 (by decide) rfl ?_
      refine g_iconst C0 (v := 0) dX4_rowsThatFit_54 (by decide) ?_
      refine g_istore_n C0 (lv2 := [(3, .int 0), (2, .int 0), (0, .ref q_t), (1, .int p0)]) dX4_rowsThatFit_55 (by decide) rfl ?_
      refine g_lv [2, 1, 0] (lv2 := [(0, .ref q_t), (2, .int 0), (3, .int 0)]) rfl ?_
      obtain ⟨n17, hw⟩ := hw
      refine wL2_go (P := fun (x2_10 : Int32) (x3_11 : Int32) => G X E 4 [ob 4 q_t [.ref q_t_heard, .ref q_t_sheetOf, .ref q_t_soundOf, .ref q_t_ways, .ref q_t_nextWays], aI E.I q_t_ways 4 t_ways_6, aI E.I q_t_heard 10 t_heard, aI E.I q_t_sheetOf 10 t_sheetOf, aI E.I q_t_soundOf 16 t_soundOf, aI E.I q_t_nextWays 4 t_nextWays_7] 0 0 56 [(0, .ref q_t), (2, .int x2_10), (3, .int x3_11)] []) (fun K12 hK12 x2_10 x3_11 hw => ?_) n17 _ _ hw
      refine g_iload_n C0 dX4_rowsThatFit_56 2 rfl ?_
      refine g_iconst C0 (v := 4) dX4_rowsThatFit_57 (by decide) ?_
      refine g_icmp_ge C0 (tgt := 76) dX4_rowsThatFit_58 (by decide) (fun c13 => ?_) (fun c13 => ?_)
      · replace hw := hw.1 c13
        refine g_iload_n C0 dX4_rowsThatFit_76 1 rfl ?_
        exact g_iret C0 R1 dX4_rowsThatFit_77 (x2_10, t_ways_6, t_nextWays_7) rfl hw [0, 1, 2, 3, 4, 5] (by decide) rfl (by decide) (by decide)
      · replace hw := hw.2 c13
        refine g_iload_n C0 dX4_rowsThatFit_61 1 rfl ?_
        refine g_aload_n C0 dX4_rowsThatFit_62 0 rfl ?_
        refine g_get C0 dX4_rowsThatFit_63 0 rfl 3 rfl rfl hinX4 (by decide) (List.mem_of_getElem? (i := 1) rfl) rfl ?_
        refine g_iload_n C0 dX4_rowsThatFit_66 2 rfl ?_
        obtain ⟨h14, hw⟩ := hw
        refine g_iald C0 (cA := E.I) dX4_rowsThatFit_67 1 rfl h14 ?_
        refine g_iadd C0 dX4_rowsThatFit_68 ?_
        refine g_topi (fun x2_15 ex2_15 => ?_)
        replace hw := hw x2_15 ex2_15
        refine g_istore_n C0 (lv2 := [(2, .int x2_15), (0, .ref q_t), (3, .int x3_11)]) dX4_rowsThatFit_69 (by decide) rfl ?_
        obtain ⟨x3_16, ex3_16⟩ : ∃ y : Int32, y = x3_11 + 1 := ⟨_, rfl⟩
        replace hw := hw x3_16 ex3_16
        refine g_iinc C0 (v := x3_16) (lv2 := [(3, .int x3_16), (2, .int x2_15), (0, .ref q_t)]) dX4_rowsThatFit_70 2 rfl (by rw [ex3_16]; rfl) (by decide) rfl ?_
        refine g_goto C0 (tgt := 56) dX4_rowsThatFit_73 (by decide) ?_
        refine g_lv [2, 1, 0] (lv2 := [(0, .ref q_t), (2, .int x2_15), (3, .int x3_16)]) rfl ?_
        exact hK12 _ _ hw
    · replace hw := hw.2 c9
      refine g_aload_n C0 dX4_rowsThatFit_36 0 rfl ?_
      refine g_aload_n C0 dX4_rowsThatFit_37 0 rfl ?_
      refine g_iload_n C0 dX4_rowsThatFit_38 2 rfl ?_
      refine g_callV C0 (q0 := 0) (ci := 4) (c_X4_gapsThatFit l E q_t q_t_heard q_t_sheetOf q_t_soundOf q_t_ways q_t_nextWays x2_5 t_heard t_sheetOf t_soundOf _ hw) dX4_rowsThatFit_39 gX4_rowsThatFit_X4_gapsThatFit rfl ddV_X4_gapsThatFit rfl (by decide) (by decide) rfl (Nat.le_of_ble_eq_true rfl) [0, 2, 3, 4] [1, 5] rfl (wr := [aI E.I q_t_ways 4 t_ways_6, aI E.I q_t_nextWays 4 t_nextWays_7]) rfl (by decide) (by decide) (by decide) rfl rfl (fun u hw => ?_)
      obtain ⟨r18, hu_⟩ : ∃ z, z = u := ⟨_, rfl⟩
      subst hu_
      try dsimp only at hw
      show G X E 4 [aI E.I q_t_ways 4 t_ways_6, aI E.I q_t_nextWays 4 t_nextWays_7, ob 4 q_t [.ref q_t_heard, .ref q_t_sheetOf, .ref q_t_soundOf, .ref q_t_ways, .ref q_t_nextWays], aI E.I q_t_heard 10 t_heard, aI E.I q_t_sheetOf 10 t_sheetOf, aI E.I q_t_soundOf 16 t_soundOf] 0 0 42 [(0, .ref q_t), (1, .int p0), (2, .int x2_5)] [.int r18, .ref q_t]
      refine g_iload_n C0 dX4_rowsThatFit_42 1 rfl ?_
      refine g_callV C0 (q0 := 2) (ci := 4) (c_X4_goOnTo l E q_t q_t_heard q_t_sheetOf q_t_soundOf q_t_ways q_t_nextWays r18 p0 t_nextWays_7 t_ways_6 _ hw) dX4_rowsThatFit_43 gX4_rowsThatFit_X4_goOnTo rfl ddV_X4_goOnTo rfl (by decide) (by decide) rfl (Nat.le_of_ble_eq_true rfl) [2, 1, 0] [3, 4, 5] rfl (wr := [aI E.I q_t_heard 10 t_heard, aI E.I q_t_sheetOf 10 t_sheetOf, aI E.I q_t_soundOf 16 t_soundOf]) rfl (by decide) (by decide) (by decide) rfl rfl (fun u hw => ?_)
      obtain ⟨t_ways_19, t_nextWays_20⟩ := u
      try dsimp only at hw
      show G X E 4 [aI E.I q_t_heard 10 t_heard, aI E.I q_t_sheetOf 10 t_sheetOf, aI E.I q_t_soundOf 16 t_soundOf, ob 4 q_t [.ref q_t_heard, .ref q_t_sheetOf, .ref q_t_soundOf, .ref q_t_ways, .ref q_t_nextWays], aI E.I q_t_nextWays 4 t_nextWays_20, aI E.I q_t_ways 4 t_ways_19] 0 0 46 [(0, .ref q_t), (1, .int p0), (2, .int x2_5)] []
      obtain ⟨x2_21, ex2_21⟩ : ∃ y : Int32, y = x2_5 + 1 := ⟨_, rfl⟩
      replace hw := hw x2_21 ex2_21
      refine g_iinc C0 (v := x2_21) (lv2 := [(2, .int x2_21), (0, .ref q_t), (1, .int p0)]) dX4_rowsThatFit_46 2 rfl (by rw [ex2_21]; rfl) (by decide) rfl ?_
      refine g_goto C0 (tgt := 30) dX4_rowsThatFit_49 (by decide) ?_
      refine g_lv [1, 2, 0] (lv2 := [(0, .ref q_t), (1, .int p0), (2, .int x2_21)]) rfl ?_
      refine g_re [3, 5, 0, 1, 2, 4] (by decide) (ws2 := [ob 4 q_t [.ref q_t_heard, .ref q_t_sheetOf, .ref q_t_soundOf, .ref q_t_ways, .ref q_t_nextWays], aI E.I q_t_ways 4 t_ways_19, aI E.I q_t_heard 10 t_heard, aI E.I q_t_sheetOf 10 t_sheetOf, aI E.I q_t_soundOf 16 t_soundOf, aI E.I q_t_nextWays 4 t_nextWays_20]) rfl ?_
      exact hK8 _ _ _ hw
  · replace hw := hw.2 c4
    refine g_aload_n C0 dX4_rowsThatFit_7 0 rfl ?_
    refine g_get C0 dX4_rowsThatFit_8 0 rfl 3 rfl rfl hinX4 (by decide) (List.mem_of_getElem? (i := 1) rfl) rfl ?_
    refine g_iload_n C0 dX4_rowsThatFit_11 2 rfl ?_
    refine g_aload_n C0 dX4_rowsThatFit_12 0 rfl ?_
    refine g_iconst C0 (v := 0) dX4_rowsThatFit_13 (by decide) ?_
    refine g_callV C0 (q0 := 0) (ci := 4) (c_X4_gapsThatFit l E q_t q_t_heard q_t_sheetOf q_t_soundOf q_t_ways q_t_nextWays 0 t_heard t_sheetOf t_soundOf _ hw) dX4_rowsThatFit_14 gX4_rowsThatFit_X4_gapsThatFit rfl ddV_X4_gapsThatFit rfl (by decide) (by decide) rfl (Nat.le_of_ble_eq_true rfl) [0, 2, 3, 4] [1, 5] rfl (wr := [aI E.I q_t_ways 4 t_ways_2, aI E.I q_t_nextWays 4 t_nextWays]) rfl (by decide) (by decide) (by decide) rfl rfl (fun u hw => ?_)
    obtain ⟨r23, hu_⟩ : ∃ z, z = u := ⟨_, rfl⟩
    subst hu_
    try dsimp only at hw
    show G X E 4 [aI E.I q_t_ways 4 t_ways_2, aI E.I q_t_nextWays 4 t_nextWays, ob 4 q_t [.ref q_t_heard, .ref q_t_sheetOf, .ref q_t_soundOf, .ref q_t_ways, .ref q_t_nextWays], aI E.I q_t_heard 10 t_heard, aI E.I q_t_sheetOf 10 t_sheetOf, aI E.I q_t_soundOf 16 t_soundOf] 0 0 17 [(0, .ref q_t), (1, .int p0), (2, .int x2_1)] [.int r23, .int x2_1, .ref q_t_ways]
    refine g_iload_n C0 dX4_rowsThatFit_17 2 rfl ?_
    refine g_ishr C0 dX4_rowsThatFit_18 ?_
    refine g_iconst C0 (v := 1) dX4_rowsThatFit_19 (by decide) ?_
    refine g_iand C0 dX4_rowsThatFit_20 ?_
    refine g_topi (fun f24 ef24 => ?_)
    replace hw := hw f24 ef24
    obtain ⟨h25, hw⟩ := hw
    refine g_iast C0 (ws2 := [aI E.I q_t_ways 4 (upd t_ways_2 (Int32.toNatClampNeg x2_1) f24), aI E.I q_t_nextWays 4 t_nextWays, ob 4 q_t [.ref q_t_heard, .ref q_t_sheetOf, .ref q_t_soundOf, .ref q_t_ways, .ref q_t_nextWays], aI E.I q_t_heard 10 t_heard, aI E.I q_t_sheetOf 10 t_sheetOf, aI E.I q_t_soundOf 16 t_soundOf]) dX4_rowsThatFit_21 0 rfl h25 rfl ?_
    obtain ⟨x2_26, ex2_26⟩ : ∃ y : Int32, y = x2_1 + 1 := ⟨_, rfl⟩
    replace hw := hw x2_26 ex2_26
    refine g_iinc C0 (v := x2_26) (lv2 := [(2, .int x2_26), (0, .ref q_t), (1, .int p0)]) dX4_rowsThatFit_22 2 rfl (by rw [ex2_26]; rfl) (by decide) rfl ?_
    refine g_goto C0 (tgt := 2) dX4_rowsThatFit_25 (by decide) ?_
    refine g_lv [1, 2, 0] (lv2 := [(0, .ref q_t), (1, .int p0), (2, .int x2_26)]) rfl ?_
    refine g_re [2, 0, 3, 4, 5, 1] (by decide) (ws2 := [ob 4 q_t [.ref q_t_heard, .ref q_t_sheetOf, .ref q_t_soundOf, .ref q_t_ways, .ref q_t_nextWays], aI E.I q_t_ways 4 (upd t_ways_2 (Int32.toNatClampNeg x2_1) f24), aI E.I q_t_heard 10 t_heard, aI E.I q_t_sheetOf 10 t_sheetOf, aI E.I q_t_soundOf 16 t_soundOf, aI E.I q_t_nextWays 4 t_nextWays]) rfl ?_
    exact hK3 _ _ hw
def w_X4_near (p0 : Int32) (p1 : Int32) (Q : Int32 → Prop) : Prop := ∃ n8 : Nat, wL2 (fun (K3 : Int32 → Int32 → Prop) (x2_1 : Int32) (x3_2 : Int32) => (p1 < x3_2 → Q (x2_1 &&& 15)) ∧ (¬ p1 < x3_2 → (4 ≤ x3_2 → Q (x2_1 &&& 15)) ∧ (¬ 4 ≤ x3_2 → ∀ x2_6 : Int32, x2_6 = (x2_1 ||| ((p0 <<< (x3_2 &&& 31)) ||| (p0 >>> (x3_2 &&& 31)))) → (∀ x3_7 : Int32, x3_7 = (x3_2 + 1) → (K3 x2_6 x3_7))))) n8 p0 1
theorem ddS_X4_near : yX4_near.cls ≠ "java/lang/invoke/MethodHandle" ∧ yX4_near.cls ≠ "java/lang/invoke/VarHandle" ∧ (parseMethodDescriptor yX4_near.desc).map (fun d => d.parameters.length) = some 2 := by decide +kernel
set_option maxHeartbeats 4000000 in
set_option maxRecDepth 100000 in
theorem c_X4_near (l : Launch) (E : gE) (p0 : Int32) (p1 : Int32) (Q : Int32 → Prop) (hw : w_X4_near p0 p1 Q) : Ct l E yX4_near wsX4_near { frames := 0, cells := 0, slots := 0, locals := 0 } [.int p0, .int p1] [] (S := Int32) (fun u => some (.int u)) (fun u => Q u) (fun u => []) := by
  unfold w_X4_near at hw
  refine g_start (cc := cX4_near) (nL := 4) (own := RX4) (ret := (some .int)) rfl (by decide) rfl (Nat.le_of_ble_eq_true rfl) (lv0 := [(0, .int p0), (1, .int p1)]) rfl (fun X C0 R1 => ?_)
  refine g_iload_n C0 dX4_near_0 0 rfl ?_
  refine g_istore_n C0 (lv2 := [(2, .int p0), (0, .int p0), (1, .int p1)]) dX4_near_1 (by decide) rfl ?_
  refine g_iconst C0 (v := 1) dX4_near_2 (by decide) ?_
  refine g_istore_n C0 (lv2 := [(3, .int 1), (2, .int p0), (0, .int p0), (1, .int p1)]) dX4_near_3 (by decide) rfl ?_
  refine g_lv [2, 3, 1, 0] (lv2 := [(0, .int p0), (1, .int p1), (2, .int p0), (3, .int 1)]) rfl ?_
  obtain ⟨n8, hw⟩ := hw
  refine wL2_go (P := fun (x2_1 : Int32) (x3_2 : Int32) => G X E 4 [] 0 0 4 [(0, .int p0), (1, .int p1), (2, .int x2_1), (3, .int x3_2)] []) (fun K3 hK3 x2_1 x3_2 hw => ?_) n8 _ _ hw
  refine g_iload_n C0 dX4_near_4 3 rfl ?_
  refine g_iload_n C0 dX4_near_5 1 rfl ?_
  refine g_icmp_gt C0 (tgt := 30) dX4_near_6 (by decide) (fun c4 => ?_) (fun c4 => ?_)
  · replace hw := hw.1 c4
    refine g_iload_n C0 dX4_near_30 2 rfl ?_
    refine g_bipush C0 (v := 15) dX4_near_31 (by decide) ?_
    refine g_iand C0 dX4_near_33 ?_
    exact g_iret C0 R1 dX4_near_34 (x2_1 &&& 15) rfl hw [] (by decide) rfl (by decide) (by decide)
  · replace hw := hw.2 c4
    refine g_iload_n C0 dX4_near_9 3 rfl ?_
    refine g_iconst C0 (v := 4) dX4_near_10 (by decide) ?_
    refine g_icmp_ge C0 (tgt := 30) dX4_near_11 (by decide) (fun c5 => ?_) (fun c5 => ?_)
    · replace hw := hw.1 c5
      refine g_iload_n C0 dX4_near_30 2 rfl ?_
      refine g_bipush C0 (v := 15) dX4_near_31 (by decide) ?_
      refine g_iand C0 dX4_near_33 ?_
      exact g_iret C0 R1 dX4_near_34 (x2_1 &&& 15) rfl hw [] (by decide) rfl (by decide) (by decide)
    · replace hw := hw.2 c5
      refine g_iload_n C0 dX4_near_14 2 rfl ?_
      refine g_iload_n C0 dX4_near_15 0 rfl ?_
      refine g_iload_n C0 dX4_near_16 3 rfl ?_
      refine g_ishl C0 dX4_near_17 ?_
      refine g_iload_n C0 dX4_near_18 0 rfl ?_
      refine g_iload_n C0 dX4_near_19 3 rfl ?_
      refine g_ishr C0 dX4_near_20 ?_
      refine g_ior C0 dX4_near_21 ?_
      refine g_ior C0 dX4_near_22 ?_
      refine g_topi (fun x2_6 ex2_6 => ?_)
      replace hw := hw x2_6 ex2_6
      refine g_istore_n C0 (lv2 := [(2, .int x2_6), (0, .int p0), (1, .int p1), (3, .int x3_2)]) dX4_near_23 (by decide) rfl ?_
      obtain ⟨x3_7, ex3_7⟩ : ∃ y : Int32, y = x3_2 + 1 := ⟨_, rfl⟩
      replace hw := hw x3_7 ex3_7
      refine g_iinc C0 (v := x3_7) (lv2 := [(3, .int x3_7), (2, .int x2_6), (0, .int p0), (1, .int p1)]) dX4_near_24 3 rfl (by rw [ex3_7]; rfl) (by decide) rfl ?_
      refine g_goto C0 (tgt := 4) dX4_near_27 (by decide) ?_
      refine g_lv [2, 3, 1, 0] (lv2 := [(0, .int p0), (1, .int p1), (2, .int x2_6), (3, .int x3_7)]) rfl ?_
      exact hK3 _ _ hw
def w_X4_gapsInRows (p0 : Int32) (p1 : Int32) (t_heard : Nat → Int32) (t_sheetOf : Nat → Int32) (t_soundOf : Nat → Int32) (Q : Int32 → Prop) : Prop := ∃ n31 : Nat, wL2 (fun (K3 : Int32 → Int32 → Prop) (x3_1 : Int32) (x4_2 : Int32) => (p0 ≤ x4_2 → ∃ n15 : Nat, wL2 (fun (K7 : Int32 → Int32 → Prop) (x4_5 : Int32) (x5_6 : Int32) => (x5_6 ≤ p0 → w_X4_gapsThatFit p0 t_heard t_sheetOf t_soundOf (fun (r9 : Int32) => Q ((x3_1 &&& x4_5) &&& r9))) ∧ (¬ x5_6 ≤ p0 → (x5_6 < 0 → w_X4_gapsThatFit p0 t_heard t_sheetOf t_soundOf (fun (r11 : Int32) => Q ((x3_1 &&& x4_5) &&& r11))) ∧ (¬ x5_6 < 0 → w_X4_gapsThatFit x5_6 t_heard t_sheetOf t_soundOf (fun (r12 : Int32) => w_X4_near (x4_5 &&& r12) p1 (fun (r13 : Int32) => ∀ x5_14 : Int32, x5_14 = (x5_6 + (-1)) → (K7 r13 x5_14)))))) n15 15 9) ∧ (¬ p0 ≤ x4_2 → (10 ≤ x4_2 → ∃ n27 : Nat, wL2 (fun (K19 : Int32 → Int32 → Prop) (x4_17 : Int32) (x5_18 : Int32) => (x5_18 ≤ p0 → w_X4_gapsThatFit p0 t_heard t_sheetOf t_soundOf (fun (r21 : Int32) => Q ((x3_1 &&& x4_17) &&& r21))) ∧ (¬ x5_18 ≤ p0 → (x5_18 < 0 → w_X4_gapsThatFit p0 t_heard t_sheetOf t_soundOf (fun (r23 : Int32) => Q ((x3_1 &&& x4_17) &&& r23))) ∧ (¬ x5_18 < 0 → w_X4_gapsThatFit x5_18 t_heard t_sheetOf t_soundOf (fun (r24 : Int32) => w_X4_near (x4_17 &&& r24) p1 (fun (r25 : Int32) => ∀ x5_26 : Int32, x5_26 = (x5_18 + (-1)) → (K19 r25 x5_26)))))) n27 15 9) ∧ (¬ 10 ≤ x4_2 → w_X4_gapsThatFit x4_2 t_heard t_sheetOf t_soundOf (fun (r28 : Int32) => w_X4_near (x3_1 &&& r28) p1 (fun (r29 : Int32) => ∀ x4_30 : Int32, x4_30 = (x4_2 + 1) → (K3 r29 x4_30)))))) n31 15 0
theorem ddV_X4_gapsInRows : yX4_gapsInRows.cls = RX4 ∧ yX4_gapsInRows.cls ≠ "java/lang/invoke/MethodHandle" ∧ yX4_gapsInRows.cls ≠ "java/lang/invoke/VarHandle" ∧ (parseMethodDescriptor yX4_gapsInRows.desc).map (fun d => d.parameters.length) = some 2 := by decide +kernel
set_option maxHeartbeats 4000000 in
set_option maxRecDepth 100000 in
theorem c_X4_gapsInRows (l : Launch) (E : gE) (q_t q_t_heard q_t_sheetOf q_t_soundOf q_t_ways q_t_nextWays : Nat) (p0 : Int32) (p1 : Int32) (t_heard : Nat → Int32) (t_sheetOf : Nat → Int32) (t_soundOf : Nat → Int32) (Q : Int32 → Prop) (hw : w_X4_gapsInRows p0 p1 t_heard t_sheetOf t_soundOf Q) : Ct l E yX4_gapsInRows wsX4_gapsInRows { frames := 3, cells := 0, slots := 0, locals := 69 } [.ref q_t, .int p0, .int p1] [ob 4 q_t [.ref q_t_heard, .ref q_t_sheetOf, .ref q_t_soundOf, .ref q_t_ways, .ref q_t_nextWays], aI E.I q_t_heard 10 t_heard, aI E.I q_t_sheetOf 10 t_sheetOf, aI E.I q_t_soundOf 16 t_soundOf] (S := Int32) (fun u => some (.int u)) (fun u => Q u) (fun u => [ob 4 q_t [.ref q_t_heard, .ref q_t_sheetOf, .ref q_t_soundOf, .ref q_t_ways, .ref q_t_nextWays], aI E.I q_t_heard 10 t_heard, aI E.I q_t_sheetOf 10 t_sheetOf, aI E.I q_t_soundOf 16 t_soundOf]) := by
  unfold w_X4_gapsInRows at hw
  refine g_start (cc := cX4_gapsInRows) (nL := 6) (own := RX4) (ret := (some .int)) rfl (by decide) rfl (Nat.le_of_ble_eq_true rfl) (lv0 := [(0, .ref q_t), (1, .int p0), (2, .int p1)]) rfl (fun X C0 R1 => ?_)
  refine g_bipush C0 (v := 15) dX4_gapsInRows_0 (by decide) ?_
  refine g_istore_n C0 (lv2 := [(3, .int 15), (0, .ref q_t), (1, .int p0), (2, .int p1)]) dX4_gapsInRows_2 (by decide) rfl ?_
  refine g_iconst C0 (v := 0) dX4_gapsInRows_3 (by decide) ?_
  refine g_istore C0 (lv2 := [(4, .int 0), (3, .int 15), (0, .ref q_t), (1, .int p0), (2, .int p1)]) dX4_gapsInRows_4 (by decide) rfl ?_
  refine g_lv [2, 3, 4, 1, 0] (lv2 := [(0, .ref q_t), (1, .int p0), (2, .int p1), (3, .int 15), (4, .int 0)]) rfl ?_
  obtain ⟨n31, hw⟩ := hw
  refine wL2_go (P := fun (x3_1 : Int32) (x4_2 : Int32) => G X E 6 [ob 4 q_t [.ref q_t_heard, .ref q_t_sheetOf, .ref q_t_soundOf, .ref q_t_ways, .ref q_t_nextWays], aI E.I q_t_heard 10 t_heard, aI E.I q_t_sheetOf 10 t_sheetOf, aI E.I q_t_soundOf 16 t_soundOf] 0 0 6 [(0, .ref q_t), (1, .int p0), (2, .int p1), (3, .int x3_1), (4, .int x4_2)] []) (fun K3 hK3 x3_1 x4_2 hw => ?_) n31 _ _ hw
  refine g_iload C0 dX4_gapsInRows_6 4 rfl ?_
  refine g_iload_n C0 dX4_gapsInRows_8 1 rfl ?_
  refine g_icmp_ge C0 (tgt := 38) dX4_gapsInRows_9 (by decide) (fun c4 => ?_) (fun c4 => ?_)
  · replace hw := hw.1 c4
    refine g_bipush C0 (v := 15) dX4_gapsInRows_38 (by decide) ?_
    refine g_istore C0 (lv2 := [(4, .int 15), (0, .ref q_t), (1, .int p0), (2, .int p1), (3, .int x3_1)]) dX4_gapsInRows_40 (by decide) rfl ?_
    refine g_bipush C0 (v := 9) dX4_gapsInRows_42 (by decide) ?_
    refine g_istore C0 (lv2 := [(5, .int 9), (4, .int 15), (0, .ref q_t), (1, .int p0), (2, .int p1), (3, .int x3_1)]) dX4_gapsInRows_44 (by decide) rfl ?_
    refine g_lv [2, 3, 4, 5, 1, 0] (lv2 := [(0, .ref q_t), (1, .int p0), (2, .int p1), (3, .int x3_1), (4, .int 15), (5, .int 9)]) rfl ?_
    obtain ⟨n15, hw⟩ := hw
    refine wL2_go (P := fun (x4_5 : Int32) (x5_6 : Int32) => G X E 6 [ob 4 q_t [.ref q_t_heard, .ref q_t_sheetOf, .ref q_t_soundOf, .ref q_t_ways, .ref q_t_nextWays], aI E.I q_t_heard 10 t_heard, aI E.I q_t_sheetOf 10 t_sheetOf, aI E.I q_t_soundOf 16 t_soundOf] 0 0 46 [(0, .ref q_t), (1, .int p0), (2, .int p1), (3, .int x3_1), (4, .int x4_5), (5, .int x5_6)] []) (fun K7 hK7 x4_5 x5_6 hw => ?_) n15 _ _ hw
    refine g_iload C0 dX4_gapsInRows_46 5 rfl ?_
    refine g_iload_n C0 dX4_gapsInRows_48 1 rfl ?_
    refine g_icmp_le C0 (tgt := 78) dX4_gapsInRows_49 (by decide) (fun c8 => ?_) (fun c8 => ?_)
    · replace hw := hw.1 c8
      refine g_iload_n C0 dX4_gapsInRows_78 3 rfl ?_
      refine g_iload C0 dX4_gapsInRows_79 4 rfl ?_
      refine g_iand C0 dX4_gapsInRows_81 ?_
      refine g_aload_n C0 dX4_gapsInRows_82 0 rfl ?_
      refine g_iload_n C0 dX4_gapsInRows_83 1 rfl ?_
      refine g_callV C0 (q0 := 0) (ci := 4) (c_X4_gapsThatFit l E q_t q_t_heard q_t_sheetOf q_t_soundOf q_t_ways q_t_nextWays p0 t_heard t_sheetOf t_soundOf _ hw) dX4_gapsInRows_84 gX4_gapsInRows_X4_gapsThatFit rfl ddV_X4_gapsThatFit rfl (by decide) (by decide) rfl (Nat.le_of_ble_eq_true rfl) [0, 1, 2, 3] [] rfl (wr := []) rfl (by decide) (by decide) (by decide) rfl rfl (fun u hw => ?_)
      obtain ⟨r9, hu_⟩ : ∃ z, z = u := ⟨_, rfl⟩
      subst hu_
      try dsimp only at hw
      show G X E 6 [ob 4 q_t [.ref q_t_heard, .ref q_t_sheetOf, .ref q_t_soundOf, .ref q_t_ways, .ref q_t_nextWays], aI E.I q_t_heard 10 t_heard, aI E.I q_t_sheetOf 10 t_sheetOf, aI E.I q_t_soundOf 16 t_soundOf] 0 0 87 [(0, .ref q_t), (1, .int p0), (2, .int p1), (3, .int x3_1), (4, .int x4_5), (5, .int x5_6)] [.int r9, .int (x3_1 &&& x4_5)]
      refine g_iand C0 dX4_gapsInRows_87 ?_
      exact g_iret C0 R1 dX4_gapsInRows_88 ((x3_1 &&& x4_5) &&& r9) rfl hw [0, 1, 2, 3] (by decide) rfl (by decide) (by decide)
    · replace hw := hw.2 c8
      refine g_iload C0 dX4_gapsInRows_52 5 rfl ?_
      refine g_if_lt C0 (tgt := 78) dX4_gapsInRows_54 (by decide) (fun c10 => ?_) (fun c10 => ?_)
      · replace hw := hw.1 c10
        refine g_iload_n C0 dX4_gapsInRows_78 3 rfl ?_
        refine g_iload C0 dX4_gapsInRows_79 4 rfl ?_
        refine g_iand C0 dX4_gapsInRows_81 ?_
        refine g_aload_n C0 dX4_gapsInRows_82 0 rfl ?_
        refine g_iload_n C0 dX4_gapsInRows_83 1 rfl ?_
        refine g_callV C0 (q0 := 0) (ci := 4) (c_X4_gapsThatFit l E q_t q_t_heard q_t_sheetOf q_t_soundOf q_t_ways q_t_nextWays p0 t_heard t_sheetOf t_soundOf _ hw) dX4_gapsInRows_84 gX4_gapsInRows_X4_gapsThatFit rfl ddV_X4_gapsThatFit rfl (by decide) (by decide) rfl (Nat.le_of_ble_eq_true rfl) [0, 1, 2, 3] [] rfl (wr := []) rfl (by decide) (by decide) (by decide) rfl rfl (fun u hw => ?_)
        obtain ⟨r11, hu_⟩ : ∃ z, z = u := ⟨_, rfl⟩
        subst hu_
        try dsimp only at hw
        show G X E 6 [ob 4 q_t [.ref q_t_heard, .ref q_t_sheetOf, .ref q_t_soundOf, .ref q_t_ways, .ref q_t_nextWays], aI E.I q_t_heard 10 t_heard, aI E.I q_t_sheetOf 10 t_sheetOf, aI E.I q_t_soundOf 16 t_soundOf] 0 0 87 [(0, .ref q_t), (1, .int p0), (2, .int p1), (3, .int x3_1), (4, .int x4_5), (5, .int x5_6)] [.int r11, .int (x3_1 &&& x4_5)]
        refine g_iand C0 dX4_gapsInRows_87 ?_
        exact g_iret C0 R1 dX4_gapsInRows_88 ((x3_1 &&& x4_5) &&& r11) rfl hw [0, 1, 2, 3] (by decide) rfl (by decide) (by decide)
      · replace hw := hw.2 c10
        refine g_iload C0 dX4_gapsInRows_57 4 rfl ?_
        refine g_aload_n C0 dX4_gapsInRows_59 0 rfl ?_
        refine g_iload C0 dX4_gapsInRows_60 5 rfl ?_
        refine g_callV C0 (q0 := 0) (ci := 4) (c_X4_gapsThatFit l E q_t q_t_heard q_t_sheetOf q_t_soundOf q_t_ways q_t_nextWays x5_6 t_heard t_sheetOf t_soundOf _ hw) dX4_gapsInRows_62 gX4_gapsInRows_X4_gapsThatFit rfl ddV_X4_gapsThatFit rfl (by decide) (by decide) rfl (Nat.le_of_ble_eq_true rfl) [0, 1, 2, 3] [] rfl (wr := []) rfl (by decide) (by decide) (by decide) rfl rfl (fun u hw => ?_)
        obtain ⟨r12, hu_⟩ : ∃ z, z = u := ⟨_, rfl⟩
        subst hu_
        try dsimp only at hw
        show G X E 6 [ob 4 q_t [.ref q_t_heard, .ref q_t_sheetOf, .ref q_t_soundOf, .ref q_t_ways, .ref q_t_nextWays], aI E.I q_t_heard 10 t_heard, aI E.I q_t_sheetOf 10 t_sheetOf, aI E.I q_t_soundOf 16 t_soundOf] 0 0 65 [(0, .ref q_t), (1, .int p0), (2, .int p1), (3, .int x3_1), (4, .int x4_5), (5, .int x5_6)] [.int r12, .int x4_5]
        refine g_iand C0 dX4_gapsInRows_65 ?_
        refine g_iload_n C0 dX4_gapsInRows_66 2 rfl ?_
        refine g_callS C0 (c_X4_near l E (x4_5 &&& r12) p1 _ hw) dX4_gapsInRows_67 gX4_gapsInRows_X4_near rfl ddS_X4_near rfl (by decide) (by decide) rfl (Nat.le_of_ble_eq_true rfl) [] [0, 1, 2, 3] rfl (wr := [ob 4 q_t [.ref q_t_heard, .ref q_t_sheetOf, .ref q_t_soundOf, .ref q_t_ways, .ref q_t_nextWays], aI E.I q_t_heard 10 t_heard, aI E.I q_t_sheetOf 10 t_sheetOf, aI E.I q_t_soundOf 16 t_soundOf]) rfl (by decide) (by decide) (by decide) (fun u hw => ?_)
        obtain ⟨r13, hu_⟩ : ∃ z, z = u := ⟨_, rfl⟩
        subst hu_
        try dsimp only at hw
        show G X E 6 [ob 4 q_t [.ref q_t_heard, .ref q_t_sheetOf, .ref q_t_soundOf, .ref q_t_ways, .ref q_t_nextWays], aI E.I q_t_heard 10 t_heard, aI E.I q_t_sheetOf 10 t_sheetOf, aI E.I q_t_soundOf 16 t_soundOf] 0 0 70 [(0, .ref q_t), (1, .int p0), (2, .int p1), (3, .int x3_1), (4, .int x4_5), (5, .int x5_6)] [.int r13]
        refine g_istore C0 (lv2 := [(4, .int r13), (0, .ref q_t), (1, .int p0), (2, .int p1), (3, .int x3_1), (5, .int x5_6)]) dX4_gapsInRows_70 (by decide) rfl ?_
        obtain ⟨x5_14, ex5_14⟩ : ∃ y : Int32, y = x5_6 + (-1) := ⟨_, rfl⟩
        replace hw := hw x5_14 ex5_14
        refine g_iinc C0 (v := x5_14) (lv2 := [(5, .int x5_14), (4, .int r13), (0, .ref q_t), (1, .int p0), (2, .int p1), (3, .int x3_1)]) dX4_gapsInRows_72 5 rfl (by rw [ex5_14]; rfl) (by decide) rfl ?_
        refine g_goto C0 (tgt := 46) dX4_gapsInRows_75 (by decide) ?_
        refine g_lv [2, 3, 4, 5, 1, 0] (lv2 := [(0, .ref q_t), (1, .int p0), (2, .int p1), (3, .int x3_1), (4, .int r13), (5, .int x5_14)]) rfl ?_
        exact hK7 _ _ hw
  · replace hw := hw.2 c4
    refine g_iload C0 dX4_gapsInRows_12 4 rfl ?_
    refine g_bipush C0 (v := 10) dX4_gapsInRows_14 (by decide) ?_
    refine g_icmp_ge C0 (tgt := 38) dX4_gapsInRows_16 (by decide) (fun c16 => ?_) (fun c16 => ?_)
    · replace hw := hw.1 c16
      refine g_bipush C0 (v := 15) dX4_gapsInRows_38 (by decide) ?_
      refine g_istore C0 (lv2 := [(4, .int 15), (0, .ref q_t), (1, .int p0), (2, .int p1), (3, .int x3_1)]) dX4_gapsInRows_40 (by decide) rfl ?_
      refine g_bipush C0 (v := 9) dX4_gapsInRows_42 (by decide) ?_
      refine g_istore C0 (lv2 := [(5, .int 9), (4, .int 15), (0, .ref q_t), (1, .int p0), (2, .int p1), (3, .int x3_1)]) dX4_gapsInRows_44 (by decide) rfl ?_
      refine g_lv [2, 3, 4, 5, 1, 0] (lv2 := [(0, .ref q_t), (1, .int p0), (2, .int p1), (3, .int x3_1), (4, .int 15), (5, .int 9)]) rfl ?_
      obtain ⟨n27, hw⟩ := hw
      refine wL2_go (P := fun (x4_17 : Int32) (x5_18 : Int32) => G X E 6 [ob 4 q_t [.ref q_t_heard, .ref q_t_sheetOf, .ref q_t_soundOf, .ref q_t_ways, .ref q_t_nextWays], aI E.I q_t_heard 10 t_heard, aI E.I q_t_sheetOf 10 t_sheetOf, aI E.I q_t_soundOf 16 t_soundOf] 0 0 46 [(0, .ref q_t), (1, .int p0), (2, .int p1), (3, .int x3_1), (4, .int x4_17), (5, .int x5_18)] []) (fun K19 hK19 x4_17 x5_18 hw => ?_) n27 _ _ hw
      refine g_iload C0 dX4_gapsInRows_46 5 rfl ?_
      refine g_iload_n C0 dX4_gapsInRows_48 1 rfl ?_
      refine g_icmp_le C0 (tgt := 78) dX4_gapsInRows_49 (by decide) (fun c20 => ?_) (fun c20 => ?_)
      · replace hw := hw.1 c20
        refine g_iload_n C0 dX4_gapsInRows_78 3 rfl ?_
        refine g_iload C0 dX4_gapsInRows_79 4 rfl ?_
        refine g_iand C0 dX4_gapsInRows_81 ?_
        refine g_aload_n C0 dX4_gapsInRows_82 0 rfl ?_
        refine g_iload_n C0 dX4_gapsInRows_83 1 rfl ?_
        refine g_callV C0 (q0 := 0) (ci := 4) (c_X4_gapsThatFit l E q_t q_t_heard q_t_sheetOf q_t_soundOf q_t_ways q_t_nextWays p0 t_heard t_sheetOf t_soundOf _ hw) dX4_gapsInRows_84 gX4_gapsInRows_X4_gapsThatFit rfl ddV_X4_gapsThatFit rfl (by decide) (by decide) rfl (Nat.le_of_ble_eq_true rfl) [0, 1, 2, 3] [] rfl (wr := []) rfl (by decide) (by decide) (by decide) rfl rfl (fun u hw => ?_)
        obtain ⟨r21, hu_⟩ : ∃ z, z = u := ⟨_, rfl⟩
        subst hu_
        try dsimp only at hw
        show G X E 6 [ob 4 q_t [.ref q_t_heard, .ref q_t_sheetOf, .ref q_t_soundOf, .ref q_t_ways, .ref q_t_nextWays], aI E.I q_t_heard 10 t_heard, aI E.I q_t_sheetOf 10 t_sheetOf, aI E.I q_t_soundOf 16 t_soundOf] 0 0 87 [(0, .ref q_t), (1, .int p0), (2, .int p1), (3, .int x3_1), (4, .int x4_17), (5, .int x5_18)] [.int r21, .int (x3_1 &&& x4_17)]
        refine g_iand C0 dX4_gapsInRows_87 ?_
        exact g_iret C0 R1 dX4_gapsInRows_88 ((x3_1 &&& x4_17) &&& r21) rfl hw [0, 1, 2, 3] (by decide) rfl (by decide) (by decide)
      · replace hw := hw.2 c20
        refine g_iload C0 dX4_gapsInRows_52 5 rfl ?_
        refine g_if_lt C0 (tgt := 78) dX4_gapsInRows_54 (by decide) (fun c22 => ?_) (fun c22 => ?_)
        · replace hw := hw.1 c22
          refine g_iload_n C0 dX4_gapsInRows_78 3 rfl ?_
          refine g_iload C0 dX4_gapsInRows_79 4 rfl ?_
          refine g_iand C0 dX4_gapsInRows_81 ?_
          refine g_aload_n C0 dX4_gapsInRows_82 0 rfl ?_
          refine g_iload_n C0 dX4_gapsInRows_83 1 rfl ?_
          refine g_callV C0 (q0 := 0) (ci := 4) (c_X4_gapsThatFit l E q_t q_t_heard q_t_sheetOf q_t_soundOf q_t_ways q_t_nextWays p0 t_heard t_sheetOf t_soundOf _ hw) dX4_gapsInRows_84 gX4_gapsInRows_X4_gapsThatFit rfl ddV_X4_gapsThatFit rfl (by decide) (by decide) rfl (Nat.le_of_ble_eq_true rfl) [0, 1, 2, 3] [] rfl (wr := []) rfl (by decide) (by decide) (by decide) rfl rfl (fun u hw => ?_)
          obtain ⟨r23, hu_⟩ : ∃ z, z = u := ⟨_, rfl⟩
          subst hu_
          try dsimp only at hw
          show G X E 6 [ob 4 q_t [.ref q_t_heard, .ref q_t_sheetOf, .ref q_t_soundOf, .ref q_t_ways, .ref q_t_nextWays], aI E.I q_t_heard 10 t_heard, aI E.I q_t_sheetOf 10 t_sheetOf, aI E.I q_t_soundOf 16 t_soundOf] 0 0 87 [(0, .ref q_t), (1, .int p0), (2, .int p1), (3, .int x3_1), (4, .int x4_17), (5, .int x5_18)] [.int r23, .int (x3_1 &&& x4_17)]
          refine g_iand C0 dX4_gapsInRows_87 ?_
          exact g_iret C0 R1 dX4_gapsInRows_88 ((x3_1 &&& x4_17) &&& r23) rfl hw [0, 1, 2, 3] (by decide) rfl (by decide) (by decide)
        · replace hw := hw.2 c22
          refine g_iload C0 dX4_gapsInRows_57 4 rfl ?_
          refine g_aload_n C0 dX4_gapsInRows_59 0 rfl ?_
          refine g_iload C0 dX4_gapsInRows_60 5 rfl ?_
          refine g_callV C0 (q0 := 0) (ci := 4) (c_X4_gapsThatFit l E q_t q_t_heard q_t_sheetOf q_t_soundOf q_t_ways q_t_nextWays x5_18 t_heard t_sheetOf t_soundOf _ hw) dX4_gapsInRows_62 gX4_gapsInRows_X4_gapsThatFit rfl ddV_X4_gapsThatFit rfl (by decide) (by decide) rfl (Nat.le_of_ble_eq_true rfl) [0, 1, 2, 3] [] rfl (wr := []) rfl (by decide) (by decide) (by decide) rfl rfl (fun u hw => ?_)
          obtain ⟨r24, hu_⟩ : ∃ z, z = u := ⟨_, rfl⟩
          subst hu_
          try dsimp only at hw
          show G X E 6 [ob 4 q_t [.ref q_t_heard, .ref q_t_sheetOf, .ref q_t_soundOf, .ref q_t_ways, .ref q_t_nextWays], aI E.I q_t_heard 10 t_heard, aI E.I q_t_sheetOf 10 t_sheetOf, aI E.I q_t_soundOf 16 t_soundOf] 0 0 65 [(0, .ref q_t), (1, .int p0), (2, .int p1), (3, .int x3_1), (4, .int x4_17), (5, .int x5_18)] [.int r24, .int x4_17]
          refine g_iand C0 dX4_gapsInRows_65 ?_
          refine g_iload_n C0 dX4_gapsInRows_66 2 rfl ?_
          refine g_callS C0 (c_X4_near l E (x4_17 &&& r24) p1 _ hw) dX4_gapsInRows_67 gX4_gapsInRows_X4_near rfl ddS_X4_near rfl (by decide) (by decide) rfl (Nat.le_of_ble_eq_true rfl) [] [0, 1, 2, 3] rfl (wr := [ob 4 q_t [.ref q_t_heard, .ref q_t_sheetOf, .ref q_t_soundOf, .ref q_t_ways, .ref q_t_nextWays], aI E.I q_t_heard 10 t_heard, aI E.I q_t_sheetOf 10 t_sheetOf, aI E.I q_t_soundOf 16 t_soundOf]) rfl (by decide) (by decide) (by decide) (fun u hw => ?_)
          obtain ⟨r25, hu_⟩ : ∃ z, z = u := ⟨_, rfl⟩
          subst hu_
          try dsimp only at hw
          show G X E 6 [ob 4 q_t [.ref q_t_heard, .ref q_t_sheetOf, .ref q_t_soundOf, .ref q_t_ways, .ref q_t_nextWays], aI E.I q_t_heard 10 t_heard, aI E.I q_t_sheetOf 10 t_sheetOf, aI E.I q_t_soundOf 16 t_soundOf] 0 0 70 [(0, .ref q_t), (1, .int p0), (2, .int p1), (3, .int x3_1), (4, .int x4_17), (5, .int x5_18)] [.int r25]
          refine g_istore C0 (lv2 := [(4, .int r25), (0, .ref q_t), (1, .int p0), (2, .int p1), (3, .int x3_1), (5, .int x5_18)]) dX4_gapsInRows_70 (by decide) rfl ?_
          obtain ⟨x5_26, ex5_26⟩ : ∃ y : Int32, y = x5_18 + (-1) := ⟨_, rfl⟩
          replace hw := hw x5_26 ex5_26
          refine g_iinc C0 (v := x5_26) (lv2 := [(5, .int x5_26), (4, .int r25), (0, .ref q_t), (1, .int p0), (2, .int p1), (3, .int x3_1)]) dX4_gapsInRows_72 5 rfl (by rw [ex5_26]; rfl) (by decide) rfl ?_
          refine g_goto C0 (tgt := 46) dX4_gapsInRows_75 (by decide) ?_
          refine g_lv [2, 3, 4, 5, 1, 0] (lv2 := [(0, .ref q_t), (1, .int p0), (2, .int p1), (3, .int x3_1), (4, .int r25), (5, .int x5_26)]) rfl ?_
          exact hK19 _ _ hw
    · replace hw := hw.2 c16
      refine g_iload_n C0 dX4_gapsInRows_19 3 rfl ?_
      refine g_aload_n C0 dX4_gapsInRows_20 0 rfl ?_
      refine g_iload C0 dX4_gapsInRows_21 4 rfl ?_
      refine g_callV C0 (q0 := 0) (ci := 4) (c_X4_gapsThatFit l E q_t q_t_heard q_t_sheetOf q_t_soundOf q_t_ways q_t_nextWays x4_2 t_heard t_sheetOf t_soundOf _ hw) dX4_gapsInRows_23 gX4_gapsInRows_X4_gapsThatFit rfl ddV_X4_gapsThatFit rfl (by decide) (by decide) rfl (Nat.le_of_ble_eq_true rfl) [0, 1, 2, 3] [] rfl (wr := []) rfl (by decide) (by decide) (by decide) rfl rfl (fun u hw => ?_)
      obtain ⟨r28, hu_⟩ : ∃ z, z = u := ⟨_, rfl⟩
      subst hu_
      try dsimp only at hw
      show G X E 6 [ob 4 q_t [.ref q_t_heard, .ref q_t_sheetOf, .ref q_t_soundOf, .ref q_t_ways, .ref q_t_nextWays], aI E.I q_t_heard 10 t_heard, aI E.I q_t_sheetOf 10 t_sheetOf, aI E.I q_t_soundOf 16 t_soundOf] 0 0 26 [(0, .ref q_t), (1, .int p0), (2, .int p1), (3, .int x3_1), (4, .int x4_2)] [.int r28, .int x3_1]
      refine g_iand C0 dX4_gapsInRows_26 ?_
      refine g_iload_n C0 dX4_gapsInRows_27 2 rfl ?_
      refine g_callS C0 (c_X4_near l E (x3_1 &&& r28) p1 _ hw) dX4_gapsInRows_28 gX4_gapsInRows_X4_near rfl ddS_X4_near rfl (by decide) (by decide) rfl (Nat.le_of_ble_eq_true rfl) [] [0, 1, 2, 3] rfl (wr := [ob 4 q_t [.ref q_t_heard, .ref q_t_sheetOf, .ref q_t_soundOf, .ref q_t_ways, .ref q_t_nextWays], aI E.I q_t_heard 10 t_heard, aI E.I q_t_sheetOf 10 t_sheetOf, aI E.I q_t_soundOf 16 t_soundOf]) rfl (by decide) (by decide) (by decide) (fun u hw => ?_)
      obtain ⟨r29, hu_⟩ : ∃ z, z = u := ⟨_, rfl⟩
      subst hu_
      try dsimp only at hw
      show G X E 6 [ob 4 q_t [.ref q_t_heard, .ref q_t_sheetOf, .ref q_t_soundOf, .ref q_t_ways, .ref q_t_nextWays], aI E.I q_t_heard 10 t_heard, aI E.I q_t_sheetOf 10 t_sheetOf, aI E.I q_t_soundOf 16 t_soundOf] 0 0 31 [(0, .ref q_t), (1, .int p0), (2, .int p1), (3, .int x3_1), (4, .int x4_2)] [.int r29]
      refine g_istore_n C0 (lv2 := [(3, .int r29), (0, .ref q_t), (1, .int p0), (2, .int p1), (4, .int x4_2)]) dX4_gapsInRows_31 (by decide) rfl ?_
      obtain ⟨x4_30, ex4_30⟩ : ∃ y : Int32, y = x4_2 + 1 := ⟨_, rfl⟩
      replace hw := hw x4_30 ex4_30
      refine g_iinc C0 (v := x4_30) (lv2 := [(4, .int x4_30), (3, .int r29), (0, .ref q_t), (1, .int p0), (2, .int p1)]) dX4_gapsInRows_32 4 rfl (by rw [ex4_30]; rfl) (by decide) rfl ?_
      refine g_goto C0 (tgt := 6) dX4_gapsInRows_35 (by decide) ?_
      refine g_lv [2, 3, 4, 1, 0] (lv2 := [(0, .ref q_t), (1, .int p0), (2, .int p1), (3, .int r29), (4, .int x4_30)]) rfl ?_
      exact hK3 _ _ hw
def w_X4_onlyGap (p0 : Int32) (p1 : Int32) (t_heard : Nat → Int32) (t_sheetOf : Nat → Int32) (t_soundOf : Nat → Int32) (Q : Int32 → Prop) : Prop := w_X4_gapsInRows p0 p1 t_heard t_sheetOf t_soundOf (fun (r1 : Int32) => w_J6_bitCount_0f7a4 r1 (fun (r2 : Int32) => (¬ r2 = 1 → Q (-6)) ∧ (r2 = 1 → w_J6_numberOfTrailingZeros_0f7a4 r1 (fun (r4 : Int32) => Q r4))))
theorem ddV_X4_onlyGap : yX4_onlyGap.cls = RX4 ∧ yX4_onlyGap.cls ≠ "java/lang/invoke/MethodHandle" ∧ yX4_onlyGap.cls ≠ "java/lang/invoke/VarHandle" ∧ (parseMethodDescriptor yX4_onlyGap.desc).map (fun d => d.parameters.length) = some 2 := by decide +kernel
set_option maxHeartbeats 4000000 in
set_option maxRecDepth 100000 in
theorem c_X4_onlyGap (l : Launch) (E : gE) (q_t q_t_heard q_t_sheetOf q_t_soundOf q_t_ways q_t_nextWays : Nat) (p0 : Int32) (p1 : Int32) (t_heard : Nat → Int32) (t_sheetOf : Nat → Int32) (t_soundOf : Nat → Int32) (Q : Int32 → Prop) (hw : w_X4_onlyGap p0 p1 t_heard t_sheetOf t_soundOf Q) : Ct l E yX4_onlyGap wsX4_onlyGap { frames := 4, cells := 0, slots := 0, locals := 94 } [.ref q_t, .int p0, .int p1] [ob 4 q_t [.ref q_t_heard, .ref q_t_sheetOf, .ref q_t_soundOf, .ref q_t_ways, .ref q_t_nextWays], aI E.I q_t_heard 10 t_heard, aI E.I q_t_sheetOf 10 t_sheetOf, aI E.I q_t_soundOf 16 t_soundOf] (S := Int32) (fun u => some (.int u)) (fun u => Q u) (fun u => [ob 4 q_t [.ref q_t_heard, .ref q_t_sheetOf, .ref q_t_soundOf, .ref q_t_ways, .ref q_t_nextWays], aI E.I q_t_heard 10 t_heard, aI E.I q_t_sheetOf 10 t_sheetOf, aI E.I q_t_soundOf 16 t_soundOf]) := by
  unfold w_X4_onlyGap at hw
  refine g_start (cc := cX4_onlyGap) (nL := 4) (own := RX4) (ret := (some .int)) rfl (by decide) rfl (Nat.le_of_ble_eq_true rfl) (lv0 := [(0, .ref q_t), (1, .int p0), (2, .int p1)]) rfl (fun X C0 R1 => ?_)
  refine g_aload_n C0 dX4_onlyGap_0 0 rfl ?_
  refine g_iload_n C0 dX4_onlyGap_1 1 rfl ?_
  refine g_iload_n C0 dX4_onlyGap_2 2 rfl ?_
  refine g_callV C0 (q0 := 0) (ci := 4) (c_X4_gapsInRows l E q_t q_t_heard q_t_sheetOf q_t_soundOf q_t_ways q_t_nextWays p0 p1 t_heard t_sheetOf t_soundOf _ hw) dX4_onlyGap_3 gX4_onlyGap_X4_gapsInRows rfl ddV_X4_gapsInRows rfl (by decide) (by decide) rfl (Nat.le_of_ble_eq_true rfl) [0, 1, 2, 3] [] rfl (wr := []) rfl (by decide) (by decide) (by decide) rfl rfl (fun u hw => ?_)
  obtain ⟨r1, hu_⟩ : ∃ z, z = u := ⟨_, rfl⟩
  subst hu_
  try dsimp only at hw
  show G X E 4 [ob 4 q_t [.ref q_t_heard, .ref q_t_sheetOf, .ref q_t_soundOf, .ref q_t_ways, .ref q_t_nextWays], aI E.I q_t_heard 10 t_heard, aI E.I q_t_sheetOf 10 t_sheetOf, aI E.I q_t_soundOf 16 t_soundOf] 0 0 6 [(0, .ref q_t), (1, .int p0), (2, .int p1)] [.int r1]
  refine g_istore_n C0 (lv2 := [(3, .int r1), (0, .ref q_t), (1, .int p0), (2, .int p1)]) dX4_onlyGap_6 (by decide) rfl ?_
  refine g_iload_n C0 dX4_onlyGap_7 0 rfl ?_
  refine g_callS C0 (c_J6_bitCount_0f7a4 l E r1 _ hw) dX4_onlyGap_8 gX4_onlyGap_J6_bitCount_0f7a4 rfl ddS_J6_bitCount_0f7a4 rfl (by decide) (by decide) rfl (Nat.le_of_ble_eq_true rfl) [] [0, 1, 2, 3] rfl (wr := [ob 4 q_t [.ref q_t_heard, .ref q_t_sheetOf, .ref q_t_soundOf, .ref q_t_ways, .ref q_t_nextWays], aI E.I q_t_heard 10 t_heard, aI E.I q_t_sheetOf 10 t_sheetOf, aI E.I q_t_soundOf 16 t_soundOf]) rfl (by decide) (by decide) (by decide) (fun u hw => ?_)
  obtain ⟨r2, hu_⟩ : ∃ z, z = u := ⟨_, rfl⟩
  subst hu_
  try dsimp only at hw
  show G X E 4 [ob 4 q_t [.ref q_t_heard, .ref q_t_sheetOf, .ref q_t_soundOf, .ref q_t_ways, .ref q_t_nextWays], aI E.I q_t_heard 10 t_heard, aI E.I q_t_sheetOf 10 t_sheetOf, aI E.I q_t_soundOf 16 t_soundOf] 0 0 11 [(3, .int r1), (0, .ref q_t), (1, .int p0), (2, .int p1)] [.int r2]
  refine g_iconst C0 (v := 1) dX4_onlyGap_11 (by decide) ?_
  refine g_icmp_ne C0 (tgt := 22) dX4_onlyGap_12 (by decide) (fun c3 => ?_) (fun c3 => ?_)
  · replace hw := hw.1 c3
    refine g_bipush C0 (v := (-6)) dX4_onlyGap_22 (by decide) ?_
    exact g_iret C0 R1 dX4_onlyGap_24 (-6) rfl hw [0, 1, 2, 3] (by decide) rfl (by decide) (by decide)
  · replace hw := hw.2 c3
    refine g_iload_n C0 dX4_onlyGap_15 0 rfl ?_
    refine g_callS C0 (c_J6_numberOfTrailingZeros_0f7a4 l E r1 _ hw) dX4_onlyGap_16 gX4_onlyGap_J6_numberOfTrailingZeros_0f7a4 rfl ddS_J6_numberOfTrailingZeros_0f7a4 rfl (by decide) (by decide) rfl (Nat.le_of_ble_eq_true rfl) [] [0, 1, 2, 3] rfl (wr := [ob 4 q_t [.ref q_t_heard, .ref q_t_sheetOf, .ref q_t_soundOf, .ref q_t_ways, .ref q_t_nextWays], aI E.I q_t_heard 10 t_heard, aI E.I q_t_sheetOf 10 t_sheetOf, aI E.I q_t_soundOf 16 t_soundOf]) rfl (by decide) (by decide) (by decide) (fun u hw => ?_)
    obtain ⟨r4, hu_⟩ : ∃ z, z = u := ⟨_, rfl⟩
    subst hu_
    try dsimp only at hw
    show G X E 4 [ob 4 q_t [.ref q_t_heard, .ref q_t_sheetOf, .ref q_t_soundOf, .ref q_t_ways, .ref q_t_nextWays], aI E.I q_t_heard 10 t_heard, aI E.I q_t_sheetOf 10 t_sheetOf, aI E.I q_t_soundOf 16 t_soundOf] 0 0 19 [(3, .int r1), (0, .ref q_t), (1, .int p0), (2, .int p1)] [.int r4]
    refine g_goto C0 (tgt := 24) dX4_onlyGap_19 (by decide) ?_
    exact g_iret C0 R1 dX4_onlyGap_24 r4 rfl hw [0, 1, 2, 3] (by decide) rfl (by decide) (by decide)
def w_X4_pairsAlike (p0 : Int32) (t_soundOf : Nat → Int32) (Q : Int32 → Prop) : Prop := ∃ n19 : Nat, wL2 (fun (K3 : Int32 → Int32 → Prop) (x2_1 : Int32) (x3_2 : Int32) => (4 ≤ x3_2 → Q x2_1) ∧ (¬ 4 ≤ x3_2 → ∀ x4_5 : Int32, x4_5 = (x3_2 + 1) → (∃ n18 : Nat, wL2 (fun (K8 : Int32 → Int32 → Prop) (x2_6 : Int32) (x4_7 : Int32) => (4 ≤ x4_7 → ∀ x3_10 : Int32, x3_10 = (x3_2 + 1) → (K3 x2_6 x3_10)) ∧ (¬ 4 ≤ x4_7 → w_X4_soundAt p0 x3_2 t_soundOf (fun (r11 : Int32) => w_X4_soundAt p0 x4_7 t_soundOf (fun (r12 : Int32) => wj1 (fun (J14 : Int32 → Prop) => (¬ r11 = r12 → J14 x2_6) ∧ (r11 = r12 → ∀ x2_17 : Int32, x2_17 = (x2_6 + 1) → (J14 x2_17))) (fun (x2_13 : Int32) => ∀ x4_15 : Int32, x4_15 = (x4_7 + 1) → (K8 x2_13 x4_15)))))) n18 x2_1 x4_5))) n19 0 0
theorem ddV_X4_pairsAlike : yX4_pairsAlike.cls = RX4 ∧ yX4_pairsAlike.cls ≠ "java/lang/invoke/MethodHandle" ∧ yX4_pairsAlike.cls ≠ "java/lang/invoke/VarHandle" ∧ (parseMethodDescriptor yX4_pairsAlike.desc).map (fun d => d.parameters.length) = some 1 := by decide +kernel
set_option maxHeartbeats 4000000 in
set_option maxRecDepth 100000 in
theorem c_X4_pairsAlike (l : Launch) (E : gE) (q_t q_t_heard q_t_sheetOf q_t_soundOf q_t_ways q_t_nextWays : Nat) (p0 : Int32) (t_soundOf : Nat → Int32) (Q : Int32 → Prop) (hw : w_X4_pairsAlike p0 t_soundOf Q) : Ct l E yX4_pairsAlike wsX4_pairsAlike { frames := 2, cells := 0, slots := 0, locals := 45 } [.ref q_t, .int p0] [ob 4 q_t [.ref q_t_heard, .ref q_t_sheetOf, .ref q_t_soundOf, .ref q_t_ways, .ref q_t_nextWays], aI E.I q_t_soundOf 16 t_soundOf] (S := Int32) (fun u => some (.int u)) (fun u => Q u) (fun u => [ob 4 q_t [.ref q_t_heard, .ref q_t_sheetOf, .ref q_t_soundOf, .ref q_t_ways, .ref q_t_nextWays], aI E.I q_t_soundOf 16 t_soundOf]) := by
  unfold w_X4_pairsAlike at hw
  refine g_start (cc := cX4_pairsAlike) (nL := 5) (own := RX4) (ret := (some .int)) rfl (by decide) rfl (Nat.le_of_ble_eq_true rfl) (lv0 := [(0, .ref q_t), (1, .int p0)]) rfl (fun X C0 R1 => ?_)
  refine g_iconst C0 (v := 0) dX4_pairsAlike_0 (by decide) ?_
  refine g_istore_n C0 (lv2 := [(2, .int 0), (0, .ref q_t), (1, .int p0)]) dX4_pairsAlike_1 (by decide) rfl ?_
  refine g_iconst C0 (v := 0) dX4_pairsAlike_2 (by decide) ?_
  refine g_istore_n C0 (lv2 := [(3, .int 0), (2, .int 0), (0, .ref q_t), (1, .int p0)]) dX4_pairsAlike_3 (by decide) rfl ?_
  refine g_lv [2, 3, 1, 0] (lv2 := [(0, .ref q_t), (1, .int p0), (2, .int 0), (3, .int 0)]) rfl ?_
  obtain ⟨n19, hw⟩ := hw
  refine wL2_go (P := fun (x2_1 : Int32) (x3_2 : Int32) => G X E 5 [ob 4 q_t [.ref q_t_heard, .ref q_t_sheetOf, .ref q_t_soundOf, .ref q_t_ways, .ref q_t_nextWays], aI E.I q_t_soundOf 16 t_soundOf] 0 0 4 [(0, .ref q_t), (1, .int p0), (2, .int x2_1), (3, .int x3_2)] []) (fun K3 hK3 x2_1 x3_2 hw => ?_) n19 _ _ hw
  refine g_iload_n C0 dX4_pairsAlike_4 3 rfl ?_
  refine g_iconst C0 (v := 4) dX4_pairsAlike_5 (by decide) ?_
  refine g_icmp_ge C0 (tgt := 51) dX4_pairsAlike_6 (by decide) (fun c4 => ?_) (fun c4 => ?_)
  · replace hw := hw.1 c4
    refine g_iload_n C0 dX4_pairsAlike_51 2 rfl ?_
    exact g_iret C0 R1 dX4_pairsAlike_52 x2_1 rfl hw [0, 1] (by decide) rfl (by decide) (by decide)
  · replace hw := hw.2 c4
    refine g_iload_n C0 dX4_pairsAlike_9 3 rfl ?_
    refine g_iconst C0 (v := 1) dX4_pairsAlike_10 (by decide) ?_
    refine g_iadd C0 dX4_pairsAlike_11 ?_
    refine g_topi (fun x4_5 ex4_5 => ?_)
    replace hw := hw x4_5 ex4_5
    refine g_istore C0 (lv2 := [(4, .int x4_5), (0, .ref q_t), (1, .int p0), (2, .int x2_1), (3, .int x3_2)]) dX4_pairsAlike_12 (by decide) rfl ?_
    refine g_lv [1, 2, 3, 4, 0] (lv2 := [(0, .ref q_t), (1, .int p0), (2, .int x2_1), (3, .int x3_2), (4, .int x4_5)]) rfl ?_
    obtain ⟨n18, hw⟩ := hw
    refine wL2_go (P := fun (x2_6 : Int32) (x4_7 : Int32) => G X E 5 [ob 4 q_t [.ref q_t_heard, .ref q_t_sheetOf, .ref q_t_soundOf, .ref q_t_ways, .ref q_t_nextWays], aI E.I q_t_soundOf 16 t_soundOf] 0 0 14 [(0, .ref q_t), (1, .int p0), (2, .int x2_6), (3, .int x3_2), (4, .int x4_7)] []) (fun K8 hK8 x2_6 x4_7 hw => ?_) n18 _ _ hw
    refine g_iload C0 dX4_pairsAlike_14 4 rfl ?_
    refine g_iconst C0 (v := 4) dX4_pairsAlike_16 (by decide) ?_
    refine g_icmp_ge C0 (tgt := 45) dX4_pairsAlike_17 (by decide) (fun c9 => ?_) (fun c9 => ?_)
    · replace hw := hw.1 c9
      obtain ⟨x3_10, ex3_10⟩ : ∃ y : Int32, y = x3_2 + 1 := ⟨_, rfl⟩
      replace hw := hw x3_10 ex3_10
      refine g_iinc C0 (v := x3_10) (lv2 := [(3, .int x3_10), (0, .ref q_t), (1, .int p0), (2, .int x2_6), (4, .int x4_7)]) dX4_pairsAlike_45 3 rfl (by rw [ex3_10]; rfl) (by decide) rfl ?_
      refine g_goto C0 (tgt := 4) dX4_pairsAlike_48 (by decide) ?_
      refine g_lv [1, 2, 3, 0] (lv2 := [(0, .ref q_t), (1, .int p0), (2, .int x2_6), (3, .int x3_10)]) rfl ?_
      exact hK3 _ _ hw
    · replace hw := hw.2 c9
      refine g_aload_n C0 dX4_pairsAlike_20 0 rfl ?_
      refine g_iload_n C0 dX4_pairsAlike_21 1 rfl ?_
      refine g_iload_n C0 dX4_pairsAlike_22 3 rfl ?_
      refine g_callV C0 (q0 := 0) (ci := 4) (c_X4_soundAt l E q_t q_t_heard q_t_sheetOf q_t_soundOf q_t_ways q_t_nextWays p0 x3_2 t_soundOf _ hw) dX4_pairsAlike_23 gX4_pairsAlike_X4_soundAt rfl ddV_X4_soundAt rfl (by decide) (by decide) rfl (Nat.le_of_ble_eq_true rfl) [0, 1] [] rfl (wr := []) rfl (by decide) (by decide) (by decide) rfl rfl (fun u hw => ?_)
      obtain ⟨r11, hu_⟩ : ∃ z, z = u := ⟨_, rfl⟩
      subst hu_
      try dsimp only at hw
      show G X E 5 [ob 4 q_t [.ref q_t_heard, .ref q_t_sheetOf, .ref q_t_soundOf, .ref q_t_ways, .ref q_t_nextWays], aI E.I q_t_soundOf 16 t_soundOf] 0 0 26 [(0, .ref q_t), (1, .int p0), (2, .int x2_6), (3, .int x3_2), (4, .int x4_7)] [.int r11]
      refine g_aload_n C0 dX4_pairsAlike_26 0 rfl ?_
      refine g_iload_n C0 dX4_pairsAlike_27 1 rfl ?_
      refine g_iload C0 dX4_pairsAlike_28 4 rfl ?_
      refine g_callV C0 (q0 := 0) (ci := 4) (c_X4_soundAt l E q_t q_t_heard q_t_sheetOf q_t_soundOf q_t_ways q_t_nextWays p0 x4_7 t_soundOf _ hw) dX4_pairsAlike_30 gX4_pairsAlike_X4_soundAt rfl ddV_X4_soundAt rfl (by decide) (by decide) rfl (Nat.le_of_ble_eq_true rfl) [0, 1] [] rfl (wr := []) rfl (by decide) (by decide) (by decide) rfl rfl (fun u hw => ?_)
      obtain ⟨r12, hu_⟩ : ∃ z, z = u := ⟨_, rfl⟩
      subst hu_
      try dsimp only at hw
      show G X E 5 [ob 4 q_t [.ref q_t_heard, .ref q_t_sheetOf, .ref q_t_soundOf, .ref q_t_ways, .ref q_t_nextWays], aI E.I q_t_soundOf 16 t_soundOf] 0 0 33 [(0, .ref q_t), (1, .int p0), (2, .int x2_6), (3, .int x3_2), (4, .int x4_7)] [.int r12, .int r11]
      refine wj1_go (P := fun (x2_13 : Int32) => G X E 5 [ob 4 q_t [.ref q_t_heard, .ref q_t_sheetOf, .ref q_t_soundOf, .ref q_t_ways, .ref q_t_nextWays], aI E.I q_t_soundOf 16 t_soundOf] 0 0 39 [(0, .ref q_t), (1, .int p0), (2, .int x2_13), (3, .int x3_2), (4, .int x4_7)] []) hw (fun x2_13 hw => ?_) (fun J14 hJ14 hw => ?_)
      · obtain ⟨x4_15, ex4_15⟩ : ∃ y : Int32, y = x4_7 + 1 := ⟨_, rfl⟩
        replace hw := hw x4_15 ex4_15
        refine g_iinc C0 (v := x4_15) (lv2 := [(4, .int x4_15), (0, .ref q_t), (1, .int p0), (2, .int x2_13), (3, .int x3_2)]) dX4_pairsAlike_39 4 rfl (by rw [ex4_15]; rfl) (by decide) rfl ?_
        refine g_goto C0 (tgt := 14) dX4_pairsAlike_42 (by decide) ?_
        refine g_lv [1, 2, 3, 4, 0] (lv2 := [(0, .ref q_t), (1, .int p0), (2, .int x2_13), (3, .int x3_2), (4, .int x4_15)]) rfl ?_
        exact hK8 _ _ hw
      · refine g_icmp_ne C0 (tgt := 39) dX4_pairsAlike_33 (by decide) (fun c16 => ?_) (fun c16 => ?_)
        · replace hw := hw.1 c16
          exact hJ14 _ hw
        · replace hw := hw.2 c16
          obtain ⟨x2_17, ex2_17⟩ : ∃ y : Int32, y = x2_6 + 1 := ⟨_, rfl⟩
          replace hw := hw x2_17 ex2_17
          refine g_iinc C0 (v := x2_17) (lv2 := [(2, .int x2_17), (0, .ref q_t), (1, .int p0), (3, .int x3_2), (4, .int x4_7)]) dX4_pairsAlike_36 2 rfl (by rw [ex2_17]; rfl) (by decide) rfl ?_
          refine g_lv [1, 2, 0, 3, 4] (lv2 := [(0, .ref q_t), (1, .int p0), (2, .int x2_17), (3, .int x3_2), (4, .int x4_7)]) rfl ?_
          exact hJ14 _ hw
