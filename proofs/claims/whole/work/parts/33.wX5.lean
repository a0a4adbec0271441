def w_X5_holding (t_glue : Nat → Int32) (Q : Int32 → Prop) : Prop := ∃ n11 : Nat, wL2 (fun (K3 : Int32 → Int32 → Prop) (x1_1 : Int32) (x2_2 : Int32) => (5 ≤ x2_2 → Q x1_1) ∧ (¬ 5 ≤ x2_2 → vp_in x2_2 5 ∧ (wj1 (fun (J7 : Int32 → Prop) => ((t_glue (Int32.toNatClampNeg x2_2)) ≤ 0 → J7 x1_1) ∧ (¬ (t_glue (Int32.toNatClampNeg x2_2)) ≤ 0 → ∀ x1_10 : Int32, x1_10 = (x1_1 + 1) → (J7 x1_10))) (fun (x1_6 : Int32) => ∀ x2_8 : Int32, x2_8 = (x2_2 + 1) → (K3 x1_6 x2_8))))) n11 0 0
theorem ddV_X5_holding : yX5_holding.cls = RX5 ∧ yX5_holding.cls ≠ "java/lang/invoke/MethodHandle" ∧ yX5_holding.cls ≠ "java/lang/invoke/VarHandle" ∧ (parseMethodDescriptor yX5_holding.desc).map (fun d => d.parameters.length) = some 0 := by decide +kernel
set_option maxHeartbeats 4000000 in
set_option maxRecDepth 100000 in
theorem c_X5_holding (l : Launch) (E : gE) (q_t q_t_glue q_t_upper q_t_under q_t_work q_t_wear q_t_cells : Nat) (t_spots : Int32) (t_cure : Int32) (t_glue : Nat → Int32) (Q : Int32 → Prop) (hw : w_X5_holding t_glue Q) : Ct l E yX5_holding wsX5_holding { frames := 0, cells := 0, slots := 0, locals := 0 } [.ref q_t] [ob 5 q_t [.ref q_t_glue, .ref q_t_upper, .ref q_t_under, .ref q_t_work, .ref q_t_wear, .ref q_t_cells, .int t_spots, .int t_cure], aI E.I q_t_glue 5 t_glue] (S := Int32) (fun u => some (.int u)) (fun u => Q u) (fun u => [ob 5 q_t [.ref q_t_glue, .ref q_t_upper, .ref q_t_under, .ref q_t_work, .ref q_t_wear, .ref q_t_cells, .int t_spots, .int t_cure], aI E.I q_t_glue 5 t_glue]) := by
  unfold w_X5_holding at hw
  have hinX5 : ∀ w ∈ wsX50, w ∈ wsX5_holding := fun _ h => List.mem_cons_of_mem _ (List.mem_append_right _ h)
  refine g_start (cc := cX5_holding) (nL := 3) (own := RX5) (ret := (some .int)) rfl (by decide) rfl (Nat.le_of_ble_eq_true rfl) (lv0 := [(0, .ref q_t)]) rfl (fun X C0 R1 => ?_)
  refine g_iconst C0 (v := 0) dX5_holding_0 (by decide) ?_
  refine g_istore_n C0 (lv2 := [(1, .int 0), (0, .ref q_t)]) dX5_holding_1 (by decide) rfl ?_
  refine g_iconst C0 (v := 0) dX5_holding_2 (by decide) ?_
  refine g_istore_n C0 (lv2 := [(2, .int 0), (1, .int 0), (0, .ref q_t)]) dX5_holding_3 (by decide) rfl ?_
  refine g_lv [2, 1, 0] (lv2 := [(0, .ref q_t), (1, .int 0), (2, .int 0)]) rfl ?_
  obtain ⟨n11, hw⟩ := hw
  refine wL2_go (P := fun (x1_1 : Int32) (x2_2 : Int32) => G X E 3 [ob 5 q_t [.ref q_t_glue, .ref q_t_upper, .ref q_t_under, .ref q_t_work, .ref q_t_wear, .ref q_t_cells, .int t_spots, .int t_cure], aI E.I q_t_glue 5 t_glue] 0 0 4 [(0, .ref q_t), (1, .int x1_1), (2, .int x2_2)] []) (fun K3 hK3 x1_1 x2_2 hw => ?_) n11 _ _ hw
  refine g_iload_n C0 dX5_holding_4 2 rfl ?_
  refine g_iconst C0 (v := 5) dX5_holding_5 (by decide) ?_
  refine g_icmp_ge C0 (tgt := 27) dX5_holding_6 (by decide) (fun c4 => ?_) (fun c4 => ?_)
  · replace hw := hw.1 c4
    refine g_iload_n C0 dX5_holding_27 1 rfl ?_
    exact g_iret C0 R1 dX5_holding_28 x1_1 rfl hw [0, 1] (by decide) rfl (by decide) (by decide)
  · replace hw := hw.2 c4
    refine g_aload_n C0 dX5_holding_9 0 rfl ?_
    refine g_get C0 dX5_holding_10 0 rfl 0 rfl rfl hinX5 (by decide) (List.mem_of_getElem? (i := 1) rfl) rfl ?_
    refine g_iload_n C0 dX5_holding_13 2 rfl ?_
    obtain ⟨h5, hw⟩ := hw
    refine g_iald C0 (cA := E.I) dX5_holding_14 1 rfl h5 ?_
    refine wj1_go (P := fun (x1_6 : Int32) => G X E 3 [ob 5 q_t [.ref q_t_glue, .ref q_t_upper, .ref q_t_under, .ref q_t_work, .ref q_t_wear, .ref q_t_cells, .int t_spots, .int t_cure], aI E.I q_t_glue 5 t_glue] 0 0 21 [(0, .ref q_t), (1, .int x1_6), (2, .int x2_2)] []) hw (fun x1_6 hw => ?_) (fun J7 hJ7 hw => ?_)
    · obtain ⟨x2_8, ex2_8⟩ : ∃ y : Int32, y = x2_2 + 1 := ⟨_, rfl⟩
      replace hw := hw x2_8 ex2_8
      refine g_iinc C0 (v := x2_8) (lv2 := [(2, .int x2_8), (0, .ref q_t), (1, .int x1_6)]) dX5_holding_21 2 rfl (by rw [ex2_8]; rfl) (by decide) rfl ?_
      refine g_goto C0 (tgt := 4) dX5_holding_24 (by decide) ?_
      refine g_lv [1, 2, 0] (lv2 := [(0, .ref q_t), (1, .int x1_6), (2, .int x2_8)]) rfl ?_
      exact hK3 _ _ hw
    · refine g_if_le C0 (tgt := 21) dX5_holding_15 (by decide) (fun c9 => ?_) (fun c9 => ?_)
      · replace hw := hw.1 c9
        exact hJ7 _ hw
      · replace hw := hw.2 c9
        obtain ⟨x1_10, ex1_10⟩ : ∃ y : Int32, y = x1_1 + 1 := ⟨_, rfl⟩
        replace hw := hw x1_10 ex1_10
        refine g_iinc C0 (v := x1_10) (lv2 := [(1, .int x1_10), (0, .ref q_t), (2, .int x2_2)]) dX5_holding_18 1 rfl (by rw [ex1_10]; rfl) (by decide) rfl ?_
        refine g_lv [1, 0, 2] (lv2 := [(0, .ref q_t), (1, .int x1_10), (2, .int x2_2)]) rfl ?_
        exact hJ7 _ hw
def w_X5_isLoose (t_glue : Nat → Int32) (Q : Bool → Prop) : Prop := w_X5_holding t_glue (fun (r1 : Int32) => (¬ r1 = 0 → Q false) ∧ (r1 = 0 → Q true))
theorem ddV_X5_isLoose : yX5_isLoose.cls = RX5 ∧ yX5_isLoose.cls ≠ "java/lang/invoke/MethodHandle" ∧ yX5_isLoose.cls ≠ "java/lang/invoke/VarHandle" ∧ (parseMethodDescriptor yX5_isLoose.desc).map (fun d => d.parameters.length) = some 0 := by decide +kernel
set_option maxHeartbeats 4000000 in
set_option maxRecDepth 100000 in
theorem c_X5_isLoose (l : Launch) (E : gE) (q_t q_t_glue q_t_upper q_t_under q_t_work q_t_wear q_t_cells : Nat) (t_spots : Int32) (t_cure : Int32) (t_glue : Nat → Int32) (Q : Bool → Prop) (hw : w_X5_isLoose t_glue Q) : Ct l E yX5_isLoose wsX5_isLoose { frames := 1, cells := 0, slots := 0, locals := 22 } [.ref q_t] [ob 5 q_t [.ref q_t_glue, .ref q_t_upper, .ref q_t_under, .ref q_t_work, .ref q_t_wear, .ref q_t_cells, .int t_spots, .int t_cure], aI E.I q_t_glue 5 t_glue] (S := Bool) (fun u => some (.int (bI u))) (fun u => Q u) (fun u => [ob 5 q_t [.ref q_t_glue, .ref q_t_upper, .ref q_t_under, .ref q_t_work, .ref q_t_wear, .ref q_t_cells, .int t_spots, .int t_cure], aI E.I q_t_glue 5 t_glue]) := by
  unfold w_X5_isLoose at hw
  refine g_start (cc := cX5_isLoose) (nL := 1) (own := RX5) (ret := (some .boolean)) rfl (by decide) rfl (Nat.le_of_ble_eq_true rfl) (lv0 := [(0, .ref q_t)]) rfl (fun X C0 R1 => ?_)
  refine g_aload_n C0 dX5_isLoose_0 0 rfl ?_
  refine g_callV C0 (q0 := 0) (ci := 5) (c_X5_holding l E q_t q_t_glue q_t_upper q_t_under q_t_work q_t_wear q_t_cells t_spots t_cure t_glue _ hw) dX5_isLoose_1 gX5_isLoose_X5_holding rfl ddV_X5_holding rfl (by decide) (by decide) rfl (Nat.le_of_ble_eq_true rfl) [0, 1] [] rfl (wr := []) rfl (by decide) (by decide) (by decide) rfl rfl (fun u hw => ?_)
  obtain ⟨r1, hu_⟩ : ∃ z, z = u := ⟨_, rfl⟩
  subst hu_
  try dsimp only at hw
  show G X E 1 [ob 5 q_t [.ref q_t_glue, .ref q_t_upper, .ref q_t_under, .ref q_t_work, .ref q_t_wear, .ref q_t_cells, .int t_spots, .int t_cure], aI E.I q_t_glue 5 t_glue] 0 0 4 [(0, .ref q_t)] [.int r1]
  refine g_if_ne C0 (tgt := 11) dX5_isLoose_4 (by decide) (fun c2 => ?_) (fun c2 => ?_)
  · replace hw := hw.1 c2
    refine g_iconst C0 (v := 0) dX5_isLoose_11 (by decide) ?_
    exact g_zret C0 R1 (b := false) dX5_isLoose_12 false rfl hw [0, 1] (by decide) rfl (by decide) (by decide)
  · replace hw := hw.2 c2
    refine g_iconst C0 (v := 1) dX5_isLoose_7 (by decide) ?_
    refine g_goto C0 (tgt := 12) dX5_isLoose_8 (by decide) ?_
    exact g_zret C0 R1 (b := true) dX5_isLoose_12 true rfl hw [0, 1] (by decide) rfl (by decide) (by decide)
def w_X5_readFrom (a0_count : Int32) (t_work : Nat → Int32) (t_wear : Nat → Int32) (t_cells : Nat → Int32) (a0_row : Nat → Int32) (t_glue : Nat → Int32) (t_upper : Nat → Int32) (t_under : Nat → Int32) (Q : Int32 → (Nat → Int32) → (Nat → Int32) → (Nat → Int32) → Int32 → (Nat → Int32) → (Nat → Int32) → (Nat → Int32) → Prop) : Prop := w_X7_spots a0_count (fun (r1 : Int32) => ∃ n33 : Nat, wL4 (fun (K6 : Int32 → (Nat → Int32) → (Nat → Int32) → (Nat → Int32) → Prop) (x2_2 : Int32) (t_glue_3 : Nat → Int32) (t_upper_4 : Nat → Int32) (t_under_5 : Nat → Int32) => (5 ≤ x2_2 → w_J7_fill_53178 10 5 t_work (fun (t_work_8 : Nat → Int32) => w_J7_fill_53178 0 5 t_wear (fun (t_wear_9 : Nat → Int32) => w_J7_fill_53178 0 10 t_cells (fun (t_cells_10 : Nat → Int32) => Q r1 t_work_8 t_wear_9 t_cells_10 0 t_glue_3 t_upper_4 t_under_5)))) ∧ (¬ 5 ≤ x2_2 → wj1 (fun (J12 : Bool → Prop) => (r1 ≤ x2_2 → J12 false) ∧ (¬ r1 ≤ x2_2 → J12 true)) (fun (w11 : Bool) => wj1 (fun (J14 : Bool → Prop) => ((r1 - 1) ≤ x2_2 → J14 false) ∧ (¬ (r1 - 1) ≤ x2_2 → J14 true)) (fun (w13 : Bool) => wj1 (fun (J16 : Int32 → Prop) => (w11 = false → J16 0) ∧ (w11 = true → w_X7_glueOf x2_2 a0_row (fun (r30 : Int32) => J16 r30))) (fun (w15 : Int32) => vp_in x2_2 5 ∧ (wj1 (fun (J19 : Int32 → Prop) => (w13 = false → J19 0) ∧ (w13 = true → w_X7_upperBehind x2_2 a0_row (fun (r28 : Int32) => J19 r28))) (fun (w18 : Int32) => vp_in x2_2 5 ∧ (wj1 (fun (J22 : Int32 → Prop) => (w13 = false → J22 0) ∧ (w13 = true → w_X7_underBehind x2_2 a0_row (fun (r26 : Int32) => J22 r26))) (fun (w21 : Int32) => vp_in x2_2 5 ∧ (∀ x2_24 : Int32, x2_24 = (x2_2 + 1) → (K6 x2_24 (upd t_glue_3 (Int32.toNatClampNeg x2_2) w15) (upd t_upper_4 (Int32.toNatClampNeg x2_2) w18) (upd t_under_5 (Int32.toNatClampNeg x2_2) w21)))))))))))) n33 0 t_glue t_upper t_under)
theorem ddV_X5_readFrom : yX5_readFrom.cls = RX5 ∧ yX5_readFrom.cls ≠ "java/lang/invoke/MethodHandle" ∧ yX5_readFrom.cls ≠ "java/lang/invoke/VarHandle" ∧ (parseMethodDescriptor yX5_readFrom.desc).map (fun d => d.parameters.length) = some 1 := by decide +kernel
set_option maxHeartbeats 4000000 in
set_option maxRecDepth 100000 in
theorem c_X5_readFrom (l : Launch) (E : gE) (q_t q_a0 q_a0_row q_t_glue q_t_upper q_t_under q_t_work q_t_wear q_t_cells : Nat) (a0_count : Int32) (t_spots : Int32) (t_cure : Int32) (t_work : Nat → Int32) (t_wear : Nat → Int32) (t_cells : Nat → Int32) (a0_row : Nat → Int32) (t_glue : Nat → Int32) (t_upper : Nat → Int32) (t_under : Nat → Int32) (Q : Int32 → (Nat → Int32) → (Nat → Int32) → (Nat → Int32) → Int32 → (Nat → Int32) → (Nat → Int32) → (Nat → Int32) → Prop) (hw : w_X5_readFrom a0_count t_work t_wear t_cells a0_row t_glue t_upper t_under Q) : Ct l E yX5_readFrom wsX5_readFrom { frames := 3, cells := 0, slots := 0, locals := 64 } [.ref q_t, .ref q_a0] [ob 7 q_a0 [.ref q_a0_row, .int a0_count], ob 5 q_t [.ref q_t_glue, .ref q_t_upper, .ref q_t_under, .ref q_t_work, .ref q_t_wear, .ref q_t_cells, .int t_spots, .int t_cure], aI E.I q_t_work 5 t_work, aI E.I q_t_wear 5 t_wear, aI E.I q_t_cells 10 t_cells, aI E.I q_a0_row 40 a0_row, aI E.I q_t_glue 5 t_glue, aI E.I q_t_upper 5 t_upper, aI E.I q_t_under 5 t_under] (S := Int32 × (Nat → Int32) × (Nat → Int32) × (Nat → Int32) × Int32 × (Nat → Int32) × (Nat → Int32) × (Nat → Int32)) (fun _ => none) (fun u => Q u.1 u.2.1 u.2.2.1 u.2.2.2.1 u.2.2.2.2.1 u.2.2.2.2.2.1 u.2.2.2.2.2.2.1 u.2.2.2.2.2.2.2) (fun u => [ob 7 q_a0 [.ref q_a0_row, .int a0_count], ob 5 q_t [.ref q_t_glue, .ref q_t_upper, .ref q_t_under, .ref q_t_work, .ref q_t_wear, .ref q_t_cells, .int u.1, .int u.2.2.2.2.1], aI E.I q_t_work 5 u.2.1, aI E.I q_t_wear 5 u.2.2.1, aI E.I q_t_cells 10 u.2.2.2.1, aI E.I q_a0_row 40 a0_row, aI E.I q_t_glue 5 u.2.2.2.2.2.1, aI E.I q_t_upper 5 u.2.2.2.2.2.2.1, aI E.I q_t_under 5 u.2.2.2.2.2.2.2]) := by
  unfold w_X5_readFrom at hw
  have hinX5 : ∀ w ∈ wsX50, w ∈ wsX5_readFrom := fun _ h => List.mem_cons_of_mem _ (List.mem_append_left _ (List.mem_append_right _ h))
  refine g_start (cc := cX5_readFrom) (nL := 5) (own := RX5) (ret := none) rfl (by decide) rfl (Nat.le_of_ble_eq_true rfl) (lv0 := [(0, .ref q_t), (1, .ref q_a0)]) rfl (fun X C0 R1 => ?_)
  refine g_aload_n C0 dX5_readFrom_0 0 rfl ?_
  refine g_aload_n C0 dX5_readFrom_1 1 rfl ?_
  refine g_callV C0 (q0 := 0) (ci := 7) (c_X7_spots l E q_a0 q_a0_row a0_count _ hw) dX5_readFrom_2 gX5_readFrom_X7_spots rfl ddV_X7_spots rfl (by decide) (by decide) rfl (Nat.le_of_ble_eq_true rfl) [0] [1, 2, 3, 4, 5, 6, 7, 8] rfl (wr := [ob 5 q_t [.ref q_t_glue, .ref q_t_upper, .ref q_t_under, .ref q_t_work, .ref q_t_wear, .ref q_t_cells, .int t_spots, .int t_cure], aI E.I q_t_work 5 t_work, aI E.I q_t_wear 5 t_wear, aI E.I q_t_cells 10 t_cells, aI E.I q_a0_row 40 a0_row, aI E.I q_t_glue 5 t_glue, aI E.I q_t_upper 5 t_upper, aI E.I q_t_under 5 t_under]) rfl (by decide) (by decide) (by decide) rfl rfl (fun u hw => ?_)
  obtain ⟨r1, hu_⟩ : ∃ z, z = u := ⟨_, rfl⟩
  subst hu_
  try dsimp only at hw
  show G X E 5 [ob 5 q_t [.ref q_t_glue, .ref q_t_upper, .ref q_t_under, .ref q_t_work, .ref q_t_wear, .ref q_t_cells, .int t_spots, .int t_cure], aI E.I q_t_work 5 t_work, aI E.I q_t_wear 5 t_wear, aI E.I q_t_cells 10 t_cells, aI E.I q_a0_row 40 a0_row, aI E.I q_t_glue 5 t_glue, aI E.I q_t_upper 5 t_upper, aI E.I q_t_under 5 t_under, ob 7 q_a0 [.ref q_a0_row, .int a0_count]] 0 0 5 [(0, .ref q_t), (1, .ref q_a0)] [.int r1, .ref q_t]
  refine g_put C0 (ws2 := [ob 5 q_t [.ref q_t_glue, .ref q_t_upper, .ref q_t_under, .ref q_t_work, .ref q_t_wear, .ref q_t_cells, .int r1, .int t_cure], aI E.I q_t_work 5 t_work, aI E.I q_t_wear 5 t_wear, aI E.I q_t_cells 10 t_cells, aI E.I q_a0_row 40 a0_row, aI E.I q_t_glue 5 t_glue, aI E.I q_t_upper 5 t_upper, aI E.I q_t_under 5 t_under, ob 7 q_a0 [.ref q_a0_row, .int a0_count]]) dX5_readFrom_5 0 rfl 6 rfl hinX5 tyX5 tyX5_ok nmX5 (by decide) (List.mem_of_getElem? (i := 1) rfl) rfl rfl (tyX5_ok 6 (by decide)) rfl rfl (Nat.le_of_ble_eq_true rfl) rfl ?_
  refine g_iconst C0 (v := 0) dX5_readFrom_8 (by decide) ?_
  refine g_istore_n C0 (lv2 := [(2, .int 0), (0, .ref q_t), (1, .ref q_a0)]) dX5_readFrom_9 (by decide) rfl ?_
  refine g_lv [1, 2, 0] (lv2 := [(0, .ref q_t), (1, .ref q_a0), (2, .int 0)]) rfl ?_
  refine g_re [8, 0, 1, 2, 3, 4, 5, 6, 7] (by decide) (ws2 := [ob 7 q_a0 [.ref q_a0_row, .int a0_count], ob 5 q_t [.ref q_t_glue, .ref q_t_upper, .ref q_t_under, .ref q_t_work, .ref q_t_wear, .ref q_t_cells, .int r1, .int t_cure], aI E.I q_t_work 5 t_work, aI E.I q_t_wear 5 t_wear, aI E.I q_t_cells 10 t_cells, aI E.I q_a0_row 40 a0_row, aI E.I q_t_glue 5 t_glue, aI E.I q_t_upper 5 t_upper, aI E.I q_t_under 5 t_under]) rfl ?_
  obtain ⟨n33, hw⟩ := hw
  refine wL4_go (P := fun (x2_2 : Int32) (t_glue_3 : Nat → Int32) (t_upper_4 : Nat → Int32) (t_under_5 : Nat → Int32) => G X E 5 [ob 7 q_a0 [.ref q_a0_row, .int a0_count], ob 5 q_t [.ref q_t_glue, .ref q_t_upper, .ref q_t_under, .ref q_t_work, .ref q_t_wear, .ref q_t_cells, .int r1, .int t_cure], aI E.I q_t_work 5 t_work, aI E.I q_t_wear 5 t_wear, aI E.I q_t_cells 10 t_cells, aI E.I q_a0_row 40 a0_row, aI E.I q_t_glue 5 t_glue_3, aI E.I q_t_upper 5 t_upper_4, aI E.I q_t_under 5 t_under_5] 0 0 10 [(0, .ref q_t), (1, .ref q_a0), (2, .int x2_2)] []) (fun K6 hK6 x2_2 t_glue_3 t_upper_4 t_under_5 hw => ?_) n33 _ _ _ _ hw
  refine g_iload_n C0 dX5_readFrom_10 2 rfl ?_
  refine g_iconst C0 (v := 5) dX5_readFrom_11 (by decide) ?_
  refine g_icmp_ge C0 (tgt := 111) dX5_readFrom_12 (by decide) (fun c7 => ?_) (fun c7 => ?_)
  · replace hw := hw.1 c7
    refine g_aload_n C0 dX5_readFrom_111 0 rfl ?_
    refine g_get C0 dX5_readFrom_112 1 rfl 3 rfl rfl hinX5 (by decide) (List.mem_of_getElem? (i := 5) rfl) rfl ?_
    refine g_bipush C0 (v := 10) dX5_readFrom_115 (by decide) ?_
    refine g_callS C0 (c_J7_fill_53178 l E q_t_work 10 5 t_work _ hw) dX5_readFrom_117 gX5_readFrom_J7_fill_53178 rfl ddS_J7_fill_53178 rfl (by decide) (by decide) rfl (Nat.le_of_ble_eq_true rfl) [2] [0, 1, 3, 4, 5, 6, 7, 8] rfl (wr := [ob 7 q_a0 [.ref q_a0_row, .int a0_count], ob 5 q_t [.ref q_t_glue, .ref q_t_upper, .ref q_t_under, .ref q_t_work, .ref q_t_wear, .ref q_t_cells, .int r1, .int t_cure], aI E.I q_t_wear 5 t_wear, aI E.I q_t_cells 10 t_cells, aI E.I q_a0_row 40 a0_row, aI E.I q_t_glue 5 t_glue_3, aI E.I q_t_upper 5 t_upper_4, aI E.I q_t_under 5 t_under_5]) rfl (by decide) (by decide) (by decide) (fun u hw => ?_)
    obtain ⟨t_work_8, hu_⟩ : ∃ z, z = u := ⟨_, rfl⟩
    subst hu_
    try dsimp only at hw
    show G X E 5 [ob 7 q_a0 [.ref q_a0_row, .int a0_count], ob 5 q_t [.ref q_t_glue, .ref q_t_upper, .ref q_t_under, .ref q_t_work, .ref q_t_wear, .ref q_t_cells, .int r1, .int t_cure], aI E.I q_t_wear 5 t_wear, aI E.I q_t_cells 10 t_cells, aI E.I q_a0_row 40 a0_row, aI E.I q_t_glue 5 t_glue_3, aI E.I q_t_upper 5 t_upper_4, aI E.I q_t_under 5 t_under_5, aI E.I q_t_work 5 t_work_8] 0 0 120 [(0, .ref q_t), (1, .ref q_a0), (2, .int x2_2)] []
    refine g_aload_n C0 dX5_readFrom_120 0 rfl ?_
    refine g_get C0 dX5_readFrom_121 1 rfl 4 rfl rfl hinX5 (by decide) (List.mem_of_getElem? (i := 6) rfl) rfl ?_
    refine g_iconst C0 (v := 0) dX5_readFrom_124 (by decide) ?_
    refine g_callS C0 (c_J7_fill_53178 l E q_t_wear 0 5 t_wear _ hw) dX5_readFrom_125 gX5_readFrom_J7_fill_53178 rfl ddS_J7_fill_53178 rfl (by decide) (by decide) rfl (Nat.le_of_ble_eq_true rfl) [2] [0, 1, 3, 4, 5, 6, 7, 8] rfl (wr := [ob 7 q_a0 [.ref q_a0_row, .int a0_count], ob 5 q_t [.ref q_t_glue, .ref q_t_upper, .ref q_t_under, .ref q_t_work, .ref q_t_wear, .ref q_t_cells, .int r1, .int t_cure], aI E.I q_t_cells 10 t_cells, aI E.I q_a0_row 40 a0_row, aI E.I q_t_glue 5 t_glue_3, aI E.I q_t_upper 5 t_upper_4, aI E.I q_t_under 5 t_under_5, aI E.I q_t_work 5 t_work_8]) rfl (by decide) (by decide) (by decide) (fun u hw => ?_)
    obtain ⟨t_wear_9, hu_⟩ : ∃ z, z = u := ⟨_, rfl⟩
    subst hu_
    try dsimp only at hw
    show G X E 5 [ob 7 q_a0 [.ref q_a0_row, .int a0_count], ob 5 q_t [.ref q_t_glue, .ref q_t_upper, .ref q_t_under, .ref q_t_work, .ref q_t_wear, .ref q_t_cells, .int r1, .int t_cure], aI E.I q_t_cells 10 t_cells, aI E.I q_a0_row 40 a0_row, aI E.I q_t_glue 5 t_glue_3, aI E.I q_t_upper 5 t_upper_4, aI E.I q_t_under 5 t_under_5, aI E.I q_t_work 5 t_work_8, aI E.I q_t_wear 5 t_wear_9] 0 0 128 [(0, .ref q_t), (1, .ref q_a0), (2, .int x2_2)] []
    refine g_aload_n C0 dX5_readFrom_128 0 rfl ?_
    refine g_get C0 dX5_readFrom_129 1 rfl 5 rfl rfl hinX5 (by decide) (List.mem_of_getElem? (i := 7) rfl) rfl ?_
    refine g_iconst C0 (v := 0) dX5_readFrom_132 (by decide) ?_
    refine g_callS C0 (c_J7_fill_53178 l E q_t_cells 0 10 t_cells _ hw) dX5_readFrom_133 gX5_readFrom_J7_fill_53178 rfl ddS_J7_fill_53178 rfl (by decide) (by decide) rfl (Nat.le_of_ble_eq_true rfl) [2] [0, 1, 3, 4, 5, 6, 7, 8] rfl (wr := [ob 7 q_a0 [.ref q_a0_row, .int a0_count], ob 5 q_t [.ref q_t_glue, .ref q_t_upper, .ref q_t_under, .ref q_t_work, .ref q_t_wear, .ref q_t_cells, .int r1, .int t_cure], aI E.I q_a0_row 40 a0_row, aI E.I q_t_glue 5 t_glue_3, aI E.I q_t_upper 5 t_upper_4, aI E.I q_t_under 5 t_under_5, aI E.I q_t_work 5 t_work_8, aI E.I q_t_wear 5 t_wear_9]) rfl (by decide) (by decide) (by decide) (fun u hw => ?_)
    obtain ⟨t_cells_10, hu_⟩ : ∃ z, z = u := ⟨_, rfl⟩
    subst hu_
    try dsimp only at hw
    show G X E 5 [ob 7 q_a0 [.ref q_a0_row, .int a0_count], ob 5 q_t [.ref q_t_glue, .ref q_t_upper, .ref q_t_under, .ref q_t_work, .ref q_t_wear, .ref q_t_cells, .int r1, .int t_cure], aI E.I q_a0_row 40 a0_row, aI E.I q_t_glue 5 t_glue_3, aI E.I q_t_upper 5 t_upper_4, aI E.I q_t_under 5 t_under_5, aI E.I q_t_work 5 t_work_8, aI E.I q_t_wear 5 t_wear_9, aI E.I q_t_cells 10 t_cells_10] 0 0 136 [(0, .ref q_t), (1, .ref q_a0), (2, .int x2_2)] []
    refine g_aload_n C0 dX5_readFrom_136 0 rfl ?_
    refine g_iconst C0 (v := 0) dX5_readFrom_137 (by decide) ?_
    refine g_put C0 (ws2 := [ob 7 q_a0 [.ref q_a0_row, .int a0_count], ob 5 q_t [.ref q_t_glue, .ref q_t_upper, .ref q_t_under, .ref q_t_work, .ref q_t_wear, .ref q_t_cells, .int r1, .int 0], aI E.I q_a0_row 40 a0_row, aI E.I q_t_glue 5 t_glue_3, aI E.I q_t_upper 5 t_upper_4, aI E.I q_t_under 5 t_under_5, aI E.I q_t_work 5 t_work_8, aI E.I q_t_wear 5 t_wear_9, aI E.I q_t_cells 10 t_cells_10]) dX5_readFrom_138 1 rfl 7 rfl hinX5 tyX5 tyX5_ok nmX5 (by decide) (List.mem_of_getElem? (i := 8) rfl) rfl rfl (tyX5_ok 7 (by decide)) rfl rfl (Nat.le_of_ble_eq_true rfl) rfl ?_
    exact g_vret C0 R1 dX5_readFrom_141 (r1, t_work_8, t_wear_9, t_cells_10, 0, t_glue_3, t_upper_4, t_under_5) rfl hw [0, 1, 6, 7, 8, 2, 3, 4, 5] (by decide) rfl (by decide) (by decide)
  · replace hw := hw.2 c7
    refine g_iload_n C0 dX5_readFrom_15 2 rfl ?_
    refine g_aload_n C0 dX5_readFrom_16 0 rfl ?_
    refine g_get C0 dX5_readFrom_17 1 rfl 6 rfl rfl hinX5 (by decide) (List.mem_of_getElem? (i := 1) rfl) rfl ?_
    refine wj1_go (P := fun (w11 : Bool) => G X E 5 [ob 7 q_a0 [.ref q_a0_row, .int a0_count], ob 5 q_t [.ref q_t_glue, .ref q_t_upper, .ref q_t_under, .ref q_t_work, .ref q_t_wear, .ref q_t_cells, .int r1, .int t_cure], aI E.I q_t_work 5 t_work, aI E.I q_t_wear 5 t_wear, aI E.I q_t_cells 10 t_cells, aI E.I q_a0_row 40 a0_row, aI E.I q_t_glue 5 t_glue_3, aI E.I q_t_upper 5 t_upper_4, aI E.I q_t_under 5 t_under_5] 0 0 28 [(0, .ref q_t), (1, .ref q_a0), (2, .int x2_2)] [.int (bI w11)]) hw (fun w11 hw => ?_) (fun J12 hJ12 hw => ?_)
    · refine g_istore_n C0 (lv2 := [(3, .int (bI w11)), (0, .ref q_t), (1, .ref q_a0), (2, .int x2_2)]) dX5_readFrom_28 (by decide) rfl ?_
      refine g_iload_n C0 dX5_readFrom_29 3 rfl ?_
      refine g_aload_n C0 dX5_readFrom_30 1 rfl ?_
      refine g_get C0 dX5_readFrom_31 1 rfl 6 rfl rfl hinX5 (by decide) (List.mem_of_getElem? (i := 1) rfl) rfl ?_
      refine g_iconst C0 (v := 1) dX5_readFrom_34 (by decide) ?_
      refine g_isub C0 dX5_readFrom_35 ?_
      refine wj1_go (P := fun (w13 : Bool) => G X E 5 [ob 7 q_a0 [.ref q_a0_row, .int a0_count], ob 5 q_t [.ref q_t_glue, .ref q_t_upper, .ref q_t_under, .ref q_t_work, .ref q_t_wear, .ref q_t_cells, .int r1, .int t_cure], aI E.I q_t_work 5 t_work, aI E.I q_t_wear 5 t_wear, aI E.I q_t_cells 10 t_cells, aI E.I q_a0_row 40 a0_row, aI E.I q_t_glue 5 t_glue_3, aI E.I q_t_upper 5 t_upper_4, aI E.I q_t_under 5 t_under_5] 0 0 44 [(0, .ref q_t), (1, .ref q_a0), (2, .int x2_2), (3, .int (bI w11))] [.int (bI w13)]) hw (fun w13 hw => ?_) (fun J14 hJ14 hw => ?_)
      · refine g_istore C0 (lv2 := [(4, .int (bI w13)), (0, .ref q_t), (1, .ref q_a0), (2, .int x2_2), (3, .int (bI w11))]) dX5_readFrom_44 (by decide) rfl ?_
        refine g_aload_n C0 dX5_readFrom_46 1 rfl ?_
        refine g_get C0 dX5_readFrom_47 1 rfl 0 rfl rfl hinX5 (by decide) (List.mem_of_getElem? (i := 2) rfl) rfl ?_
        refine g_iload_n C0 dX5_readFrom_50 3 rfl ?_
        refine g_iload_n C0 dX5_readFrom_51 4 rfl ?_
        refine wj1_go (P := fun (w15 : Int32) => G X E 5 [ob 7 q_a0 [.ref q_a0_row, .int a0_count], ob 5 q_t [.ref q_t_glue, .ref q_t_upper, .ref q_t_under, .ref q_t_work, .ref q_t_wear, .ref q_t_cells, .int r1, .int t_cure], aI E.I q_t_work 5 t_work, aI E.I q_t_wear 5 t_wear, aI E.I q_t_cells 10 t_cells, aI E.I q_a0_row 40 a0_row, aI E.I q_t_glue 5 t_glue_3, aI E.I q_t_upper 5 t_upper_4, aI E.I q_t_under 5 t_under_5] 0 0 64 [(0, .ref q_t), (1, .ref q_a0), (2, .int x2_2), (4, .int (bI w13))] [.int w15, .int x2_2, .ref q_t_glue]) hw (fun w15 hw => ?_) (fun J16 hJ16 hw => ?_)
        · obtain ⟨h17, hw⟩ := hw
          refine g_iast C0 (ws2 := [ob 7 q_a0 [.ref q_a0_row, .int a0_count], ob 5 q_t [.ref q_t_glue, .ref q_t_upper, .ref q_t_under, .ref q_t_work, .ref q_t_wear, .ref q_t_cells, .int r1, .int t_cure], aI E.I q_t_work 5 t_work, aI E.I q_t_wear 5 t_wear, aI E.I q_t_cells 10 t_cells, aI E.I q_a0_row 40 a0_row, aI E.I q_t_glue 5 (upd t_glue_3 (Int32.toNatClampNeg x2_2) w15), aI E.I q_t_upper 5 t_upper_4, aI E.I q_t_under 5 t_under_5]) dX5_readFrom_64 6 rfl h17 rfl ?_
          refine g_aload_n C0 dX5_readFrom_65 0 rfl ?_
          refine g_get C0 dX5_readFrom_66 1 rfl 1 rfl rfl hinX5 (by decide) (List.mem_of_getElem? (i := 3) rfl) rfl ?_
          refine g_iload_n C0 dX5_readFrom_69 2 rfl ?_
          refine g_iload C0 dX5_readFrom_70 3 rfl ?_
          refine wj1_go (P := fun (w18 : Int32) => G X E 5 [ob 7 q_a0 [.ref q_a0_row, .int a0_count], ob 5 q_t [.ref q_t_glue, .ref q_t_upper, .ref q_t_under, .ref q_t_work, .ref q_t_wear, .ref q_t_cells, .int r1, .int t_cure], aI E.I q_t_work 5 t_work, aI E.I q_t_wear 5 t_wear, aI E.I q_t_cells 10 t_cells, aI E.I q_a0_row 40 a0_row, aI E.I q_t_glue 5 (upd t_glue_3 (Int32.toNatClampNeg x2_2) w15), aI E.I q_t_upper 5 t_upper_4, aI E.I q_t_under 5 t_under_5] 0 0 84 [(0, .ref q_t), (1, .ref q_a0), (2, .int x2_2), (4, .int (bI w13))] [.int w18, .int x2_2, .ref q_t_upper]) hw (fun w18 hw => ?_) (fun J19 hJ19 hw => ?_)
          · obtain ⟨h20, hw⟩ := hw
            refine g_iast C0 (ws2 := [ob 7 q_a0 [.ref q_a0_row, .int a0_count], ob 5 q_t [.ref q_t_glue, .ref q_t_upper, .ref q_t_under, .ref q_t_work, .ref q_t_wear, .ref q_t_cells, .int r1, .int t_cure], aI E.I q_t_work 5 t_work, aI E.I q_t_wear 5 t_wear, aI E.I q_t_cells 10 t_cells, aI E.I q_a0_row 40 a0_row, aI E.I q_t_glue 5 (upd t_glue_3 (Int32.toNatClampNeg x2_2) w15), aI E.I q_t_upper 5 (upd t_upper_4 (Int32.toNatClampNeg x2_2) w18), aI E.I q_t_under 5 t_under_5]) dX5_readFrom_84 7 rfl h20 rfl ?_
            refine g_aload_n C0 dX5_readFrom_85 0 rfl ?_
            refine g_get C0 dX5_readFrom_86 1 rfl 2 rfl rfl hinX5 (by decide) (List.mem_of_getElem? (i := 4) rfl) rfl ?_
            refine g_iload_n C0 dX5_readFrom_89 2 rfl ?_
            refine g_iload C0 dX5_readFrom_90 3 rfl ?_
            refine wj1_go (P := fun (w21 : Int32) => G X E 5 [ob 7 q_a0 [.ref q_a0_row, .int a0_count], ob 5 q_t [.ref q_t_glue, .ref q_t_upper, .ref q_t_under, .ref q_t_work, .ref q_t_wear, .ref q_t_cells, .int r1, .int t_cure], aI E.I q_t_work 5 t_work, aI E.I q_t_wear 5 t_wear, aI E.I q_t_cells 10 t_cells, aI E.I q_a0_row 40 a0_row, aI E.I q_t_glue 5 (upd t_glue_3 (Int32.toNatClampNeg x2_2) w15), aI E.I q_t_upper 5 (upd t_upper_4 (Int32.toNatClampNeg x2_2) w18), aI E.I q_t_under 5 t_under_5] 0 0 104 [(0, .ref q_t), (1, .ref q_a0), (2, .int x2_2)] [.int w21, .int x2_2, .ref q_t_under]) hw (fun w21 hw => ?_) (fun J22 hJ22 hw => ?_)
            · obtain ⟨h23, hw⟩ := hw
              refine g_iast C0 (ws2 := [ob 7 q_a0 [.ref q_a0_row, .int a0_count], ob 5 q_t [.ref q_t_glue, .ref q_t_upper, .ref q_t_under, .ref q_t_work, .ref q_t_wear, .ref q_t_cells, .int r1, .int t_cure], aI E.I q_t_work 5 t_work, aI E.I q_t_wear 5 t_wear, aI E.I q_t_cells 10 t_cells, aI E.I q_a0_row 40 a0_row, aI E.I q_t_glue 5 (upd t_glue_3 (Int32.toNatClampNeg x2_2) w15), aI E.I q_t_upper 5 (upd t_upper_4 (Int32.toNatClampNeg x2_2) w18), aI E.I q_t_under 5 (upd t_under_5 (Int32.toNatClampNeg x2_2) w21)]) dX5_readFrom_104 8 rfl h23 rfl ?_
              obtain ⟨x2_24, ex2_24⟩ : ∃ y : Int32, y = x2_2 + 1 := ⟨_, rfl⟩
              replace hw := hw x2_24 ex2_24
              refine g_iinc C0 (v := x2_24) (lv2 := [(2, .int x2_24), (0, .ref q_t), (1, .ref q_a0)]) dX5_readFrom_105 2 rfl (by rw [ex2_24]; rfl) (by decide) rfl ?_
              refine g_goto C0 (tgt := 10) dX5_readFrom_108 (by decide) ?_
              refine g_lv [1, 2, 0] (lv2 := [(0, .ref q_t), (1, .ref q_a0), (2, .int x2_24)]) rfl ?_
              exact hK6 _ _ _ _ hw
            · refine g_ifb_eq C0 (tgt := 103) dX5_readFrom_92 (by decide) (fun c25 => ?_) (fun c25 => ?_)
              · replace hw := hw.1 c25
                refine g_iconst C0 (v := 0) dX5_readFrom_103 (by decide) ?_
                refine g_lv [0, 1, 2] (lv2 := [(0, .ref q_t), (1, .ref q_a0), (2, .int x2_2)]) rfl ?_
                exact hJ22 _ hw
              · replace hw := hw.2 c25
                refine g_aload_n C0 dX5_readFrom_95 1 rfl ?_
                refine g_iload_n C0 dX5_readFrom_96 2 rfl ?_
                refine g_callV C0 (q0 := 0) (ci := 7) (c_X7_underBehind l E q_a0 q_a0_row x2_2 a0_count a0_row _ hw) dX5_readFrom_97 gX5_readFrom_X7_underBehind rfl ddV_X7_underBehind rfl (by decide) (by decide) rfl (Nat.le_of_ble_eq_true rfl) [0, 5] [1, 2, 3, 4, 6, 7, 8] rfl (wr := [ob 5 q_t [.ref q_t_glue, .ref q_t_upper, .ref q_t_under, .ref q_t_work, .ref q_t_wear, .ref q_t_cells, .int r1, .int t_cure], aI E.I q_t_work 5 t_work, aI E.I q_t_wear 5 t_wear, aI E.I q_t_cells 10 t_cells, aI E.I q_t_glue 5 (upd t_glue_3 (Int32.toNatClampNeg x2_2) w15), aI E.I q_t_upper 5 (upd t_upper_4 (Int32.toNatClampNeg x2_2) w18), aI E.I q_t_under 5 t_under_5]) rfl (by decide) (by decide) (by decide) rfl rfl (fun u hw => ?_)
                obtain ⟨r26, hu_⟩ : ∃ z, z = u := ⟨_, rfl⟩
                subst hu_
                try dsimp only at hw
                show G X E 5 [ob 5 q_t [.ref q_t_glue, .ref q_t_upper, .ref q_t_under, .ref q_t_work, .ref q_t_wear, .ref q_t_cells, .int r1, .int t_cure], aI E.I q_t_work 5 t_work, aI E.I q_t_wear 5 t_wear, aI E.I q_t_cells 10 t_cells, aI E.I q_t_glue 5 (upd t_glue_3 (Int32.toNatClampNeg x2_2) w15), aI E.I q_t_upper 5 (upd t_upper_4 (Int32.toNatClampNeg x2_2) w18), aI E.I q_t_under 5 t_under_5, ob 7 q_a0 [.ref q_a0_row, .int a0_count], aI E.I q_a0_row 40 a0_row] 0 0 100 [(0, .ref q_t), (1, .ref q_a0), (2, .int x2_2), (4, .int (bI w13))] [.int r26, .int x2_2, .ref q_t_under]
                refine g_goto C0 (tgt := 104) dX5_readFrom_100 (by decide) ?_
                refine g_lv [0, 1, 2] (lv2 := [(0, .ref q_t), (1, .ref q_a0), (2, .int x2_2)]) rfl ?_
                refine g_re [7, 0, 1, 2, 3, 8, 4, 5, 6] (by decide) (ws2 := [ob 7 q_a0 [.ref q_a0_row, .int a0_count], ob 5 q_t [.ref q_t_glue, .ref q_t_upper, .ref q_t_under, .ref q_t_work, .ref q_t_wear, .ref q_t_cells, .int r1, .int t_cure], aI E.I q_t_work 5 t_work, aI E.I q_t_wear 5 t_wear, aI E.I q_t_cells 10 t_cells, aI E.I q_a0_row 40 a0_row, aI E.I q_t_glue 5 (upd t_glue_3 (Int32.toNatClampNeg x2_2) w15), aI E.I q_t_upper 5 (upd t_upper_4 (Int32.toNatClampNeg x2_2) w18), aI E.I q_t_under 5 t_under_5]) rfl ?_
                exact hJ22 _ hw
          · refine g_ifb_eq C0 (tgt := 83) dX5_readFrom_72 (by decide) (fun c27 => ?_) (fun c27 => ?_)
            · replace hw := hw.1 c27
              refine g_iconst C0 (v := 0) dX5_readFrom_83 (by decide) ?_
              exact hJ19 _ hw
            · replace hw := hw.2 c27
              refine g_aload_n C0 dX5_readFrom_75 1 rfl ?_
              refine g_iload_n C0 dX5_readFrom_76 2 rfl ?_
              refine g_callV C0 (q0 := 0) (ci := 7) (c_X7_upperBehind l E q_a0 q_a0_row x2_2 a0_count a0_row _ hw) dX5_readFrom_77 gX5_readFrom_X7_upperBehind rfl ddV_X7_upperBehind rfl (by decide) (by decide) rfl (Nat.le_of_ble_eq_true rfl) [0, 5] [1, 2, 3, 4, 6, 7, 8] rfl (wr := [ob 5 q_t [.ref q_t_glue, .ref q_t_upper, .ref q_t_under, .ref q_t_work, .ref q_t_wear, .ref q_t_cells, .int r1, .int t_cure], aI E.I q_t_work 5 t_work, aI E.I q_t_wear 5 t_wear, aI E.I q_t_cells 10 t_cells, aI E.I q_t_glue 5 (upd t_glue_3 (Int32.toNatClampNeg x2_2) w15), aI E.I q_t_upper 5 t_upper_4, aI E.I q_t_under 5 t_under_5]) rfl (by decide) (by decide) (by decide) rfl rfl (fun u hw => ?_)
              obtain ⟨r28, hu_⟩ : ∃ z, z = u := ⟨_, rfl⟩
              subst hu_
              try dsimp only at hw
              show G X E 5 [ob 5 q_t [.ref q_t_glue, .ref q_t_upper, .ref q_t_under, .ref q_t_work, .ref q_t_wear, .ref q_t_cells, .int r1, .int t_cure], aI E.I q_t_work 5 t_work, aI E.I q_t_wear 5 t_wear, aI E.I q_t_cells 10 t_cells, aI E.I q_t_glue 5 (upd t_glue_3 (Int32.toNatClampNeg x2_2) w15), aI E.I q_t_upper 5 t_upper_4, aI E.I q_t_under 5 t_under_5, ob 7 q_a0 [.ref q_a0_row, .int a0_count], aI E.I q_a0_row 40 a0_row] 0 0 80 [(0, .ref q_t), (1, .ref q_a0), (2, .int x2_2), (4, .int (bI w13))] [.int r28, .int x2_2, .ref q_t_upper]
              refine g_goto C0 (tgt := 84) dX5_readFrom_80 (by decide) ?_
              refine g_re [7, 0, 1, 2, 3, 8, 4, 5, 6] (by decide) (ws2 := [ob 7 q_a0 [.ref q_a0_row, .int a0_count], ob 5 q_t [.ref q_t_glue, .ref q_t_upper, .ref q_t_under, .ref q_t_work, .ref q_t_wear, .ref q_t_cells, .int r1, .int t_cure], aI E.I q_t_work 5 t_work, aI E.I q_t_wear 5 t_wear, aI E.I q_t_cells 10 t_cells, aI E.I q_a0_row 40 a0_row, aI E.I q_t_glue 5 (upd t_glue_3 (Int32.toNatClampNeg x2_2) w15), aI E.I q_t_upper 5 t_upper_4, aI E.I q_t_under 5 t_under_5]) rfl ?_
              exact hJ19 _ hw
        · refine g_ifb_eq C0 (tgt := 63) dX5_readFrom_52 (by decide) (fun c29 => ?_) (fun c29 => ?_)
          · replace hw := hw.1 c29
            refine g_iconst C0 (v := 0) dX5_readFrom_63 (by decide) ?_
            refine g_lv [1, 2, 3, 0] (lv2 := [(0, .ref q_t), (1, .ref q_a0), (2, .int x2_2), (4, .int (bI w13))]) rfl ?_
            exact hJ16 _ hw
          · replace hw := hw.2 c29
            refine g_aload_n C0 dX5_readFrom_55 2 rfl ?_
            refine g_iload_n C0 dX5_readFrom_56 3 rfl ?_
            refine g_callV C0 (q0 := 0) (ci := 7) (c_X7_glueOf l E q_a0 q_a0_row x2_2 a0_count a0_row _ hw) dX5_readFrom_57 gX5_readFrom_X7_glueOf rfl ddV_X7_glueOf rfl (by decide) (by decide) rfl (Nat.le_of_ble_eq_true rfl) [0, 5] [1, 2, 3, 4, 6, 7, 8] rfl (wr := [ob 5 q_t [.ref q_t_glue, .ref q_t_upper, .ref q_t_under, .ref q_t_work, .ref q_t_wear, .ref q_t_cells, .int r1, .int t_cure], aI E.I q_t_work 5 t_work, aI E.I q_t_wear 5 t_wear, aI E.I q_t_cells 10 t_cells, aI E.I q_t_glue 5 t_glue_3, aI E.I q_t_upper 5 t_upper_4, aI E.I q_t_under 5 t_under_5]) rfl (by decide) (by decide) (by decide) rfl rfl (fun u hw => ?_)
            obtain ⟨r30, hu_⟩ : ∃ z, z = u := ⟨_, rfl⟩
            subst hu_
            try dsimp only at hw
            show G X E 5 [ob 5 q_t [.ref q_t_glue, .ref q_t_upper, .ref q_t_under, .ref q_t_work, .ref q_t_wear, .ref q_t_cells, .int r1, .int t_cure], aI E.I q_t_work 5 t_work, aI E.I q_t_wear 5 t_wear, aI E.I q_t_cells 10 t_cells, aI E.I q_t_glue 5 t_glue_3, aI E.I q_t_upper 5 t_upper_4, aI E.I q_t_under 5 t_under_5, ob 7 q_a0 [.ref q_a0_row, .int a0_count], aI E.I q_a0_row 40 a0_row] 0 0 60 [(4, .int (bI w13)), (0, .ref q_t), (1, .ref q_a0), (2, .int x2_2), (3, .int (bI w11))] [.int r30, .int x2_2, .ref q_t_glue]
            refine g_goto C0 (tgt := 64) dX5_readFrom_60 (by decide) ?_
            refine g_lv [1, 2, 3, 0] (lv2 := [(0, .ref q_t), (1, .ref q_a0), (2, .int x2_2), (4, .int (bI w13))]) rfl ?_
            refine g_re [7, 0, 1, 2, 3, 8, 4, 5, 6] (by decide) (ws2 := [ob 7 q_a0 [.ref q_a0_row, .int a0_count], ob 5 q_t [.ref q_t_glue, .ref q_t_upper, .ref q_t_under, .ref q_t_work, .ref q_t_wear, .ref q_t_cells, .int r1, .int t_cure], aI E.I q_t_work 5 t_work, aI E.I q_t_wear 5 t_wear, aI E.I q_t_cells 10 t_cells, aI E.I q_a0_row 40 a0_row, aI E.I q_t_glue 5 t_glue_3, aI E.I q_t_upper 5 t_upper_4, aI E.I q_t_under 5 t_under_5]) rfl ?_
            exact hJ16 _ hw
      · refine g_icmp_ge C0 (tgt := 43) dX5_readFrom_36 (by decide) (fun c31 => ?_) (fun c31 => ?_)
        · replace hw := hw.1 c31
          refine g_iconst C0 (v := 0) dX5_readFrom_43 (by decide) ?_
          refine g_lv [1, 2, 3, 0] (lv2 := [(0, .ref q_t), (1, .ref q_a0), (2, .int x2_2), (3, .int (bI w11))]) rfl ?_
          exact hJ14 _ hw
        · replace hw := hw.2 c31
          refine g_iconst C0 (v := 1) dX5_readFrom_39 (by decide) ?_
          refine g_goto C0 (tgt := 44) dX5_readFrom_40 (by decide) ?_
          refine g_lv [1, 2, 3, 0] (lv2 := [(0, .ref q_t), (1, .ref q_a0), (2, .int x2_2), (3, .int (bI w11))]) rfl ?_
          exact hJ14 _ hw
    · refine g_icmp_ge C0 (tgt := 27) dX5_readFrom_20 (by decide) (fun c32 => ?_) (fun c32 => ?_)
      · replace hw := hw.1 c32
        refine g_iconst C0 (v := 0) dX5_readFrom_27 (by decide) ?_
        exact hJ12 _ hw
      · replace hw := hw.2 c32
        refine g_iconst C0 (v := 1) dX5_readFrom_23 (by decide) ?_
        refine g_goto C0 (tgt := 28) dX5_readFrom_24 (by decide) ?_
        exact hJ12 _ hw
def w_X5_hasSpot (p0 : Int32) (t_spots : Int32) (Q : Bool → Prop) : Prop := w_X9_within p0 0 (t_spots - 1) (fun (r1 : Bool) => (r1 = false → Q false) ∧ (r1 = true → (5 ≤ p0 → Q false) ∧ (¬ 5 ≤ p0 → Q true)))
theorem ddV_X5_hasSpot : yX5_hasSpot.cls = RX5 ∧ yX5_hasSpot.cls ≠ "java/lang/invoke/MethodHandle" ∧ yX5_hasSpot.cls ≠ "java/lang/invoke/VarHandle" ∧ (parseMethodDescriptor yX5_hasSpot.desc).map (fun d => d.parameters.length) = some 1 := by decide +kernel
set_option maxHeartbeats 4000000 in
set_option maxRecDepth 100000 in
theorem c_X5_hasSpot (l : Launch) (E : gE) (q_t q_t_glue q_t_upper q_t_under q_t_work q_t_wear q_t_cells : Nat) (p0 : Int32) (t_spots : Int32) (t_cure : Int32) (Q : Bool → Prop) (hw : w_X5_hasSpot p0 t_spots Q) : Ct l E yX5_hasSpot wsX5_hasSpot { frames := 1, cells := 0, slots := 0, locals := 22 } [.ref q_t, .int p0] [ob 5 q_t [.ref q_t_glue, .ref q_t_upper, .ref q_t_under, .ref q_t_work, .ref q_t_wear, .ref q_t_cells, .int t_spots, .int t_cure]] (S := Bool) (fun u => some (.int (bI u))) (fun u => Q u) (fun u => [ob 5 q_t [.ref q_t_glue, .ref q_t_upper, .ref q_t_under, .ref q_t_work, .ref q_t_wear, .ref q_t_cells, .int t_spots, .int t_cure]]) := by
  unfold w_X5_hasSpot at hw
  have hinX5 : ∀ w ∈ wsX50, w ∈ wsX5_hasSpot := fun _ h => List.mem_cons_of_mem _ (List.mem_append_right _ h)
  refine g_start (cc := cX5_hasSpot) (nL := 2) (own := RX5) (ret := (some .boolean)) rfl (by decide) rfl (Nat.le_of_ble_eq_true rfl) (lv0 := [(0, .ref q_t), (1, .int p0)]) rfl (fun X C0 R1 => ?_)
  refine g_iload_n C0 dX5_hasSpot_0 1 rfl ?_
  refine g_iconst C0 (v := 0) dX5_hasSpot_1 (by decide) ?_
  refine g_aload_n C0 dX5_hasSpot_2 0 rfl ?_
  refine g_get C0 dX5_hasSpot_3 0 rfl 6 rfl rfl hinX5 (by decide) (List.mem_of_getElem? (i := 1) rfl) rfl ?_
  refine g_iconst C0 (v := 1) dX5_hasSpot_6 (by decide) ?_
  refine g_isub C0 dX5_hasSpot_7 ?_
  refine g_callN C0 (c_X9_within l E p0 0 (t_spots - 1) _ hw) dX5_hasSpot_8 gX5_hasSpot_X9_within_n58 rfl (List.mem_of_getElem? (i := 3) rfl) (List.mem_of_getElem? (i := 3) rfl) (List.mem_of_getElem? (i := 2) rfl) ddS_X9_within rfl (by decide) (by decide) rfl (Nat.le_of_ble_eq_true rfl) [] [0] rfl (wr := [ob 5 q_t [.ref q_t_glue, .ref q_t_upper, .ref q_t_under, .ref q_t_work, .ref q_t_wear, .ref q_t_cells, .int t_spots, .int t_cure]]) rfl (by decide) (by decide) (by decide) (fun u hw => ?_)
  obtain ⟨r1, hu_⟩ : ∃ z, z = u := ⟨_, rfl⟩
  subst hu_
  try dsimp only at hw
  show G X E 2 [ob 5 q_t [.ref q_t_glue, .ref q_t_upper, .ref q_t_under, .ref q_t_work, .ref q_t_wear, .ref q_t_cells, .int t_spots, .int t_cure]] 0 0 11 [(0, .ref q_t), (1, .int p0)] [.int (bI r1)]
  refine g_ifb_eq C0 (tgt := 23) dX5_hasSpot_11 (by decide) (fun c2 => ?_) (fun c2 => ?_)
  · replace hw := hw.1 c2
    refine g_iconst C0 (v := 0) dX5_hasSpot_23 (by decide) ?_
    exact g_zret C0 R1 (b := false) dX5_hasSpot_24 false rfl hw [0] (by decide) rfl (by decide) (by decide)
  · replace hw := hw.2 c2
    refine g_iload_n C0 dX5_hasSpot_14 1 rfl ?_
    refine g_iconst C0 (v := 5) dX5_hasSpot_15 (by decide) ?_
    refine g_icmp_ge C0 (tgt := 23) dX5_hasSpot_16 (by decide) (fun c3 => ?_) (fun c3 => ?_)
    · replace hw := hw.1 c3
      refine g_iconst C0 (v := 0) dX5_hasSpot_23 (by decide) ?_
      exact g_zret C0 R1 (b := false) dX5_hasSpot_24 false rfl hw [0] (by decide) rfl (by decide) (by decide)
    · replace hw := hw.2 c3
      refine g_iconst C0 (v := 1) dX5_hasSpot_19 (by decide) ?_
      refine g_goto C0 (tgt := 24) dX5_hasSpot_20 (by decide) ?_
      exact g_zret C0 R1 (b := true) dX5_hasSpot_24 true rfl hw [0] (by decide) rfl (by decide) (by decide)
def w_X5_isLast (p0 : Int32) (t_spots : Int32) (Q : Bool → Prop) : Prop := (¬ p0 = (t_spots - 1) → Q false) ∧ (p0 = (t_spots - 1) → Q true)
theorem ddV_X5_isLast : yX5_isLast.cls = RX5 ∧ yX5_isLast.cls ≠ "java/lang/invoke/MethodHandle" ∧ yX5_isLast.cls ≠ "java/lang/invoke/VarHandle" ∧ (parseMethodDescriptor yX5_isLast.desc).map (fun d => d.parameters.length) = some 1 := by decide +kernel
set_option maxHeartbeats 4000000 in
set_option maxRecDepth 100000 in
theorem c_X5_isLast (l : Launch) (E : gE) (q_t q_t_glue q_t_upper q_t_under q_t_work q_t_wear q_t_cells : Nat) (p0 : Int32) (t_spots : Int32) (t_cure : Int32) (Q : Bool → Prop) (hw : w_X5_isLast p0 t_spots Q) : Ct l E yX5_isLast wsX5_isLast { frames := 0, cells := 0, slots := 0, locals := 0 } [.ref q_t, .int p0] [ob 5 q_t [.ref q_t_glue, .ref q_t_upper, .ref q_t_under, .ref q_t_work, .ref q_t_wear, .ref q_t_cells, .int t_spots, .int t_cure]] (S := Bool) (fun u => some (.int (bI u))) (fun u => Q u) (fun u => [ob 5 q_t [.ref q_t_glue, .ref q_t_upper, .ref q_t_under, .ref q_t_work, .ref q_t_wear, .ref q_t_cells, .int t_spots, .int t_cure]]) := by
  unfold w_X5_isLast at hw
  have hinX5 : ∀ w ∈ wsX50, w ∈ wsX5_isLast := fun _ h => List.mem_cons_of_mem _ (List.mem_append_right _ h)
  refine g_start (cc := cX5_isLast) (nL := 2) (own := RX5) (ret := (some .boolean)) rfl (by decide) rfl (Nat.le_of_ble_eq_true rfl) (lv0 := [(0, .ref q_t), (1, .int p0)]) rfl (fun X C0 R1 => ?_)
  refine g_iload_n C0 dX5_isLast_0 1 rfl ?_
  refine g_aload_n C0 dX5_isLast_1 0 rfl ?_
  refine g_get C0 dX5_isLast_2 0 rfl 6 rfl rfl hinX5 (by decide) (List.mem_of_getElem? (i := 1) rfl) rfl ?_
  refine g_iconst C0 (v := 1) dX5_isLast_5 (by decide) ?_
  refine g_isub C0 dX5_isLast_6 ?_
  refine g_icmp_ne C0 (tgt := 14) dX5_isLast_7 (by decide) (fun c1 => ?_) (fun c1 => ?_)
  · replace hw := hw.1 c1
    refine g_iconst C0 (v := 0) dX5_isLast_14 (by decide) ?_
    exact g_zret C0 R1 (b := false) dX5_isLast_15 false rfl hw [0] (by decide) rfl (by decide) (by decide)
  · replace hw := hw.2 c1
    refine g_iconst C0 (v := 1) dX5_isLast_10 (by decide) ?_
    refine g_goto C0 (tgt := 15) dX5_isLast_11 (by decide) ?_
    exact g_zret C0 R1 (b := true) dX5_isLast_15 true rfl hw [0] (by decide) rfl (by decide) (by decide)
def w_X5_soak (p0 : Int32) (p1 : Int32) (t_cells : Nat → Int32) (Q : (Nat → Int32) → Prop) : Prop := ∃ n15 : Nat, wL3 (fun (K4 : Int32 → Int32 → (Nat → Int32) → Prop) (x3_1 : Int32) (x4_2 : Int32) (t_cells_3 : Nat → Int32) => (10 ≤ x4_2 → Q t_cells_3) ∧ (¬ 10 ≤ x4_2 → vp_in x4_2 10 ∧ (∀ x5_7 : Int32, x5_7 = (t_cells_3 (Int32.toNatClampNeg x4_2)) → (wj1 (fun (J9 : Int32 → Prop) => (9 ≤ x4_2 → J9 p1) ∧ (¬ 9 ≤ x4_2 → vp_in (x4_2 + 1) 10 ∧ (J9 (t_cells_3 (Int32.toNatClampNeg (x4_2 + 1)))))) (fun (w8 : Int32) => ∀ f10 : Int32, f10 = (x5_7 + ((p0 * ((x3_1 + w8) - (2 * x5_7))) / 100)) → (vp_in x4_2 10 ∧ (∀ x4_12 : Int32, x4_12 = (x4_2 + 1) → (K4 x5_7 x4_12 (upd t_cells_3 (Int32.toNatClampNeg x4_2) f10))))))))) n15 p1 0 t_cells
theorem ddV_X5_soak : yX5_soak.cls = RX5 ∧ yX5_soak.cls ≠ "java/lang/invoke/MethodHandle" ∧ yX5_soak.cls ≠ "java/lang/invoke/VarHandle" ∧ (parseMethodDescriptor yX5_soak.desc).map (fun d => d.parameters.length) = some 2 := by decide +kernel
set_option maxHeartbeats 4000000 in
set_option maxRecDepth 100000 in
theorem c_X5_soak (l : Launch) (E : gE) (q_t q_t_glue q_t_upper q_t_under q_t_work q_t_wear q_t_cells : Nat) (p0 : Int32) (p1 : Int32) (t_spots : Int32) (t_cure : Int32) (t_cells : Nat → Int32) (Q : (Nat → Int32) → Prop) (hw : w_X5_soak p0 p1 t_cells Q) : Ct l E yX5_soak wsX5_soak { frames := 0, cells := 0, slots := 0, locals := 0 } [.ref q_t, .int p0, .int p1] [ob 5 q_t [.ref q_t_glue, .ref q_t_upper, .ref q_t_under, .ref q_t_work, .ref q_t_wear, .ref q_t_cells, .int t_spots, .int t_cure], aI E.I q_t_cells 10 t_cells] (S := (Nat → Int32)) (fun _ => none) (fun u => Q u) (fun u => [ob 5 q_t [.ref q_t_glue, .ref q_t_upper, .ref q_t_under, .ref q_t_work, .ref q_t_wear, .ref q_t_cells, .int t_spots, .int t_cure], aI E.I q_t_cells 10 u]) := by
  unfold w_X5_soak at hw
  have hinX5 : ∀ w ∈ wsX50, w ∈ wsX5_soak := fun _ h => List.mem_cons_of_mem _ (List.mem_append_right _ h)
  refine g_start (cc := cX5_soak) (nL := 7) (own := RX5) (ret := none) rfl (by decide) rfl (Nat.le_of_ble_eq_true rfl) (lv0 := [(0, .ref q_t), (1, .int p0), (2, .int p1)]) rfl (fun X C0 R1 => ?_)
  refine g_iload_n C0 dX5_soak_0 2 rfl ?_
  refine g_istore_n C0 (lv2 := [(3, .int p1), (0, .ref q_t), (1, .int p0), (2, .int p1)]) dX5_soak_1 (by decide) rfl ?_
  refine g_iconst C0 (v := 0) dX5_soak_2 (by decide) ?_
  refine g_istore C0 (lv2 := [(4, .int 0), (3, .int p1), (0, .ref q_t), (1, .int p0), (2, .int p1)]) dX5_soak_3 (by decide) rfl ?_
  refine g_lv [2, 3, 4, 1, 0] (lv2 := [(0, .ref q_t), (1, .int p0), (2, .int p1), (3, .int p1), (4, .int 0)]) rfl ?_
  obtain ⟨n15, hw⟩ := hw
  refine wL3_go (P := fun (x3_1 : Int32) (x4_2 : Int32) (t_cells_3 : Nat → Int32) => G X E 7 [ob 5 q_t [.ref q_t_glue, .ref q_t_upper, .ref q_t_under, .ref q_t_work, .ref q_t_wear, .ref q_t_cells, .int t_spots, .int t_cure], aI E.I q_t_cells 10 t_cells_3] 0 0 5 [(0, .ref q_t), (1, .int p0), (2, .int p1), (3, .int x3_1), (4, .int x4_2)] []) (fun K4 hK4 x3_1 x4_2 t_cells_3 hw => ?_) n15 _ _ _ hw
  refine g_iload C0 dX5_soak_5 4 rfl ?_
  refine g_bipush C0 (v := 10) dX5_soak_7 (by decide) ?_
  refine g_icmp_ge C0 (tgt := 76) dX5_soak_9 (by decide) (fun c5 => ?_) (fun c5 => ?_)
  · replace hw := hw.1 c5
    exact g_vret C0 R1 dX5_soak_76 t_cells_3 rfl hw [0, 1] (by decide) rfl (by decide) (by decide)
  · replace hw := hw.2 c5
    refine g_aload_n C0 dX5_soak_12 0 rfl ?_
    refine g_get C0 dX5_soak_13 0 rfl 5 rfl rfl hinX5 (by decide) (List.mem_of_getElem? (i := 1) rfl) rfl ?_
    refine g_iload C0 dX5_soak_16 4 rfl ?_
    obtain ⟨h6, hw⟩ := hw
    refine g_iald C0 (cA := E.I) dX5_soak_18 1 rfl h6 ?_
    refine g_topi (fun x5_7 ex5_7 => ?_)
    replace hw := hw x5_7 ex5_7
    refine g_istore C0 (lv2 := [(5, .int x5_7), (0, .ref q_t), (1, .int p0), (2, .int p1), (3, .int x3_1), (4, .int x4_2)]) dX5_soak_19 (by decide) rfl ?_
    refine g_iload C0 dX5_soak_21 5 rfl ?_
    refine g_bipush C0 (v := 9) dX5_soak_23 (by decide) ?_
    refine wj1_go (P := fun (w8 : Int32) => G X E 7 [ob 5 q_t [.ref q_t_glue, .ref q_t_upper, .ref q_t_under, .ref q_t_work, .ref q_t_wear, .ref q_t_cells, .int t_spots, .int t_cure], aI E.I q_t_cells 10 t_cells_3] 0 0 41 [(0, .ref q_t), (1, .int p0), (2, .int p1), (3, .int x3_1), (4, .int x4_2), (5, .int x5_7)] [.int w8]) hw (fun w8 hw => ?_) (fun J9 hJ9 hw => ?_)
    · refine g_istore C0 (lv2 := [(6, .int w8), (0, .ref q_t), (1, .int p0), (2, .int p1), (3, .int x3_1), (4, .int x4_2), (5, .int x5_7)]) dX5_soak_41 (by decide) rfl ?_
      refine g_aload_n C0 dX5_soak_43 1 rfl ?_
      refine g_get C0 dX5_soak_44 0 rfl 5 rfl rfl hinX5 (by decide) (List.mem_of_getElem? (i := 1) rfl) rfl ?_
      refine g_iload C0 dX5_soak_47 5 rfl ?_
      refine g_iload C0 dX5_soak_49 6 rfl ?_
      refine g_iload_n C0 dX5_soak_51 2 rfl ?_
      refine g_iload_n C0 dX5_soak_52 4 rfl ?_
      refine g_iload C0 dX5_soak_53 0 rfl ?_
      refine g_iadd C0 dX5_soak_55 ?_
      refine g_iconst C0 (v := 2) dX5_soak_56 (by decide) ?_
      refine g_iload C0 dX5_soak_57 6 rfl ?_
      refine g_imul C0 dX5_soak_59 ?_
      refine g_isub C0 dX5_soak_60 ?_
      refine g_imul C0 dX5_soak_61 ?_
      refine g_bipush C0 (v := 100) dX5_soak_62 (by decide) ?_
      refine g_idiv C0 dX5_soak_64 (by decide) ?_
      refine g_iadd C0 dX5_soak_65 ?_
      refine g_topi (fun f10 ef10 => ?_)
      replace hw := hw f10 ef10
      obtain ⟨h11, hw⟩ := hw
      refine g_iast C0 (ws2 := [ob 5 q_t [.ref q_t_glue, .ref q_t_upper, .ref q_t_under, .ref q_t_work, .ref q_t_wear, .ref q_t_cells, .int t_spots, .int t_cure], aI E.I q_t_cells 10 (upd t_cells_3 (Int32.toNatClampNeg x4_2) f10)]) dX5_soak_66 1 rfl h11 rfl ?_
      refine g_iload C0 dX5_soak_67 6 rfl ?_
      refine g_istore_n C0 (lv2 := [(3, .int x5_7), (6, .int w8), (0, .ref q_t), (1, .int p0), (2, .int p1), (4, .int x4_2), (5, .int x5_7)]) dX5_soak_69 (by decide) rfl ?_
      obtain ⟨x4_12, ex4_12⟩ : ∃ y : Int32, y = x4_2 + 1 := ⟨_, rfl⟩
      replace hw := hw x4_12 ex4_12
      refine g_iinc C0 (v := x4_12) (lv2 := [(4, .int x4_12), (3, .int x5_7), (6, .int w8), (0, .ref q_t), (1, .int p0), (2, .int p1), (5, .int x5_7)]) dX5_soak_70 5 rfl (by rw [ex4_12]; rfl) (by decide) rfl ?_
      refine g_goto C0 (tgt := 5) dX5_soak_73 (by decide) ?_
      refine g_lv [3, 4, 5, 1, 0] (lv2 := [(0, .ref q_t), (1, .int p0), (2, .int p1), (3, .int x5_7), (4, .int x4_12)]) rfl ?_
      exact hK4 _ _ _ hw
    · refine g_icmp_ge C0 (tgt := 40) dX5_soak_25 (by decide) (fun c13 => ?_) (fun c13 => ?_)
      · replace hw := hw.1 c13
        refine g_iload_n C0 dX5_soak_40 3 rfl ?_
        refine g_lv [1, 2, 3, 4, 5, 0] (lv2 := [(0, .ref q_t), (1, .int p0), (2, .int p1), (3, .int x3_1), (4, .int x4_2), (5, .int x5_7)]) rfl ?_
        exact hJ9 _ hw
      · replace hw := hw.2 c13
        refine g_aload_n C0 dX5_soak_28 1 rfl ?_
        refine g_get C0 dX5_soak_29 0 rfl 5 rfl rfl hinX5 (by decide) (List.mem_of_getElem? (i := 1) rfl) rfl ?_
        refine g_iload C0 dX5_soak_32 5 rfl ?_
        refine g_iconst C0 (v := 1) dX5_soak_34 (by decide) ?_
        refine g_iadd C0 dX5_soak_35 ?_
        obtain ⟨h14, hw⟩ := hw
        refine g_iald C0 (cA := E.I) dX5_soak_36 1 rfl h14 ?_
        refine g_goto C0 (tgt := 41) dX5_soak_37 (by decide) ?_
        refine g_lv [1, 2, 3, 4, 5, 0] (lv2 := [(0, .ref q_t), (1, .int p0), (2, .int p1), (3, .int x3_1), (4, .int x4_2), (5, .int x5_7)]) rfl ?_
        exact hJ9 _ hw
def w_X5_cureBy (p0 : Int32) (t_cure : Int32) (Q : Int32 → Prop) : Prop := ∀ f1 : Int32, f1 = (if 1000 < (t_cure + p0) then 1000 else (t_cure + p0)) → (Q f1)
theorem ddV_X5_cureBy : yX5_cureBy.cls = RX5 ∧ yX5_cureBy.cls ≠ "java/lang/invoke/MethodHandle" ∧ yX5_cureBy.cls ≠ "java/lang/invoke/VarHandle" ∧ (parseMethodDescriptor yX5_cureBy.desc).map (fun d => d.parameters.length) = some 1 := by decide +kernel
set_option maxHeartbeats 4000000 in
set_option maxRecDepth 100000 in
theorem c_X5_cureBy (l : Launch) (E : gE) (q_t q_t_glue q_t_upper q_t_under q_t_work q_t_wear q_t_cells : Nat) (p0 : Int32) (t_spots : Int32) (t_cure : Int32) (Q : Int32 → Prop) (hw : w_X5_cureBy p0 t_cure Q) : Ct l E yX5_cureBy wsX5_cureBy { frames := 1, cells := 0, slots := 0, locals := 21 } [.ref q_t, .int p0] [ob 5 q_t [.ref q_t_glue, .ref q_t_upper, .ref q_t_under, .ref q_t_work, .ref q_t_wear, .ref q_t_cells, .int t_spots, .int t_cure]] (S := Int32) (fun _ => none) (fun u => Q u) (fun u => [ob 5 q_t [.ref q_t_glue, .ref q_t_upper, .ref q_t_under, .ref q_t_work, .ref q_t_wear, .ref q_t_cells, .int t_spots, .int u]]) := by
  unfold w_X5_cureBy at hw
  have hinX5 : ∀ w ∈ wsX50, w ∈ wsX5_cureBy := fun _ h => List.mem_cons_of_mem _ (List.mem_append_right _ h)
  refine g_start (cc := cX5_cureBy) (nL := 2) (own := RX5) (ret := none) rfl (by decide) rfl (Nat.le_of_ble_eq_true rfl) (lv0 := [(0, .ref q_t), (1, .int p0)]) rfl (fun X C0 R1 => ?_)
  refine g_aload_n C0 dX5_cureBy_0 0 rfl ?_
  refine g_aload_n C0 dX5_cureBy_1 0 rfl ?_
  refine g_get C0 dX5_cureBy_2 0 rfl 7 rfl rfl hinX5 (by decide) (List.mem_of_getElem? (i := 1) rfl) rfl ?_
  refine g_iload_n C0 dX5_cureBy_5 1 rfl ?_
  refine g_iadd C0 dX5_cureBy_6 ?_
  refine g_sipush C0 (v := 1000) dX5_cureBy_7 (by decide) ?_
  refine g_mmin C0 dX5_cureBy_10 (List.mem_of_getElem? (i := 2) rfl) (List.mem_of_getElem? (i := 3) rfl) (List.mem_of_getElem? (i := 4) rfl) (List.mem_of_getElem? (i := 5) rfl) (by decide) (Nat.le_of_ble_eq_true rfl) (by decide) (by decide) ?_
  refine g_topi (fun f1 ef1 => ?_)
  replace hw := hw f1 ef1
  refine g_put C0 (ws2 := [ob 5 q_t [.ref q_t_glue, .ref q_t_upper, .ref q_t_under, .ref q_t_work, .ref q_t_wear, .ref q_t_cells, .int t_spots, .int f1]]) dX5_cureBy_13 0 rfl 7 rfl hinX5 tyX5 tyX5_ok nmX5 (by decide) (List.mem_of_getElem? (i := 1) rfl) rfl rfl (tyX5_ok 7 (by decide)) rfl rfl (Nat.le_of_ble_eq_true rfl) rfl ?_
  exact g_vret C0 R1 dX5_cureBy_16 f1 rfl hw [0] (by decide) rfl (by decide) (by decide)
def w_X5_greatestDamp (t_cells : Nat → Int32) (Q : Int32 → Prop) : Prop := ∃ n8 : Nat, wL2 (fun (K3 : Int32 → Int32 → Prop) (x1_1 : Int32) (x2_2 : Int32) => (10 ≤ x2_2 → Q x1_1) ∧ (¬ 10 ≤ x2_2 → vp_in x2_2 10 ∧ (∀ x1_6 : Int32, x1_6 = (if x1_1 < (t_cells (Int32.toNatClampNeg x2_2)) then (t_cells (Int32.toNatClampNeg x2_2)) else x1_1) → (∀ x2_7 : Int32, x2_7 = (x2_2 + 1) → (K3 x1_6 x2_7))))) n8 0 0
theorem ddV_X5_greatestDamp : yX5_greatestDamp.cls = RX5 ∧ yX5_greatestDamp.cls ≠ "java/lang/invoke/MethodHandle" ∧ yX5_greatestDamp.cls ≠ "java/lang/invoke/VarHandle" ∧ (parseMethodDescriptor yX5_greatestDamp.desc).map (fun d => d.parameters.length) = some 0 := by decide +kernel
set_option maxHeartbeats 4000000 in
set_option maxRecDepth 100000 in
theorem c_X5_greatestDamp (l : Launch) (E : gE) (q_t q_t_glue q_t_upper q_t_under q_t_work q_t_wear q_t_cells : Nat) (t_spots : Int32) (t_cure : Int32) (t_cells : Nat → Int32) (Q : Int32 → Prop) (hw : w_X5_greatestDamp t_cells Q) : Ct l E yX5_greatestDamp wsX5_greatestDamp { frames := 1, cells := 0, slots := 0, locals := 21 } [.ref q_t] [ob 5 q_t [.ref q_t_glue, .ref q_t_upper, .ref q_t_under, .ref q_t_work, .ref q_t_wear, .ref q_t_cells, .int t_spots, .int t_cure], aI E.I q_t_cells 10 t_cells] (S := Int32) (fun u => some (.int u)) (fun u => Q u) (fun u => [ob 5 q_t [.ref q_t_glue, .ref q_t_upper, .ref q_t_under, .ref q_t_work, .ref q_t_wear, .ref q_t_cells, .int t_spots, .int t_cure], aI E.I q_t_cells 10 t_cells]) := by
  unfold w_X5_greatestDamp at hw
  have hinX5 : ∀ w ∈ wsX50, w ∈ wsX5_greatestDamp := fun _ h => List.mem_cons_of_mem _ (List.mem_append_right _ h)
  refine g_start (cc := cX5_greatestDamp) (nL := 3) (own := RX5) (ret := (some .int)) rfl (by decide) rfl (Nat.le_of_ble_eq_true rfl) (lv0 := [(0, .ref q_t)]) rfl (fun X C0 R1 => ?_)
  refine g_iconst C0 (v := 0) dX5_greatestDamp_0 (by decide) ?_
  refine g_istore_n C0 (lv2 := [(1, .int 0), (0, .ref q_t)]) dX5_greatestDamp_1 (by decide) rfl ?_
  refine g_iconst C0 (v := 0) dX5_greatestDamp_2 (by decide) ?_
  refine g_istore_n C0 (lv2 := [(2, .int 0), (1, .int 0), (0, .ref q_t)]) dX5_greatestDamp_3 (by decide) rfl ?_
  refine g_lv [2, 1, 0] (lv2 := [(0, .ref q_t), (1, .int 0), (2, .int 0)]) rfl ?_
  obtain ⟨n8, hw⟩ := hw
  refine wL2_go (P := fun (x1_1 : Int32) (x2_2 : Int32) => G X E 3 [ob 5 q_t [.ref q_t_glue, .ref q_t_upper, .ref q_t_under, .ref q_t_work, .ref q_t_wear, .ref q_t_cells, .int t_spots, .int t_cure], aI E.I q_t_cells 10 t_cells] 0 0 4 [(0, .ref q_t), (1, .int x1_1), (2, .int x2_2)] []) (fun K3 hK3 x1_1 x2_2 hw => ?_) n8 _ _ hw
  refine g_iload_n C0 dX5_greatestDamp_4 2 rfl ?_
  refine g_bipush C0 (v := 10) dX5_greatestDamp_5 (by decide) ?_
  refine g_icmp_ge C0 (tgt := 27) dX5_greatestDamp_7 (by decide) (fun c4 => ?_) (fun c4 => ?_)
  · replace hw := hw.1 c4
    refine g_iload_n C0 dX5_greatestDamp_27 1 rfl ?_
    exact g_iret C0 R1 dX5_greatestDamp_28 x1_1 rfl hw [0, 1] (by decide) rfl (by decide) (by decide)
  · replace hw := hw.2 c4
    refine g_iload_n C0 dX5_greatestDamp_10 1 rfl ?_
    refine g_aload_n C0 dX5_greatestDamp_11 0 rfl ?_
    refine g_get C0 dX5_greatestDamp_12 0 rfl 5 rfl rfl hinX5 (by decide) (List.mem_of_getElem? (i := 1) rfl) rfl ?_
    refine g_iload_n C0 dX5_greatestDamp_15 2 rfl ?_
    obtain ⟨h5, hw⟩ := hw
    refine g_iald C0 (cA := E.I) dX5_greatestDamp_16 1 rfl h5 ?_
    refine g_mmax C0 dX5_greatestDamp_17 (List.mem_of_getElem? (i := 2) rfl) (List.mem_of_getElem? (i := 3) rfl) (List.mem_of_getElem? (i := 4) rfl) (List.mem_of_getElem? (i := 5) rfl) (by decide) (Nat.le_of_ble_eq_true rfl) (by decide) (by decide) ?_
    refine g_topi (fun x1_6 ex1_6 => ?_)
    replace hw := hw x1_6 ex1_6
    refine g_istore_n C0 (lv2 := [(1, .int x1_6), (0, .ref q_t), (2, .int x2_2)]) dX5_greatestDamp_20 (by decide) rfl ?_
    obtain ⟨x2_7, ex2_7⟩ : ∃ y : Int32, y = x2_2 + 1 := ⟨_, rfl⟩
    replace hw := hw x2_7 ex2_7
    refine g_iinc C0 (v := x2_7) (lv2 := [(2, .int x2_7), (1, .int x1_6), (0, .ref q_t)]) dX5_greatestDamp_21 2 rfl (by rw [ex2_7]; rfl) (by decide) rfl ?_
    refine g_goto C0 (tgt := 4) dX5_greatestDamp_24 (by decide) ?_
    refine g_lv [2, 1, 0] (lv2 := [(0, .ref q_t), (1, .int x1_6), (2, .int x2_7)]) rfl ?_
    exact hK3 _ _ hw
