def w_X6_findFirstSlip (p1 : Int32) (a0_glue : Nat → Int32) (a0_upper : Nat → Int32) (a0_under : Nat → Int32) (Q : Int64 → Int64 → Prop) : Prop := ∃ n22 : Nat, wL5 (fun (K6 : Int64 → Int64 → Int64 → Int64 → Int32 → Prop) (x3_1 : Int64) (x5_2 : Int64) (x7_3 : Int64) (x9_4 : Int64) (x11_5 : Int32) => (5 ≤ x11_5 → ∀ f8 : Int64, f8 = (1 - x9_4) → (Q x7_3 f8)) ∧ (¬ 5 ≤ x11_5 → wj1 (fun (J10 : Int64 → Prop) => (¬ x11_5 = p1 → vp_in x11_5 5 ∧ (J10 (Int32.toInt64 (a0_glue (Int32.toNatClampNeg x11_5))))) ∧ (x11_5 = p1 → J10 0)) (fun (w9 : Int64) => vp_in x11_5 5 ∧ (vp_in x11_5 5 ∧ (∀ x14_13 : Int64, x14_13 = (Int32.toInt64 ((a0_upper (Int32.toNatClampNeg x11_5)) + (a0_under (Int32.toNatClampNeg x11_5)))) → (∀ x7_14 : Int64, x7_14 = (x7_3 + (w9 * x3_1)) → (∀ x9_15 : Int64, x9_15 = (x9_4 + (w9 * x5_2)) → (∀ x3_16 : Int64, x3_16 = (x3_1 + (x14_13 * x7_14)) → (vp_in x11_5 5 ∧ (∀ x5_18 : Int64, x5_18 = (x5_2 + ((x14_13 * x9_15) - (Int32.toInt64 (a0_upper (Int32.toNatClampNeg x11_5))))) → (∀ x11_19 : Int32, x11_19 = (x11_5 + 1) → (K6 x3_16 x5_18 x7_14 x9_15 x11_19)))))))))))) n22 1 0 0 0 0
theorem ddV_X6_findFirstSlip : yX6_findFirstSlip.cls = RX6 ∧ yX6_findFirstSlip.cls ≠ "java/lang/invoke/MethodHandle" ∧ yX6_findFirstSlip.cls ≠ "java/lang/invoke/VarHandle" ∧ (parseMethodDescriptor yX6_findFirstSlip.desc).map (fun d => d.parameters.length) = some 2 := by decide +kernel
set_option maxHeartbeats 4000000 in
set_option maxRecDepth 100000 in
theorem c_X6_findFirstSlip (l : Launch) (E : gE) (q_t q_a0 q_t_slip q_t_shear q_t_ahead q_a0_glue q_a0_upper q_a0_under q_a0_work q_a0_wear q_a0_cells : Nat) (p1 : Int32) (t_lower : Int64) (t_way : Int64) (t_firstSlip : Int64) (a0_spots : Int32) (a0_cure : Int32) (a0_glue : Nat → Int32) (a0_upper : Nat → Int32) (a0_under : Nat → Int32) (Q : Int64 → Int64 → Prop) (hw : w_X6_findFirstSlip p1 a0_glue a0_upper a0_under Q) : Ct l E yX6_findFirstSlip wsX6_findFirstSlip { frames := 0, cells := 0, slots := 0, locals := 0 } [.ref q_t, .ref q_a0, .int p1] [ob 6 q_t [.ref q_t_slip, .ref q_t_shear, .ref q_t_ahead, .long t_lower, .long t_way, .long t_firstSlip], ob 5 q_a0 [.ref q_a0_glue, .ref q_a0_upper, .ref q_a0_under, .ref q_a0_work, .ref q_a0_wear, .ref q_a0_cells, .int a0_spots, .int a0_cure], aI E.I q_a0_glue 5 a0_glue, aI E.I q_a0_upper 5 a0_upper, aI E.I q_a0_under 5 a0_under] (S := Int64 × Int64) (fun _ => none) (fun u => Q u.1 u.2) (fun u => [ob 6 q_t [.ref q_t_slip, .ref q_t_shear, .ref q_t_ahead, .long u.1, .long t_way, .long u.2], ob 5 q_a0 [.ref q_a0_glue, .ref q_a0_upper, .ref q_a0_under, .ref q_a0_work, .ref q_a0_wear, .ref q_a0_cells, .int a0_spots, .int a0_cure], aI E.I q_a0_glue 5 a0_glue, aI E.I q_a0_upper 5 a0_upper, aI E.I q_a0_under 5 a0_under]) := by
  unfold w_X6_findFirstSlip at hw
  have hinX5 : ∀ w ∈ wsX50, w ∈ wsX6_findFirstSlip := fun _ h => List.mem_cons_of_mem _ (List.mem_append_left _ (List.mem_append_right _ h))
  have hinX6 : ∀ w ∈ wsX60, w ∈ wsX6_findFirstSlip := fun _ h => List.mem_cons_of_mem _ (List.mem_append_right _ h)
  refine g_start (cc := cX6_findFirstSlip) (nL := 16) (own := RX6) (ret := none) rfl (by decide) rfl (Nat.le_of_ble_eq_true rfl) (lv0 := [(0, .ref q_t), (1, .ref q_a0), (2, .int p1)]) rfl (fun X C0 R1 => ?_)
  refine g_lconst C0 (v := 1) dX6_findFirstSlip_0 (by decide) ?_
  refine g_lstore_n C0 (lv2 := [(3, .long 1), (0, .ref q_t), (1, .ref q_a0), (2, .int p1)]) dX6_findFirstSlip_1 (by decide) rfl ?_
  refine g_lconst C0 (v := 0) dX6_findFirstSlip_2 (by decide) ?_
  refine g_lstore C0 (lv2 := [(5, .long 0), (3, .long 1), (0, .ref q_t), (1, .ref q_a0), (2, .int p1)]) dX6_findFirstSlip_3 (by decide) rfl ?_
  refine g_lconst C0 (v := 0) dX6_findFirstSlip_5 (by decide) ?_
  refine g_lstore C0 (lv2 := [(7, .long 0), (5, .long 0), (3, .long 1), (0, .ref q_t), (1, .ref q_a0), (2, .int p1)]) dX6_findFirstSlip_6 (by decide) rfl ?_
  refine g_lconst C0 (v := 0) dX6_findFirstSlip_8 (by decide) ?_
  refine g_lstore C0 (lv2 := [(9, .long 0), (7, .long 0), (5, .long 0), (3, .long 1), (0, .ref q_t), (1, .ref q_a0), (2, .int p1)]) dX6_findFirstSlip_9 (by decide) rfl ?_
  refine g_iconst C0 (v := 0) dX6_findFirstSlip_11 (by decide) ?_
  refine g_istore C0 (lv2 := [(11, .int 0), (9, .long 0), (7, .long 0), (5, .long 0), (3, .long 1), (0, .ref q_t), (1, .ref q_a0), (2, .int p1)]) dX6_findFirstSlip_12 (by decide) rfl ?_
  refine g_lv [5, 6, 7, 4, 3, 2, 1, 0] (lv2 := [(0, .ref q_t), (1, .ref q_a0), (2, .int p1), (3, .long 1), (5, .long 0), (7, .long 0), (9, .long 0), (11, .int 0)]) rfl ?_
  obtain ⟨n22, hw⟩ := hw
  refine wL5_go (P := fun (x3_1 : Int64) (x5_2 : Int64) (x7_3 : Int64) (x9_4 : Int64) (x11_5 : Int32) => G X E 16 [ob 6 q_t [.ref q_t_slip, .ref q_t_shear, .ref q_t_ahead, .long t_lower, .long t_way, .long t_firstSlip], ob 5 q_a0 [.ref q_a0_glue, .ref q_a0_upper, .ref q_a0_under, .ref q_a0_work, .ref q_a0_wear, .ref q_a0_cells, .int a0_spots, .int a0_cure], aI E.I q_a0_glue 5 a0_glue, aI E.I q_a0_upper 5 a0_upper, aI E.I q_a0_under 5 a0_under] 0 0 14 [(0, .ref q_t), (1, .ref q_a0), (2, .int p1), (3, .long x3_1), (5, .long x5_2), (7, .long x7_3), (9, .long x9_4), (11, .int x11_5)] []) (fun K6 hK6 x3_1 x5_2 x7_3 x9_4 x11_5 hw => ?_) n22 _ _ _ _ _ hw
  refine g_iload C0 dX6_findFirstSlip_14 7 rfl ?_
  refine g_iconst C0 (v := 5) dX6_findFirstSlip_16 (by decide) ?_
  refine g_icmp_ge C0 (tgt := 110) dX6_findFirstSlip_17 (by decide) (fun c7 => ?_) (fun c7 => ?_)
  · replace hw := hw.1 c7
    refine g_aload_n C0 dX6_findFirstSlip_110 0 rfl ?_
    refine g_lload C0 dX6_findFirstSlip_111 5 rfl ?_
    refine g_put C0 (ws2 := [ob 6 q_t [.ref q_t_slip, .ref q_t_shear, .ref q_t_ahead, .long x7_3, .long t_way, .long t_firstSlip], ob 5 q_a0 [.ref q_a0_glue, .ref q_a0_upper, .ref q_a0_under, .ref q_a0_work, .ref q_a0_wear, .ref q_a0_cells, .int a0_spots, .int a0_cure], aI E.I q_a0_glue 5 a0_glue, aI E.I q_a0_upper 5 a0_upper, aI E.I q_a0_under 5 a0_under]) dX6_findFirstSlip_113 0 rfl 3 rfl hinX6 tyX6 tyX6_ok nmX6 (by decide) (List.mem_of_getElem? (i := 4) rfl) rfl rfl (tyX6_ok 3 (by decide)) rfl rfl (Nat.le_of_ble_eq_true rfl) rfl ?_
    refine g_aload_n C0 dX6_findFirstSlip_116 0 rfl ?_
    refine g_lconst C0 (v := 1) dX6_findFirstSlip_117 (by decide) ?_
    refine g_lload C0 dX6_findFirstSlip_118 6 rfl ?_
    refine g_lsub C0 dX6_findFirstSlip_120 ?_
    refine g_topl (fun f8 ef8 => ?_)
    replace hw := hw f8 ef8
    refine g_put C0 (ws2 := [ob 6 q_t [.ref q_t_slip, .ref q_t_shear, .ref q_t_ahead, .long x7_3, .long t_way, .long f8], ob 5 q_a0 [.ref q_a0_glue, .ref q_a0_upper, .ref q_a0_under, .ref q_a0_work, .ref q_a0_wear, .ref q_a0_cells, .int a0_spots, .int a0_cure], aI E.I q_a0_glue 5 a0_glue, aI E.I q_a0_upper 5 a0_upper, aI E.I q_a0_under 5 a0_under]) dX6_findFirstSlip_121 0 rfl 5 rfl hinX6 tyX6 tyX6_ok nmX6 (by decide) (List.mem_of_getElem? (i := 5) rfl) rfl rfl (tyX6_ok 5 (by decide)) rfl rfl (Nat.le_of_ble_eq_true rfl) rfl ?_
    exact g_vret C0 R1 dX6_findFirstSlip_124 (x7_3, f8) rfl hw [0, 1, 2, 3, 4] (by decide) rfl (by decide) (by decide)
  · replace hw := hw.2 c7
    refine g_iload C0 dX6_findFirstSlip_20 7 rfl ?_
    refine g_iload_n C0 dX6_findFirstSlip_22 2 rfl ?_
    refine wj1_go (P := fun (w9 : Int64) => G X E 16 [ob 6 q_t [.ref q_t_slip, .ref q_t_shear, .ref q_t_ahead, .long t_lower, .long t_way, .long t_firstSlip], ob 5 q_a0 [.ref q_a0_glue, .ref q_a0_upper, .ref q_a0_under, .ref q_a0_work, .ref q_a0_wear, .ref q_a0_cells, .int a0_spots, .int a0_cure], aI E.I q_a0_glue 5 a0_glue, aI E.I q_a0_upper 5 a0_upper, aI E.I q_a0_under 5 a0_under] 0 0 38 [(0, .ref q_t), (1, .ref q_a0), (2, .int p1), (3, .long x3_1), (5, .long x5_2), (7, .long x7_3), (9, .long x9_4), (11, .int x11_5)] [.long w9]) hw (fun w9 hw => ?_) (fun J10 hJ10 hw => ?_)
    · refine g_lstore C0 (lv2 := [(12, .long w9), (0, .ref q_t), (1, .ref q_a0), (2, .int p1), (3, .long x3_1), (5, .long x5_2), (7, .long x7_3), (9, .long x9_4), (11, .int x11_5)]) dX6_findFirstSlip_38 (by decide) rfl ?_
      refine g_aload_n C0 dX6_findFirstSlip_40 2 rfl ?_
      refine g_get C0 dX6_findFirstSlip_41 1 rfl 1 rfl rfl hinX5 (by decide) (List.mem_of_getElem? (i := 2) rfl) rfl ?_
      refine g_iload C0 dX6_findFirstSlip_44 8 rfl ?_
      obtain ⟨h11, hw⟩ := hw
      refine g_iald C0 (cA := E.I) dX6_findFirstSlip_46 3 rfl h11 ?_
      refine g_aload_n C0 dX6_findFirstSlip_47 2 rfl ?_
      refine g_get C0 dX6_findFirstSlip_48 1 rfl 2 rfl rfl hinX5 (by decide) (List.mem_of_getElem? (i := 3) rfl) rfl ?_
      refine g_iload C0 dX6_findFirstSlip_51 8 rfl ?_
      obtain ⟨h12, hw⟩ := hw
      refine g_iald C0 (cA := E.I) dX6_findFirstSlip_53 4 rfl h12 ?_
      refine g_iadd C0 dX6_findFirstSlip_54 ?_
      refine g_i2l C0 dX6_findFirstSlip_55 ?_
      refine g_topl (fun x14_13 ex14_13 => ?_)
      replace hw := hw x14_13 ex14_13
      refine g_lstore C0 (lv2 := [(14, .long x14_13), (12, .long w9), (0, .ref q_t), (1, .ref q_a0), (2, .int p1), (3, .long x3_1), (5, .long x5_2), (7, .long x7_3), (9, .long x9_4), (11, .int x11_5)]) dX6_findFirstSlip_56 (by decide) rfl ?_
      refine g_lload C0 dX6_findFirstSlip_58 7 rfl ?_
      refine g_lload C0 dX6_findFirstSlip_60 1 rfl ?_
      refine g_lload_n C0 dX6_findFirstSlip_62 5 rfl ?_
      refine g_lmul C0 dX6_findFirstSlip_63 ?_
      refine g_ladd C0 dX6_findFirstSlip_64 ?_
      refine g_topl (fun x7_14 ex7_14 => ?_)
      replace hw := hw x7_14 ex7_14
      refine g_lstore C0 (lv2 := [(7, .long x7_14), (14, .long x14_13), (12, .long w9), (0, .ref q_t), (1, .ref q_a0), (2, .int p1), (3, .long x3_1), (5, .long x5_2), (9, .long x9_4), (11, .int x11_5)]) dX6_findFirstSlip_65 (by decide) rfl ?_
      refine g_lload C0 dX6_findFirstSlip_67 8 rfl ?_
      refine g_lload C0 dX6_findFirstSlip_69 2 rfl ?_
      refine g_lload C0 dX6_findFirstSlip_71 7 rfl ?_
      refine g_lmul C0 dX6_findFirstSlip_73 ?_
      refine g_ladd C0 dX6_findFirstSlip_74 ?_
      refine g_topl (fun x9_15 ex9_15 => ?_)
      replace hw := hw x9_15 ex9_15
      refine g_lstore C0 (lv2 := [(9, .long x9_15), (7, .long x7_14), (14, .long x14_13), (12, .long w9), (0, .ref q_t), (1, .ref q_a0), (2, .int p1), (3, .long x3_1), (5, .long x5_2), (11, .int x11_5)]) dX6_findFirstSlip_75 (by decide) rfl ?_
      refine g_lload_n C0 dX6_findFirstSlip_77 7 rfl ?_
      refine g_lload C0 dX6_findFirstSlip_78 2 rfl ?_
      refine g_lload C0 dX6_findFirstSlip_80 1 rfl ?_
      refine g_lmul C0 dX6_findFirstSlip_82 ?_
      refine g_ladd C0 dX6_findFirstSlip_83 ?_
      refine g_topl (fun x3_16 ex3_16 => ?_)
      replace hw := hw x3_16 ex3_16
      refine g_lstore_n C0 (lv2 := [(3, .long x3_16), (9, .long x9_15), (7, .long x7_14), (14, .long x14_13), (12, .long w9), (0, .ref q_t), (1, .ref q_a0), (2, .int p1), (5, .long x5_2), (11, .int x11_5)]) dX6_findFirstSlip_84 (by decide) rfl ?_
      refine g_lload C0 dX6_findFirstSlip_85 8 rfl ?_
      refine g_lload C0 dX6_findFirstSlip_87 3 rfl ?_
      refine g_lload C0 dX6_findFirstSlip_89 1 rfl ?_
      refine g_lmul C0 dX6_findFirstSlip_91 ?_
      refine g_aload_n C0 dX6_findFirstSlip_92 6 rfl ?_
      refine g_get C0 dX6_findFirstSlip_93 1 rfl 1 rfl rfl hinX5 (by decide) (List.mem_of_getElem? (i := 2) rfl) rfl ?_
      refine g_iload C0 dX6_findFirstSlip_96 9 rfl ?_
      obtain ⟨h17, hw⟩ := hw
      refine g_iald C0 (cA := E.I) dX6_findFirstSlip_98 3 rfl h17 ?_
      refine g_i2l C0 dX6_findFirstSlip_99 ?_
      refine g_lsub C0 dX6_findFirstSlip_100 ?_
      refine g_ladd C0 dX6_findFirstSlip_101 ?_
      refine g_topl (fun x5_18 ex5_18 => ?_)
      replace hw := hw x5_18 ex5_18
      refine g_lstore C0 (lv2 := [(5, .long x5_18), (3, .long x3_16), (9, .long x9_15), (7, .long x7_14), (14, .long x14_13), (12, .long w9), (0, .ref q_t), (1, .ref q_a0), (2, .int p1), (11, .int x11_5)]) dX6_findFirstSlip_102 (by decide) rfl ?_
      obtain ⟨x11_19, ex11_19⟩ : ∃ y : Int32, y = x11_5 + 1 := ⟨_, rfl⟩
      replace hw := hw x11_19 ex11_19
      refine g_iinc C0 (v := x11_19) (lv2 := [(11, .int x11_19), (5, .long x5_18), (3, .long x3_16), (9, .long x9_15), (7, .long x7_14), (14, .long x14_13), (12, .long w9), (0, .ref q_t), (1, .ref q_a0), (2, .int p1)]) dX6_findFirstSlip_104 9 rfl (by rw [ex11_19]; rfl) (by decide) rfl ?_
      refine g_goto C0 (tgt := 14) dX6_findFirstSlip_107 (by decide) ?_
      refine g_lv [7, 8, 9, 2, 1, 4, 3, 0] (lv2 := [(0, .ref q_t), (1, .ref q_a0), (2, .int p1), (3, .long x3_16), (5, .long x5_18), (7, .long x7_14), (9, .long x9_15), (11, .int x11_19)]) rfl ?_
      exact hK6 _ _ _ _ _ hw
    · refine g_icmp_ne C0 (tgt := 30) dX6_findFirstSlip_23 (by decide) (fun c20 => ?_) (fun c20 => ?_)
      · replace hw := hw.1 c20
        refine g_aload_n C0 dX6_findFirstSlip_30 1 rfl ?_
        refine g_get C0 dX6_findFirstSlip_31 1 rfl 0 rfl rfl hinX5 (by decide) (List.mem_of_getElem? (i := 1) rfl) rfl ?_
        refine g_iload C0 dX6_findFirstSlip_34 7 rfl ?_
        obtain ⟨h21, hw⟩ := hw
        refine g_iald C0 (cA := E.I) dX6_findFirstSlip_36 2 rfl h21 ?_
        refine g_i2l C0 dX6_findFirstSlip_37 ?_
        exact hJ10 _ hw
      · replace hw := hw.2 c20
        refine g_lconst C0 (v := 0) dX6_findFirstSlip_26 (by decide) ?_
        refine g_goto C0 (tgt := 38) dX6_findFirstSlip_27 (by decide) ?_
        exact hJ10 _ hw
def w_X6_follow (p1 : Int32) (t_lower : Int64) (t_firstSlip : Int64) (t_slip : Nat → Int64) (a0_glue : Nat → Int32) (t_shear : Nat → Int64) (t_ahead : Nat → Int64) (a0_upper : Nat → Int32) (a0_under : Nat → Int32) (Q : Int64 → (Nat → Int64) → (Nat → Int64) → (Nat → Int64) → Prop) : Prop := ∃ n29 : Nat, wL7 (fun (K8 : Int64 → Int64 → Int32 → Int64 → (Nat → Int64) → (Nat → Int64) → (Nat → Int64) → Prop) (x3_1 : Int64) (x5_2 : Int64) (x7_3 : Int32) (t_way_4 : Int64) (t_slip_5 : Nat → Int64) (t_shear_6 : Nat → Int64) (t_ahead_7 : Nat → Int64) => (5 ≤ x7_3 → ∀ f10 : Int64, f10 = (t_way_4 + x3_1) → (Q f10 t_slip_5 t_shear_6 t_ahead_7)) ∧ (¬ 5 ≤ x7_3 → vp_in x7_3 5 ∧ (wj1 (fun (J13 : Int64 → Prop) => (¬ x7_3 = p1 → vp_in x7_3 5 ∧ (J13 ((Int32.toInt64 (a0_glue (Int32.toNatClampNeg x7_3))) * x3_1))) ∧ (x7_3 = p1 → J13 0)) (fun (w12 : Int64) => vp_in x7_3 5 ∧ (vp_in x7_3 5 ∧ (∀ x5_16 : Int64, x5_16 = (x5_2 + ((vp_updL t_shear_6 (Int32.toNatClampNeg x7_3) w12) (Int32.toNatClampNeg x7_3))) → (∀ f17 : Int64, f17 = (t_lower - x5_16) → (vp_in x7_3 5 ∧ (vp_in x7_3 5 ∧ (vp_in x7_3 5 ∧ (∀ f21 : Int64, f21 = (t_way_4 + ((Int32.toInt64 (a0_upper (Int32.toNatClampNeg x7_3))) * ((vp_updL t_ahead_7 (Int32.toNatClampNeg x7_3) f17) (Int32.toNatClampNeg x7_3)))) → (vp_in x7_3 5 ∧ (vp_in x7_3 5 ∧ (vp_in x7_3 5 ∧ (∀ x3_25 : Int64, x3_25 = (x3_1 + (((Int32.toInt64 (a0_under (Int32.toNatClampNeg x7_3))) * x5_16) - ((Int32.toInt64 (a0_upper (Int32.toNatClampNeg x7_3))) * ((vp_updL t_ahead_7 (Int32.toNatClampNeg x7_3) f17) (Int32.toNatClampNeg x7_3))))) → (∀ x7_26 : Int32, x7_26 = (x7_3 + 1) → (K8 x3_25 x5_16 x7_26 f21 (vp_updL t_slip_5 (Int32.toNatClampNeg x7_3) x3_1) (vp_updL t_shear_6 (Int32.toNatClampNeg x7_3) w12) (vp_updL t_ahead_7 (Int32.toNatClampNeg x7_3) f17)))))))))))))))))) n29 t_firstSlip 0 0 0 t_slip t_shear t_ahead
theorem ddV_X6_follow : yX6_follow.cls = RX6 ∧ yX6_follow.cls ≠ "java/lang/invoke/MethodHandle" ∧ yX6_follow.cls ≠ "java/lang/invoke/VarHandle" ∧ (parseMethodDescriptor yX6_follow.desc).map (fun d => d.parameters.length) = some 2 := by decide +kernel
set_option maxHeartbeats 4000000 in
set_option maxRecDepth 100000 in
theorem c_X6_follow (l : Launch) (E : gE) (q_t q_a0 q_t_slip q_t_shear q_t_ahead q_a0_glue q_a0_upper q_a0_under q_a0_work q_a0_wear q_a0_cells : Nat) (p1 : Int32) (t_lower : Int64) (t_way : Int64) (t_firstSlip : Int64) (t_slip : Nat → Int64) (a0_spots : Int32) (a0_cure : Int32) (a0_glue : Nat → Int32) (t_shear : Nat → Int64) (t_ahead : Nat → Int64) (a0_upper : Nat → Int32) (a0_under : Nat → Int32) (Q : Int64 → (Nat → Int64) → (Nat → Int64) → (Nat → Int64) → Prop) (hw : w_X6_follow p1 t_lower t_firstSlip t_slip a0_glue t_shear t_ahead a0_upper a0_under Q) : Ct l E yX6_follow wsX6_follow { frames := 0, cells := 0, slots := 0, locals := 0 } [.ref q_t, .ref q_a0, .int p1] [ob 6 q_t [.ref q_t_slip, .ref q_t_shear, .ref q_t_ahead, .long t_lower, .long t_way, .long t_firstSlip], aJ E.J q_t_slip 5 t_slip, ob 5 q_a0 [.ref q_a0_glue, .ref q_a0_upper, .ref q_a0_under, .ref q_a0_work, .ref q_a0_wear, .ref q_a0_cells, .int a0_spots, .int a0_cure], aI E.I q_a0_glue 5 a0_glue, aJ E.J q_t_shear 5 t_shear, aJ E.J q_t_ahead 5 t_ahead, aI E.I q_a0_upper 5 a0_upper, aI E.I q_a0_under 5 a0_under] (S := Int64 × (Nat → Int64) × (Nat → Int64) × (Nat → Int64)) (fun _ => none) (fun u => Q u.1 u.2.1 u.2.2.1 u.2.2.2) (fun u => [ob 6 q_t [.ref q_t_slip, .ref q_t_shear, .ref q_t_ahead, .long t_lower, .long u.1, .long t_firstSlip], aJ E.J q_t_slip 5 u.2.1, ob 5 q_a0 [.ref q_a0_glue, .ref q_a0_upper, .ref q_a0_under, .ref q_a0_work, .ref q_a0_wear, .ref q_a0_cells, .int a0_spots, .int a0_cure], aI E.I q_a0_glue 5 a0_glue, aJ E.J q_t_shear 5 u.2.2.1, aJ E.J q_t_ahead 5 u.2.2.2, aI E.I q_a0_upper 5 a0_upper, aI E.I q_a0_under 5 a0_under]) := by
  unfold w_X6_follow at hw
  have hinX5 : ∀ w ∈ wsX50, w ∈ wsX6_follow := fun _ h => List.mem_cons_of_mem _ (List.mem_append_right _ h)
  have hinX6 : ∀ w ∈ wsX60, w ∈ wsX6_follow := fun _ h => List.mem_cons_of_mem _ (List.mem_append_left _ (List.mem_append_right _ h))
  refine g_start (cc := cX6_follow) (nL := 8) (own := RX6) (ret := none) rfl (by decide) rfl (Nat.le_of_ble_eq_true rfl) (lv0 := [(0, .ref q_t), (1, .ref q_a0), (2, .int p1)]) rfl (fun X C0 R1 => ?_)
  refine g_aload_n C0 dX6_follow_0 0 rfl ?_
  refine g_get C0 dX6_follow_1 0 rfl 5 rfl rfl hinX6 (by decide) (List.mem_of_getElem? (i := 1) rfl) rfl ?_
  refine g_lstore_n C0 (lv2 := [(3, .long t_firstSlip), (0, .ref q_t), (1, .ref q_a0), (2, .int p1)]) dX6_follow_4 (by decide) rfl ?_
  refine g_lconst C0 (v := 0) dX6_follow_5 (by decide) ?_
  refine g_lstore C0 (lv2 := [(5, .long 0), (3, .long t_firstSlip), (0, .ref q_t), (1, .ref q_a0), (2, .int p1)]) dX6_follow_6 (by decide) rfl ?_
  refine g_aload_n C0 dX6_follow_8 2 rfl ?_
  refine g_lconst C0 (v := 0) dX6_follow_9 (by decide) ?_
  refine g_put C0 (ws2 := [ob 6 q_t [.ref q_t_slip, .ref q_t_shear, .ref q_t_ahead, .long t_lower, .long 0, .long t_firstSlip], aJ E.J q_t_slip 5 t_slip, ob 5 q_a0 [.ref q_a0_glue, .ref q_a0_upper, .ref q_a0_under, .ref q_a0_work, .ref q_a0_wear, .ref q_a0_cells, .int a0_spots, .int a0_cure], aI E.I q_a0_glue 5 a0_glue, aJ E.J q_t_shear 5 t_shear, aJ E.J q_t_ahead 5 t_ahead, aI E.I q_a0_upper 5 a0_upper, aI E.I q_a0_under 5 a0_under]) dX6_follow_10 0 rfl 4 rfl hinX6 tyX6 tyX6_ok nmX6 (by decide) (List.mem_of_getElem? (i := 2) rfl) rfl rfl (tyX6_ok 4 (by decide)) rfl rfl (Nat.le_of_ble_eq_true rfl) rfl ?_
  refine g_iconst C0 (v := 0) dX6_follow_13 (by decide) ?_
  refine g_istore C0 (lv2 := [(7, .int 0), (5, .long 0), (3, .long t_firstSlip), (0, .ref q_t), (1, .ref q_a0), (2, .int p1)]) dX6_follow_14 (by decide) rfl ?_
  refine g_lv [3, 4, 5, 2, 1, 0] (lv2 := [(0, .ref q_t), (1, .ref q_a0), (2, .int p1), (3, .long t_firstSlip), (5, .long 0), (7, .int 0)]) rfl ?_
  obtain ⟨n29, hw⟩ := hw
  refine wL7_go (P := fun (x3_1 : Int64) (x5_2 : Int64) (x7_3 : Int32) (t_way_4 : Int64) (t_slip_5 : Nat → Int64) (t_shear_6 : Nat → Int64) (t_ahead_7 : Nat → Int64) => G X E 8 [ob 6 q_t [.ref q_t_slip, .ref q_t_shear, .ref q_t_ahead, .long t_lower, .long t_way_4, .long t_firstSlip], aJ E.J q_t_slip 5 t_slip_5, ob 5 q_a0 [.ref q_a0_glue, .ref q_a0_upper, .ref q_a0_under, .ref q_a0_work, .ref q_a0_wear, .ref q_a0_cells, .int a0_spots, .int a0_cure], aI E.I q_a0_glue 5 a0_glue, aJ E.J q_t_shear 5 t_shear_6, aJ E.J q_t_ahead 5 t_ahead_7, aI E.I q_a0_upper 5 a0_upper, aI E.I q_a0_under 5 a0_under] 0 0 16 [(0, .ref q_t), (1, .ref q_a0), (2, .int p1), (3, .long x3_1), (5, .long x5_2), (7, .int x7_3)] []) (fun K8 hK8 x3_1 x5_2 x7_3 t_way_4 t_slip_5 t_shear_6 t_ahead_7 hw => ?_) n29 _ _ _ _ _ _ _ hw
  refine g_iload C0 dX6_follow_16 5 rfl ?_
  refine g_iconst C0 (v := 5) dX6_follow_18 (by decide) ?_
  refine g_icmp_ge C0 (tgt := 145) dX6_follow_19 (by decide) (fun c9 => ?_) (fun c9 => ?_)
  · replace hw := hw.1 c9
    refine g_aload_n C0 dX6_follow_145 0 rfl ?_
    refine g_dup C0 dX6_follow_146 rfl ?_
    refine g_get C0 dX6_follow_147 0 rfl 4 rfl rfl hinX6 (by decide) (List.mem_of_getElem? (i := 2) rfl) rfl ?_
    refine g_lload_n C0 dX6_follow_150 3 rfl ?_
    refine g_ladd C0 dX6_follow_151 ?_
    refine g_topl (fun f10 ef10 => ?_)
    replace hw := hw f10 ef10
    refine g_put C0 (ws2 := [ob 6 q_t [.ref q_t_slip, .ref q_t_shear, .ref q_t_ahead, .long t_lower, .long f10, .long t_firstSlip], aJ E.J q_t_slip 5 t_slip_5, ob 5 q_a0 [.ref q_a0_glue, .ref q_a0_upper, .ref q_a0_under, .ref q_a0_work, .ref q_a0_wear, .ref q_a0_cells, .int a0_spots, .int a0_cure], aI E.I q_a0_glue 5 a0_glue, aJ E.J q_t_shear 5 t_shear_6, aJ E.J q_t_ahead 5 t_ahead_7, aI E.I q_a0_upper 5 a0_upper, aI E.I q_a0_under 5 a0_under]) dX6_follow_152 0 rfl 4 rfl hinX6 tyX6 tyX6_ok nmX6 (by decide) (List.mem_of_getElem? (i := 2) rfl) rfl rfl (tyX6_ok 4 (by decide)) rfl rfl (Nat.le_of_ble_eq_true rfl) rfl ?_
    exact g_vret C0 R1 dX6_follow_155 (f10, t_slip_5, t_shear_6, t_ahead_7) rfl hw [0, 1, 2, 3, 4, 5, 6, 7] (by decide) rfl (by decide) (by decide)
  · replace hw := hw.2 c9
    refine g_aload_n C0 dX6_follow_22 0 rfl ?_
    refine g_get C0 dX6_follow_23 0 rfl 0 rfl rfl hinX6 (by decide) (List.mem_of_getElem? (i := 3) rfl) rfl ?_
    refine g_iload C0 dX6_follow_26 5 rfl ?_
    refine g_lload_n C0 dX6_follow_28 3 rfl ?_
    obtain ⟨h11, hw⟩ := hw
    refine g_last C0 (ws2 := [ob 6 q_t [.ref q_t_slip, .ref q_t_shear, .ref q_t_ahead, .long t_lower, .long t_way_4, .long t_firstSlip], aJ E.J q_t_slip 5 (vp_updL t_slip_5 (Int32.toNatClampNeg x7_3) x3_1), ob 5 q_a0 [.ref q_a0_glue, .ref q_a0_upper, .ref q_a0_under, .ref q_a0_work, .ref q_a0_wear, .ref q_a0_cells, .int a0_spots, .int a0_cure], aI E.I q_a0_glue 5 a0_glue, aJ E.J q_t_shear 5 t_shear_6, aJ E.J q_t_ahead 5 t_ahead_7, aI E.I q_a0_upper 5 a0_upper, aI E.I q_a0_under 5 a0_under]) dX6_follow_29 1 rfl h11 rfl ?_
    refine g_aload_n C0 dX6_follow_30 0 rfl ?_
    refine g_get C0 dX6_follow_31 0 rfl 1 rfl rfl hinX6 (by decide) (List.mem_of_getElem? (i := 4) rfl) rfl ?_
    refine g_iload C0 dX6_follow_34 5 rfl ?_
    refine g_iload C0 dX6_follow_36 5 rfl ?_
    refine g_iload_n C0 dX6_follow_38 2 rfl ?_
    refine wj1_go (P := fun (w12 : Int64) => G X E 8 [ob 6 q_t [.ref q_t_slip, .ref q_t_shear, .ref q_t_ahead, .long t_lower, .long t_way_4, .long t_firstSlip], aJ E.J q_t_slip 5 (vp_updL t_slip_5 (Int32.toNatClampNeg x7_3) x3_1), ob 5 q_a0 [.ref q_a0_glue, .ref q_a0_upper, .ref q_a0_under, .ref q_a0_work, .ref q_a0_wear, .ref q_a0_cells, .int a0_spots, .int a0_cure], aI E.I q_a0_glue 5 a0_glue, aJ E.J q_t_shear 5 t_shear_6, aJ E.J q_t_ahead 5 t_ahead_7, aI E.I q_a0_upper 5 a0_upper, aI E.I q_a0_under 5 a0_under] 0 0 56 [(0, .ref q_t), (1, .ref q_a0), (2, .int p1), (3, .long x3_1), (5, .long x5_2), (7, .int x7_3)] [.long w12, .int x7_3, .ref q_t_shear]) hw (fun w12 hw => ?_) (fun J13 hJ13 hw => ?_)
    · obtain ⟨h14, hw⟩ := hw
      refine g_last C0 (ws2 := [ob 6 q_t [.ref q_t_slip, .ref q_t_shear, .ref q_t_ahead, .long t_lower, .long t_way_4, .long t_firstSlip], aJ E.J q_t_slip 5 (vp_updL t_slip_5 (Int32.toNatClampNeg x7_3) x3_1), ob 5 q_a0 [.ref q_a0_glue, .ref q_a0_upper, .ref q_a0_under, .ref q_a0_work, .ref q_a0_wear, .ref q_a0_cells, .int a0_spots, .int a0_cure], aI E.I q_a0_glue 5 a0_glue, aJ E.J q_t_shear 5 (vp_updL t_shear_6 (Int32.toNatClampNeg x7_3) w12), aJ E.J q_t_ahead 5 t_ahead_7, aI E.I q_a0_upper 5 a0_upper, aI E.I q_a0_under 5 a0_under]) dX6_follow_56 4 rfl h14 rfl ?_
      refine g_lload C0 dX6_follow_57 4 rfl ?_
      refine g_aload_n C0 dX6_follow_59 0 rfl ?_
      refine g_get C0 dX6_follow_60 0 rfl 1 rfl rfl hinX6 (by decide) (List.mem_of_getElem? (i := 4) rfl) rfl ?_
      refine g_iload C0 dX6_follow_63 5 rfl ?_
      obtain ⟨h15, hw⟩ := hw
      refine g_lald C0 dX6_follow_65 4 rfl h15 ?_
      refine g_ladd C0 dX6_follow_66 ?_
      refine g_topl (fun x5_16 ex5_16 => ?_)
      replace hw := hw x5_16 ex5_16
      refine g_lstore C0 (lv2 := [(5, .long x5_16), (0, .ref q_t), (1, .ref q_a0), (2, .int p1), (3, .long x3_1), (7, .int x7_3)]) dX6_follow_67 (by decide) rfl ?_
      refine g_aload_n C0 dX6_follow_69 1 rfl ?_
      refine g_get C0 dX6_follow_70 0 rfl 2 rfl rfl hinX6 (by decide) (List.mem_of_getElem? (i := 6) rfl) rfl ?_
      refine g_iload C0 dX6_follow_73 5 rfl ?_
      refine g_aload_n C0 dX6_follow_75 1 rfl ?_
      refine g_get C0 dX6_follow_76 0 rfl 3 rfl rfl hinX6 (by decide) (List.mem_of_getElem? (i := 7) rfl) rfl ?_
      refine g_lload C0 dX6_follow_79 0 rfl ?_
      refine g_lsub C0 dX6_follow_81 ?_
      refine g_topl (fun f17 ef17 => ?_)
      replace hw := hw f17 ef17
      obtain ⟨h18, hw⟩ := hw
      refine g_last C0 (ws2 := [ob 6 q_t [.ref q_t_slip, .ref q_t_shear, .ref q_t_ahead, .long t_lower, .long t_way_4, .long t_firstSlip], aJ E.J q_t_slip 5 (vp_updL t_slip_5 (Int32.toNatClampNeg x7_3) x3_1), ob 5 q_a0 [.ref q_a0_glue, .ref q_a0_upper, .ref q_a0_under, .ref q_a0_work, .ref q_a0_wear, .ref q_a0_cells, .int a0_spots, .int a0_cure], aI E.I q_a0_glue 5 a0_glue, aJ E.J q_t_shear 5 (vp_updL t_shear_6 (Int32.toNatClampNeg x7_3) w12), aJ E.J q_t_ahead 5 (vp_updL t_ahead_7 (Int32.toNatClampNeg x7_3) f17), aI E.I q_a0_upper 5 a0_upper, aI E.I q_a0_under 5 a0_under]) dX6_follow_82 5 rfl h18 rfl ?_
      refine g_aload_n C0 dX6_follow_83 1 rfl ?_
      refine g_dup C0 dX6_follow_84 rfl ?_
      refine g_get C0 dX6_follow_85 0 rfl 4 rfl rfl hinX6 (by decide) (List.mem_of_getElem? (i := 2) rfl) rfl ?_
      refine g_aload_n C0 dX6_follow_88 2 rfl ?_
      refine g_get C0 dX6_follow_89 2 rfl 1 rfl rfl hinX5 (by decide) (List.mem_of_getElem? (i := 8) rfl) rfl ?_
      refine g_iload C0 dX6_follow_92 5 rfl ?_
      obtain ⟨h19, hw⟩ := hw
      refine g_iald C0 (cA := E.I) dX6_follow_94 6 rfl h19 ?_
      refine g_i2l C0 dX6_follow_95 ?_
      refine g_aload_n C0 dX6_follow_96 1 rfl ?_
      refine g_get C0 dX6_follow_97 0 rfl 2 rfl rfl hinX6 (by decide) (List.mem_of_getElem? (i := 6) rfl) rfl ?_
      refine g_iload C0 dX6_follow_100 5 rfl ?_
      obtain ⟨h20, hw⟩ := hw
      refine g_lald C0 dX6_follow_102 5 rfl h20 ?_
      refine g_lmul C0 dX6_follow_103 ?_
      refine g_ladd C0 dX6_follow_104 ?_
      refine g_topl (fun f21 ef21 => ?_)
      replace hw := hw f21 ef21
      refine g_put C0 (ws2 := [ob 6 q_t [.ref q_t_slip, .ref q_t_shear, .ref q_t_ahead, .long t_lower, .long f21, .long t_firstSlip], aJ E.J q_t_slip 5 (vp_updL t_slip_5 (Int32.toNatClampNeg x7_3) x3_1), ob 5 q_a0 [.ref q_a0_glue, .ref q_a0_upper, .ref q_a0_under, .ref q_a0_work, .ref q_a0_wear, .ref q_a0_cells, .int a0_spots, .int a0_cure], aI E.I q_a0_glue 5 a0_glue, aJ E.J q_t_shear 5 (vp_updL t_shear_6 (Int32.toNatClampNeg x7_3) w12), aJ E.J q_t_ahead 5 (vp_updL t_ahead_7 (Int32.toNatClampNeg x7_3) f17), aI E.I q_a0_upper 5 a0_upper, aI E.I q_a0_under 5 a0_under]) dX6_follow_105 0 rfl 4 rfl hinX6 tyX6 tyX6_ok nmX6 (by decide) (List.mem_of_getElem? (i := 2) rfl) rfl rfl (tyX6_ok 4 (by decide)) rfl rfl (Nat.le_of_ble_eq_true rfl) rfl ?_
      refine g_lload_n C0 dX6_follow_108 4 rfl ?_
      refine g_aload_n C0 dX6_follow_109 2 rfl ?_
      refine g_get C0 dX6_follow_110 2 rfl 2 rfl rfl hinX5 (by decide) (List.mem_of_getElem? (i := 9) rfl) rfl ?_
      refine g_iload C0 dX6_follow_113 5 rfl ?_
      obtain ⟨h22, hw⟩ := hw
      refine g_iald C0 (cA := E.I) dX6_follow_115 7 rfl h22 ?_
      refine g_i2l C0 dX6_follow_116 ?_
      refine g_lload C0 dX6_follow_117 0 rfl ?_
      refine g_lmul C0 dX6_follow_119 ?_
      refine g_aload_n C0 dX6_follow_120 2 rfl ?_
      refine g_get C0 dX6_follow_121 2 rfl 1 rfl rfl hinX5 (by decide) (List.mem_of_getElem? (i := 8) rfl) rfl ?_
      refine g_iload C0 dX6_follow_124 5 rfl ?_
      obtain ⟨h23, hw⟩ := hw
      refine g_iald C0 (cA := E.I) dX6_follow_126 6 rfl h23 ?_
      refine g_i2l C0 dX6_follow_127 ?_
      refine g_aload_n C0 dX6_follow_128 1 rfl ?_
      refine g_get C0 dX6_follow_129 0 rfl 2 rfl rfl hinX6 (by decide) (List.mem_of_getElem? (i := 6) rfl) rfl ?_
      refine g_iload C0 dX6_follow_132 5 rfl ?_
      obtain ⟨h24, hw⟩ := hw
      refine g_lald C0 dX6_follow_134 5 rfl h24 ?_
      refine g_lmul C0 dX6_follow_135 ?_
      refine g_lsub C0 dX6_follow_136 ?_
      refine g_ladd C0 dX6_follow_137 ?_
      refine g_topl (fun x3_25 ex3_25 => ?_)
      replace hw := hw x3_25 ex3_25
      refine g_lstore_n C0 (lv2 := [(3, .long x3_25), (5, .long x5_16), (0, .ref q_t), (1, .ref q_a0), (2, .int p1), (7, .int x7_3)]) dX6_follow_138 (by decide) rfl ?_
      obtain ⟨x7_26, ex7_26⟩ : ∃ y : Int32, y = x7_3 + 1 := ⟨_, rfl⟩
      replace hw := hw x7_26 ex7_26
      refine g_iinc C0 (v := x7_26) (lv2 := [(7, .int x7_26), (3, .long x3_25), (5, .long x5_16), (0, .ref q_t), (1, .ref q_a0), (2, .int p1)]) dX6_follow_139 5 rfl (by rw [ex7_26]; rfl) (by decide) rfl ?_
      refine g_goto C0 (tgt := 16) dX6_follow_142 (by decide) ?_
      refine g_lv [3, 4, 5, 1, 2, 0] (lv2 := [(0, .ref q_t), (1, .ref q_a0), (2, .int p1), (3, .long x3_25), (5, .long x5_16), (7, .int x7_26)]) rfl ?_
      exact hK8 _ _ _ _ _ _ _ hw
    · refine g_icmp_ne C0 (tgt := 46) dX6_follow_39 (by decide) (fun c27 => ?_) (fun c27 => ?_)
      · replace hw := hw.1 c27
        refine g_aload_n C0 dX6_follow_46 1 rfl ?_
        refine g_get C0 dX6_follow_47 2 rfl 0 rfl rfl hinX5 (by decide) (List.mem_of_getElem? (i := 5) rfl) rfl ?_
        refine g_iload C0 dX6_follow_50 5 rfl ?_
        obtain ⟨h28, hw⟩ := hw
        refine g_iald C0 (cA := E.I) dX6_follow_52 3 rfl h28 ?_
        refine g_i2l C0 dX6_follow_53 ?_
        refine g_lload_n C0 dX6_follow_54 3 rfl ?_
        refine g_lmul C0 dX6_follow_55 ?_
        exact hJ13 _ hw
      · replace hw := hw.2 c27
        refine g_lconst C0 (v := 0) dX6_follow_42 (by decide) ?_
        refine g_goto C0 (tgt := 56) dX6_follow_43 (by decide) ?_
        exact hJ13 _ hw
def w_X6_reckon (p1 : Int32) (t_way : Int64) (a0_glue : Nat → Int32) (a0_upper : Nat → Int32) (a0_under : Nat → Int32) (t_slip : Nat → Int64) (t_shear : Nat → Int64) (t_ahead : Nat → Int64) (Q : Bool → Int64 → Int64 → Int64 → (Nat → Int64) → (Nat → Int64) → (Nat → Int64) → Prop) : Prop := w_X6_findFirstSlip p1 a0_glue a0_upper a0_under (fun (t_lower_1 : Int64) (t_firstSlip_2 : Int64) => (0 < t_lower_1 → w_X6_follow p1 t_lower_1 t_firstSlip_2 t_slip a0_glue t_shear t_ahead a0_upper a0_under (fun (t_way_4 : Int64) (t_slip_5 : Nat → Int64) (t_shear_6 : Nat → Int64) (t_ahead_7 : Nat → Int64) => Q true t_lower_1 t_firstSlip_2 t_way_4 t_slip_5 t_shear_6 t_ahead_7)) ∧ (¬ 0 < t_lower_1 → Q false t_lower_1 t_firstSlip_2 t_way t_slip t_shear t_ahead))
theorem ddV_X6_reckon : yX6_reckon.cls = RX6 ∧ yX6_reckon.cls ≠ "java/lang/invoke/MethodHandle" ∧ yX6_reckon.cls ≠ "java/lang/invoke/VarHandle" ∧ (parseMethodDescriptor yX6_reckon.desc).map (fun d => d.parameters.length) = some 2 := by decide +kernel
set_option maxHeartbeats 4000000 in
set_option maxRecDepth 100000 in
theorem c_X6_reckon (l : Launch) (E : gE) (q_t q_a0 q_t_slip q_t_shear q_t_ahead q_a0_glue q_a0_upper q_a0_under q_a0_work q_a0_wear q_a0_cells : Nat) (p1 : Int32) (t_lower : Int64) (t_way : Int64) (t_firstSlip : Int64) (a0_spots : Int32) (a0_cure : Int32) (a0_glue : Nat → Int32) (a0_upper : Nat → Int32) (a0_under : Nat → Int32) (t_slip : Nat → Int64) (t_shear : Nat → Int64) (t_ahead : Nat → Int64) (Q : Bool → Int64 → Int64 → Int64 → (Nat → Int64) → (Nat → Int64) → (Nat → Int64) → Prop) (hw : w_X6_reckon p1 t_way a0_glue a0_upper a0_under t_slip t_shear t_ahead Q) : Ct l E yX6_reckon wsX6_reckon { frames := 1, cells := 0, slots := 0, locals := 35 } [.ref q_t, .ref q_a0, .int p1] [ob 6 q_t [.ref q_t_slip, .ref q_t_shear, .ref q_t_ahead, .long t_lower, .long t_way, .long t_firstSlip], ob 5 q_a0 [.ref q_a0_glue, .ref q_a0_upper, .ref q_a0_under, .ref q_a0_work, .ref q_a0_wear, .ref q_a0_cells, .int a0_spots, .int a0_cure], aI E.I q_a0_glue 5 a0_glue, aI E.I q_a0_upper 5 a0_upper, aI E.I q_a0_under 5 a0_under, aJ E.J q_t_slip 5 t_slip, aJ E.J q_t_shear 5 t_shear, aJ E.J q_t_ahead 5 t_ahead] (S := Bool × Int64 × Int64 × Int64 × (Nat → Int64) × (Nat → Int64) × (Nat → Int64)) (fun u => some (.int (bI u.1))) (fun u => Q u.1 u.2.1 u.2.2.1 u.2.2.2.1 u.2.2.2.2.1 u.2.2.2.2.2.1 u.2.2.2.2.2.2) (fun u => [ob 6 q_t [.ref q_t_slip, .ref q_t_shear, .ref q_t_ahead, .long u.2.1, .long u.2.2.2.1, .long u.2.2.1], ob 5 q_a0 [.ref q_a0_glue, .ref q_a0_upper, .ref q_a0_under, .ref q_a0_work, .ref q_a0_wear, .ref q_a0_cells, .int a0_spots, .int a0_cure], aI E.I q_a0_glue 5 a0_glue, aI E.I q_a0_upper 5 a0_upper, aI E.I q_a0_under 5 a0_under, aJ E.J q_t_slip 5 u.2.2.2.2.1, aJ E.J q_t_shear 5 u.2.2.2.2.2.1, aJ E.J q_t_ahead 5 u.2.2.2.2.2.2]) := by
  unfold w_X6_reckon at hw
  have hinX6 : ∀ w ∈ wsX60, w ∈ wsX6_reckon := fun _ h => List.mem_cons_of_mem _ (List.mem_append_left _ (List.mem_append_right _ h))
  refine g_start (cc := cX6_reckon) (nL := 3) (own := RX6) (ret := (some .boolean)) rfl (by decide) rfl (Nat.le_of_ble_eq_true rfl) (lv0 := [(0, .ref q_t), (1, .ref q_a0), (2, .int p1)]) rfl (fun X C0 R1 => ?_)
  refine g_aload_n C0 dX6_reckon_0 0 rfl ?_
  refine g_aload_n C0 dX6_reckon_1 1 rfl ?_
  refine g_iload_n C0 dX6_reckon_2 2 rfl ?_
  refine g_callV C0 (q0 := 0) (ci := 6) (c_X6_findFirstSlip l E q_t q_a0 q_t_slip q_t_shear q_t_ahead q_a0_glue q_a0_upper q_a0_under q_a0_work q_a0_wear q_a0_cells p1 t_lower t_way t_firstSlip a0_spots a0_cure a0_glue a0_upper a0_under _ hw) dX6_reckon_3 gX6_reckon_X6_findFirstSlip rfl ddV_X6_findFirstSlip rfl (by decide) (by decide) rfl (Nat.le_of_ble_eq_true rfl) [0, 1, 2, 3, 4] [5, 6, 7] rfl (wr := [aJ E.J q_t_slip 5 t_slip, aJ E.J q_t_shear 5 t_shear, aJ E.J q_t_ahead 5 t_ahead]) rfl (by decide) (by decide) (by decide) rfl rfl (fun u hw => ?_)
  obtain ⟨t_lower_1, t_firstSlip_2⟩ := u
  try dsimp only at hw
  show G X E 3 [aJ E.J q_t_slip 5 t_slip, aJ E.J q_t_shear 5 t_shear, aJ E.J q_t_ahead 5 t_ahead, ob 6 q_t [.ref q_t_slip, .ref q_t_shear, .ref q_t_ahead, .long t_lower_1, .long t_way, .long t_firstSlip_2], ob 5 q_a0 [.ref q_a0_glue, .ref q_a0_upper, .ref q_a0_under, .ref q_a0_work, .ref q_a0_wear, .ref q_a0_cells, .int a0_spots, .int a0_cure], aI E.I q_a0_glue 5 a0_glue, aI E.I q_a0_upper 5 a0_upper, aI E.I q_a0_under 5 a0_under] 0 0 6 [(0, .ref q_t), (1, .ref q_a0), (2, .int p1)] []
  refine g_aload_n C0 dX6_reckon_6 0 rfl ?_
  refine g_get C0 dX6_reckon_7 3 rfl 3 rfl rfl hinX6 (by decide) (List.mem_of_getElem? (i := 1) rfl) rfl ?_
  refine g_lconst C0 (v := 0) dX6_reckon_10 (by decide) ?_
  refine g_lcmp_gt C0 (tgt := 17) dX6_reckon_11 dX6_reckon_12 (by decide) (fun c3 => ?_) (fun c3 => ?_)
  · replace hw := hw.1 c3
    refine g_aload_n C0 dX6_reckon_17 0 rfl ?_
    refine g_aload_n C0 dX6_reckon_18 1 rfl ?_
    refine g_iload_n C0 dX6_reckon_19 2 rfl ?_
    refine g_callV C0 (q0 := 3) (ci := 6) (c_X6_follow l E q_t q_a0 q_t_slip q_t_shear q_t_ahead q_a0_glue q_a0_upper q_a0_under q_a0_work q_a0_wear q_a0_cells p1 t_lower_1 t_way t_firstSlip_2 t_slip a0_spots a0_cure a0_glue t_shear t_ahead a0_upper a0_under _ hw) dX6_reckon_20 gX6_reckon_X6_follow rfl ddV_X6_follow rfl (by decide) (by decide) rfl (Nat.le_of_ble_eq_true rfl) [3, 0, 4, 5, 1, 2, 6, 7] [] rfl (wr := []) rfl (by decide) (by decide) (by decide) rfl rfl (fun u hw => ?_)
    obtain ⟨t_way_4, t_slip_5, t_shear_6, t_ahead_7⟩ := u
    try dsimp only at hw
    show G X E 3 [ob 6 q_t [.ref q_t_slip, .ref q_t_shear, .ref q_t_ahead, .long t_lower_1, .long t_way_4, .long t_firstSlip_2], aJ E.J q_t_slip 5 t_slip_5, ob 5 q_a0 [.ref q_a0_glue, .ref q_a0_upper, .ref q_a0_under, .ref q_a0_work, .ref q_a0_wear, .ref q_a0_cells, .int a0_spots, .int a0_cure], aI E.I q_a0_glue 5 a0_glue, aJ E.J q_t_shear 5 t_shear_6, aJ E.J q_t_ahead 5 t_ahead_7, aI E.I q_a0_upper 5 a0_upper, aI E.I q_a0_under 5 a0_under] 0 0 23 [(0, .ref q_t), (1, .ref q_a0), (2, .int p1)] []
    refine g_iconst C0 (v := 1) dX6_reckon_23 (by decide) ?_
    exact g_zret C0 R1 (b := true) dX6_reckon_24 (true, t_lower_1, t_firstSlip_2, t_way_4, t_slip_5, t_shear_6, t_ahead_7) rfl hw [0, 2, 3, 6, 7, 1, 4, 5] (by decide) rfl (by decide) (by decide)
  · replace hw := hw.2 c3
    refine g_iconst C0 (v := 0) dX6_reckon_15 (by decide) ?_
    exact g_zret C0 R1 (b := false) dX6_reckon_16 (false, t_lower_1, t_firstSlip_2, t_way, t_slip, t_shear, t_ahead) rfl hw [3, 4, 5, 6, 7, 0, 1, 2] (by decide) rfl (by decide) (by decide)
