def w_X2_commonDivisor (p0 : Int64) (p1 : Int64) (Q : Int64 → Prop) : Prop := ∃ n10 : Nat, wL3 (fun (K4 : Int64 → Int64 → Int32 → Prop) (x4_1 : Int64) (x6_2 : Int64) (x8_3 : Int32) => (200 ≤ x8_3 → Q x4_1) ∧ (¬ 200 ≤ x8_3 → (x6_2 = 0 → Q x4_1) ∧ (¬ x6_2 = 0 → ¬ x6_2 = 0 ∧ (∀ x9_8 : Int64, x9_8 = (x4_1 - x4_1 / x6_2 * x6_2) → (∀ x8_9 : Int32, x8_9 = (x8_3 + 1) → (K4 x6_2 x9_8 x8_9)))))) n10 p0 p1 0
theorem ddS_X2_commonDivisor : yX2_commonDivisor.cls ≠ "java/lang/invoke/MethodHandle" ∧ yX2_commonDivisor.cls ≠ "java/lang/invoke/VarHandle" ∧ (parseMethodDescriptor yX2_commonDivisor.desc).map (fun d => d.parameters.length) = some 2 := by decide +kernel
set_option maxHeartbeats 4000000 in
set_option maxRecDepth 100000 in
theorem c_X2_commonDivisor (l : Launch) (E : gE) (p0 : Int64) (p1 : Int64) (Q : Int64 → Prop) (hw : w_X2_commonDivisor p0 p1 Q) : Ct l E yX2_commonDivisor wsX2_commonDivisor { frames := 0, cells := 0, slots := 0, locals := 0 } [.long p0, .long p1] [] (S := Int64) (fun u => some (.long u)) (fun u => Q u) (fun u => []) := by
  unfold w_X2_commonDivisor at hw
  refine g_start (cc := cX2_commonDivisor) (nL := 11) (own := RX2) (ret := (some .long)) rfl (by decide) rfl (Nat.le_of_ble_eq_true rfl) (lv0 := [(0, .long p0), (2, .long p1)]) rfl (fun X C0 R1 => ?_)
  refine g_lload_n C0 dX2_commonDivisor_0 0 rfl ?_
  refine g_lstore C0 (lv2 := [(4, .long p0), (0, .long p0), (2, .long p1)]) dX2_commonDivisor_1 (by decide) rfl ?_
  refine g_lload_n C0 dX2_commonDivisor_3 2 rfl ?_
  refine g_lstore C0 (lv2 := [(6, .long p1), (4, .long p0), (0, .long p0), (2, .long p1)]) dX2_commonDivisor_4 (by decide) rfl ?_
  refine g_iconst C0 (v := 0) dX2_commonDivisor_6 (by decide) ?_
  refine g_istore C0 (lv2 := [(8, .int 0), (6, .long p1), (4, .long p0), (0, .long p0), (2, .long p1)]) dX2_commonDivisor_7 (by decide) rfl ?_
  refine g_lv [2, 1, 0] (lv2 := [(4, .long p0), (6, .long p1), (8, .int 0)]) rfl ?_
  obtain ⟨n10, hw⟩ := hw
  refine wL3_go (P := fun (x4_1 : Int64) (x6_2 : Int64) (x8_3 : Int32) => G X E 11 [] 0 0 9 [(4, .long x4_1), (6, .long x6_2), (8, .int x8_3)] []) (fun K4 hK4 x4_1 x6_2 x8_3 hw => ?_) n10 _ _ _ hw
  refine g_iload C0 dX2_commonDivisor_9 2 rfl ?_
  refine g_sipush C0 (v := 200) dX2_commonDivisor_11 (by decide) ?_
  refine g_icmp_ge C0 (tgt := 45) dX2_commonDivisor_14 (by decide) (fun c5 => ?_) (fun c5 => ?_)
  · replace hw := hw.1 c5
    refine g_lload C0 dX2_commonDivisor_45 0 rfl ?_
    exact g_lret C0 R1 dX2_commonDivisor_47 x4_1 rfl hw [] (by decide) rfl (by decide) (by decide)
  · replace hw := hw.2 c5
    refine g_lload C0 dX2_commonDivisor_17 1 rfl ?_
    refine g_lconst C0 (v := 0) dX2_commonDivisor_19 (by decide) ?_
    refine g_lcmp_eq C0 (tgt := 45) dX2_commonDivisor_20 dX2_commonDivisor_21 (by decide) (fun c6 => ?_) (fun c6 => ?_)
    · replace hw := hw.1 c6
      refine g_lload C0 dX2_commonDivisor_45 0 rfl ?_
      exact g_lret C0 R1 dX2_commonDivisor_47 x4_1 rfl hw [] (by decide) rfl (by decide) (by decide)
    · replace hw := hw.2 c6
      refine g_lload C0 dX2_commonDivisor_24 0 rfl ?_
      refine g_lload C0 dX2_commonDivisor_26 1 rfl ?_
      obtain ⟨h7, hw⟩ := hw
      refine g_lrem C0 dX2_commonDivisor_28 h7 ?_
      refine g_topl (fun x9_8 ex9_8 => ?_)
      replace hw := hw x9_8 ex9_8
      refine g_lstore C0 (lv2 := [(9, .long x9_8), (4, .long x4_1), (6, .long x6_2), (8, .int x8_3)]) dX2_commonDivisor_29 (by decide) rfl ?_
      refine g_lload C0 dX2_commonDivisor_31 2 rfl ?_
      refine g_lstore C0 (lv2 := [(4, .long x6_2), (9, .long x9_8), (6, .long x6_2), (8, .int x8_3)]) dX2_commonDivisor_33 (by decide) rfl ?_
      refine g_lload C0 dX2_commonDivisor_35 1 rfl ?_
      refine g_lstore C0 (lv2 := [(6, .long x9_8), (4, .long x6_2), (9, .long x9_8), (8, .int x8_3)]) dX2_commonDivisor_37 (by decide) rfl ?_
      obtain ⟨x8_9, ex8_9⟩ : ∃ y : Int32, y = x8_3 + 1 := ⟨_, rfl⟩
      replace hw := hw x8_9 ex8_9
      refine g_iinc C0 (v := x8_9) (lv2 := [(8, .int x8_9), (6, .long x9_8), (4, .long x6_2), (9, .long x9_8)]) dX2_commonDivisor_39 3 rfl (by rw [ex8_9]; rfl) (by decide) rfl ?_
      refine g_goto C0 (tgt := 9) dX2_commonDivisor_42 (by decide) ?_
      refine g_lv [2, 1, 0] (lv2 := [(4, .long x6_2), (6, .long x9_8), (8, .int x8_9)]) rfl ?_
      exact hK4 _ _ _ hw
def w_X2_reduce (p0 : Int64) (p1 : Int64) (t_upper : Int64) (t_lower : Int64) (Q : Int64 → Int64 → Prop) : Prop := w_X2_commonDivisor (if 0 < p0 then p0 else -p0) p1 (fun (r1 : Int64) => (r1 ≤ 0 → Q t_upper t_lower) ∧ (¬ r1 ≤ 0 → ¬ r1 = 0 ∧ (∀ f4 : Int64, f4 = (p0 / r1) → (¬ r1 = 0 ∧ (∀ f6 : Int64, f6 = (p1 / r1) → (Q f4 f6))))))
theorem ddV_X2_reduce : yX2_reduce.cls = RX2 ∧ yX2_reduce.cls ≠ "java/lang/invoke/MethodHandle" ∧ yX2_reduce.cls ≠ "java/lang/invoke/VarHandle" ∧ (parseMethodDescriptor yX2_reduce.desc).map (fun d => d.parameters.length) = some 2 := by decide +kernel
set_option maxHeartbeats 4000000 in
set_option maxRecDepth 100000 in
theorem c_X2_reduce (l : Launch) (E : gE) (q_t : Nat) (p0 : Int64) (p1 : Int64) (t_upper : Int64) (t_lower : Int64) (Q : Int64 → Int64 → Prop) (hw : w_X2_reduce p0 p1 t_upper t_lower Q) : Ct l E yX2_reduce wsX2_reduce { frames := 1, cells := 0, slots := 0, locals := 30 } [.ref q_t, .long p0, .long p1] [ob 2 q_t [.long t_upper, .long t_lower]] (S := Int64 × Int64) (fun _ => none) (fun u => Q u.1 u.2) (fun u => [ob 2 q_t [.long u.1, .long u.2]]) := by
  unfold w_X2_reduce at hw
  have hinX2 : ∀ w ∈ wsX20, w ∈ wsX2_reduce := fun _ h => List.mem_cons_of_mem _ (List.mem_append_right _ h)
  refine g_start (cc := cX2_reduce) (nL := 7) (own := RX2) (ret := none) rfl (by decide) rfl (Nat.le_of_ble_eq_true rfl) (lv0 := [(0, .ref q_t), (1, .long p0), (3, .long p1)]) rfl (fun X C0 R1 => ?_)
  refine g_lload_n C0 dX2_reduce_0 1 rfl ?_
  refine g_mabsl C0 dX2_reduce_1 (List.mem_of_getElem? (i := 1) rfl) (List.mem_of_getElem? (i := 2) rfl) (List.mem_of_getElem? (i := 3) rfl) (List.mem_of_getElem? (i := 4) rfl) (by decide) (Nat.le_of_ble_eq_true rfl) (by decide) (by decide) ?_
  refine g_lload_n C0 dX2_reduce_4 2 rfl ?_
  refine g_callS C0 (c_X2_commonDivisor l E (if 0 < p0 then p0 else -p0) p1 _ hw) dX2_reduce_5 gX2_reduce_X2_commonDivisor rfl ddS_X2_commonDivisor rfl (by decide) (by decide) rfl (Nat.le_of_ble_eq_true rfl) [] [0] rfl (wr := [ob 2 q_t [.long t_upper, .long t_lower]]) rfl (by decide) (by decide) (by decide) (fun u hw => ?_)
  obtain ⟨r1, hu_⟩ : ∃ z, z = u := ⟨_, rfl⟩
  subst hu_
  try dsimp only at hw
  show G X E 7 [ob 2 q_t [.long t_upper, .long t_lower]] 0 0 8 [(0, .ref q_t), (1, .long p0), (3, .long p1)] [.long r1]
  refine g_lstore C0 (lv2 := [(5, .long r1), (0, .ref q_t), (1, .long p0), (3, .long p1)]) dX2_reduce_8 (by decide) rfl ?_
  refine g_lload C0 dX2_reduce_10 0 rfl ?_
  refine g_lconst C0 (v := 0) dX2_reduce_12 (by decide) ?_
  refine g_lcmp_le C0 (tgt := 33) dX2_reduce_13 dX2_reduce_14 (by decide) (fun c2 => ?_) (fun c2 => ?_)
  · replace hw := hw.1 c2
    exact g_vret C0 R1 dX2_reduce_33 (t_upper, t_lower) rfl hw [0] (by decide) rfl (by decide) (by decide)
  · replace hw := hw.2 c2
    refine g_aload_n C0 dX2_reduce_17 1 rfl ?_
    refine g_lload_n C0 dX2_reduce_18 2 rfl ?_
    refine g_lload C0 dX2_reduce_19 0 rfl ?_
    obtain ⟨h3, hw⟩ := hw
    refine g_ldiv C0 dX2_reduce_21 h3 ?_
    refine g_topl (fun f4 ef4 => ?_)
    replace hw := hw f4 ef4
    refine g_put C0 (ws2 := [ob 2 q_t [.long f4, .long t_lower]]) dX2_reduce_22 0 rfl 0 rfl hinX2 tyX2 tyX2_ok nmX2 (by decide) (List.mem_of_getElem? (i := 5) rfl) rfl rfl (tyX2_ok 0 (by decide)) rfl rfl (Nat.le_of_ble_eq_true rfl) rfl ?_
    refine g_aload_n C0 dX2_reduce_25 1 rfl ?_
    refine g_lload_n C0 dX2_reduce_26 3 rfl ?_
    refine g_lload C0 dX2_reduce_27 0 rfl ?_
    obtain ⟨h5, hw⟩ := hw
    refine g_ldiv C0 dX2_reduce_29 h5 ?_
    refine g_topl (fun f6 ef6 => ?_)
    replace hw := hw f6 ef6
    refine g_put C0 (ws2 := [ob 2 q_t [.long f4, .long f6]]) dX2_reduce_30 0 rfl 1 rfl hinX2 tyX2 tyX2_ok nmX2 (by decide) (List.mem_of_getElem? (i := 6) rfl) rfl rfl (tyX2_ok 1 (by decide)) rfl rfl (Nat.le_of_ble_eq_true rfl) rfl ?_
    exact g_vret C0 R1 dX2_reduce_33 (f4, f6) rfl hw [0] (by decide) rfl (by decide) (by decide)
def w_X2_number (p0 : Int32) (t_upper : Int64) (t_lower : Int64) (Q : Int64 → Prop) : Prop := (¬ p0 = 0 → Q t_lower) ∧ (p0 = 0 → Q t_upper)
theorem ddV_X2_number : yX2_number.cls = RX2 ∧ yX2_number.cls ≠ "java/lang/invoke/MethodHandle" ∧ yX2_number.cls ≠ "java/lang/invoke/VarHandle" ∧ (parseMethodDescriptor yX2_number.desc).map (fun d => d.parameters.length) = some 1 := by decide +kernel
set_option maxHeartbeats 4000000 in
set_option maxRecDepth 100000 in
theorem c_X2_number (l : Launch) (E : gE) (q_t : Nat) (p0 : Int32) (t_upper : Int64) (t_lower : Int64) (Q : Int64 → Prop) (hw : w_X2_number p0 t_upper t_lower Q) : Ct l E yX2_number wsX2_number { frames := 0, cells := 0, slots := 0, locals := 0 } [.ref q_t, .int p0] [ob 2 q_t [.long t_upper, .long t_lower]] (S := Int64) (fun u => some (.long u)) (fun u => Q u) (fun u => [ob 2 q_t [.long t_upper, .long t_lower]]) := by
  unfold w_X2_number at hw
  have hinX2 : ∀ w ∈ wsX20, w ∈ wsX2_number := fun _ h => List.mem_cons_of_mem _ (List.mem_append_right _ h)
  refine g_start (cc := cX2_number) (nL := 2) (own := RX2) (ret := (some .long)) rfl (by decide) rfl (Nat.le_of_ble_eq_true rfl) (lv0 := [(0, .ref q_t), (1, .int p0)]) rfl (fun X C0 R1 => ?_)
  refine g_iload_n C0 dX2_number_0 1 rfl ?_
  refine g_if_ne C0 (tgt := 11) dX2_number_1 (by decide) (fun c1 => ?_) (fun c1 => ?_)
  · replace hw := hw.1 c1
    refine g_aload_n C0 dX2_number_11 0 rfl ?_
    refine g_get C0 dX2_number_12 0 rfl 1 rfl rfl hinX2 (by decide) (List.mem_of_getElem? (i := 2) rfl) rfl ?_
    exact g_lret C0 R1 dX2_number_15 t_lower rfl hw [0] (by decide) rfl (by decide) (by decide)
  · replace hw := hw.2 c1
    refine g_aload_n C0 dX2_number_4 0 rfl ?_
    refine g_get C0 dX2_number_5 0 rfl 0 rfl rfl hinX2 (by decide) (List.mem_of_getElem? (i := 1) rfl) rfl ?_
    refine g_goto C0 (tgt := 15) dX2_number_8 (by decide) ?_
    exact g_lret C0 R1 dX2_number_15 t_upper rfl hw [0] (by decide) rfl (by decide) (by decide)
