def w_X9_within (p0 : Int32) (p1 : Int32) (p2 : Int32) (Q : Bool → Prop) : Prop := (p0 < p1 → Q false) ∧ (¬ p0 < p1 → (p2 < p0 → Q false) ∧ (¬ p2 < p0 → Q true))
theorem ddS_X9_within : yX9_within.cls ≠ "java/lang/invoke/MethodHandle" ∧ yX9_within.cls ≠ "java/lang/invoke/VarHandle" ∧ (parseMethodDescriptor yX9_within.desc).map (fun d => d.parameters.length) = some 3 := by decide +kernel
set_option maxHeartbeats 4000000 in
set_option maxRecDepth 100000 in
theorem c_X9_within (l : Launch) (E : gE) (p0 : Int32) (p1 : Int32) (p2 : Int32) (Q : Bool → Prop) (hw : w_X9_within p0 p1 p2 Q) : Ct l E yX9_within wsX9_within { frames := 0, cells := 0, slots := 0, locals := 0 } [.int p0, .int p1, .int p2] [] (S := Bool) (fun u => some (.int (bI u))) (fun u => Q u) (fun u => []) := by
  unfold w_X9_within at hw
  refine g_start (cc := cX9_within) (nL := 3) (own := RX9) (ret := (some .boolean)) rfl (by decide) rfl (Nat.le_of_ble_eq_true rfl) (lv0 := [(0, .int p0), (1, .int p1), (2, .int p2)]) rfl (fun X C0 R1 => ?_)
  refine g_iload_n C0 dX9_within_0 0 rfl ?_
  refine g_iload_n C0 dX9_within_1 1 rfl ?_
  refine g_icmp_lt C0 (tgt := 14) dX9_within_2 (by decide) (fun c1 => ?_) (fun c1 => ?_)
  · replace hw := hw.1 c1
    refine g_iconst C0 (v := 0) dX9_within_14 (by decide) ?_
    exact g_zret C0 R1 (b := false) dX9_within_15 false rfl hw [] (by decide) rfl (by decide) (by decide)
  · replace hw := hw.2 c1
    refine g_iload_n C0 dX9_within_5 0 rfl ?_
    refine g_iload_n C0 dX9_within_6 2 rfl ?_
    refine g_icmp_gt C0 (tgt := 14) dX9_within_7 (by decide) (fun c2 => ?_) (fun c2 => ?_)
    · replace hw := hw.1 c2
      refine g_iconst C0 (v := 0) dX9_within_14 (by decide) ?_
      exact g_zret C0 R1 (b := false) dX9_within_15 false rfl hw [] (by decide) rfl (by decide) (by decide)
    · replace hw := hw.2 c2
      refine g_iconst C0 (v := 1) dX9_within_10 (by decide) ?_
      refine g_goto C0 (tgt := 15) dX9_within_11 (by decide) ?_
      exact g_zret C0 R1 (b := true) dX9_within_15 true rfl hw [] (by decide) rfl (by decide) (by decide)
def w_J6_bitCount_0f7a4 (p0 : Int32) (Q : Int32 → Prop) : Prop := ∀ x0_1 : Int32, x0_1 = (p0 - (((Int32.toUInt32 p0 >>> (Int32.toUInt32 1 &&& Int32.toUInt32 31)).toInt32) &&& 1431655765)) → (∀ x0_2 : Int32, x0_2 = ((x0_1 &&& 858993459) + (((Int32.toUInt32 x0_1 >>> (Int32.toUInt32 2 &&& Int32.toUInt32 31)).toInt32) &&& 858993459)) → (∀ x0_3 : Int32, x0_3 = ((x0_2 + ((Int32.toUInt32 x0_2 >>> (Int32.toUInt32 4 &&& Int32.toUInt32 31)).toInt32)) &&& 252645135) → (∀ x0_4 : Int32, x0_4 = (x0_3 + ((Int32.toUInt32 x0_3 >>> (Int32.toUInt32 8 &&& Int32.toUInt32 31)).toInt32)) → (∀ x0_5 : Int32, x0_5 = (x0_4 + ((Int32.toUInt32 x0_4 >>> (Int32.toUInt32 16 &&& Int32.toUInt32 31)).toInt32)) → (Q (x0_5 &&& 63))))))
theorem ddS_J6_bitCount_0f7a4 : yJ6_bitCount_0f7a4.cls ≠ "java/lang/invoke/MethodHandle" ∧ yJ6_bitCount_0f7a4.cls ≠ "java/lang/invoke/VarHandle" ∧ (parseMethodDescriptor yJ6_bitCount_0f7a4.desc).map (fun d => d.parameters.length) = some 1 := by decide +kernel
set_option maxHeartbeats 4000000 in
set_option maxRecDepth 100000 in
theorem c_J6_bitCount_0f7a4 (l : Launch) (E : gE) (p0 : Int32) (Q : Int32 → Prop) (hw : w_J6_bitCount_0f7a4 p0 Q) : Ct l E yJ6_bitCount_0f7a4 wsJ6_bitCount_0f7a4 { frames := 0, cells := 0, slots := 0, locals := 0 } [.int p0] [] (S := Int32) (fun u => some (.int u)) (fun u => Q u) (fun u => []) := by
  unfold w_J6_bitCount_0f7a4 at hw
  refine g_start (cc := cJ6_bitCount_0f7a4) (nL := 1) (own := RJ6) (ret := (some .int)) rfl (by decide) rfl (Nat.le_of_ble_eq_true rfl) (lv0 := [(0, .int p0)]) rfl (fun X C0 R1 => ?_)
  refine g_iload_n C0 dJ6_bitCount_0f7a4_0 0 rfl ?_
  refine g_iload_n C0 dJ6_bitCount_0f7a4_1 0 rfl ?_
  refine g_iconst C0 (v := 1) dJ6_bitCount_0f7a4_2 (by decide) ?_
  refine g_iushr C0 dJ6_bitCount_0f7a4_3 ?_
  refine g_ldcw C0 (v := 1431655765) dJ6_bitCount_0f7a4_4 (List.mem_of_getElem? (i := 1) rfl) ?_
  refine g_iand C0 dJ6_bitCount_0f7a4_7 ?_
  refine g_isub C0 dJ6_bitCount_0f7a4_8 ?_
  refine g_topi (fun x0_1 ex0_1 => ?_)
  replace hw := hw x0_1 ex0_1
  refine g_istore_n C0 (lv2 := [(0, .int x0_1)]) dJ6_bitCount_0f7a4_9 (by decide) rfl ?_
  refine g_iload_n C0 dJ6_bitCount_0f7a4_10 0 rfl ?_
  refine g_ldcw C0 (v := 858993459) dJ6_bitCount_0f7a4_11 (List.mem_of_getElem? (i := 2) rfl) ?_
  refine g_iand C0 dJ6_bitCount_0f7a4_14 ?_
  refine g_iload_n C0 dJ6_bitCount_0f7a4_15 0 rfl ?_
  refine g_iconst C0 (v := 2) dJ6_bitCount_0f7a4_16 (by decide) ?_
  refine g_iushr C0 dJ6_bitCount_0f7a4_17 ?_
  refine g_ldcw C0 (v := 858993459) dJ6_bitCount_0f7a4_18 (List.mem_of_getElem? (i := 2) rfl) ?_
  refine g_iand C0 dJ6_bitCount_0f7a4_21 ?_
  refine g_iadd C0 dJ6_bitCount_0f7a4_22 ?_
  refine g_topi (fun x0_2 ex0_2 => ?_)
  replace hw := hw x0_2 ex0_2
  refine g_istore_n C0 (lv2 := [(0, .int x0_2)]) dJ6_bitCount_0f7a4_23 (by decide) rfl ?_
  refine g_iload_n C0 dJ6_bitCount_0f7a4_24 0 rfl ?_
  refine g_iload_n C0 dJ6_bitCount_0f7a4_25 0 rfl ?_
  refine g_iconst C0 (v := 4) dJ6_bitCount_0f7a4_26 (by decide) ?_
  refine g_iushr C0 dJ6_bitCount_0f7a4_27 ?_
  refine g_iadd C0 dJ6_bitCount_0f7a4_28 ?_
  refine g_ldcw C0 (v := 252645135) dJ6_bitCount_0f7a4_29 (List.mem_of_getElem? (i := 3) rfl) ?_
  refine g_iand C0 dJ6_bitCount_0f7a4_32 ?_
  refine g_topi (fun x0_3 ex0_3 => ?_)
  replace hw := hw x0_3 ex0_3
  refine g_istore_n C0 (lv2 := [(0, .int x0_3)]) dJ6_bitCount_0f7a4_33 (by decide) rfl ?_
  refine g_iload_n C0 dJ6_bitCount_0f7a4_34 0 rfl ?_
  refine g_iload_n C0 dJ6_bitCount_0f7a4_35 0 rfl ?_
  refine g_bipush C0 (v := 8) dJ6_bitCount_0f7a4_36 (by decide) ?_
  refine g_iushr C0 dJ6_bitCount_0f7a4_38 ?_
  refine g_iadd C0 dJ6_bitCount_0f7a4_39 ?_
  refine g_topi (fun x0_4 ex0_4 => ?_)
  replace hw := hw x0_4 ex0_4
  refine g_istore_n C0 (lv2 := [(0, .int x0_4)]) dJ6_bitCount_0f7a4_40 (by decide) rfl ?_
  refine g_iload_n C0 dJ6_bitCount_0f7a4_41 0 rfl ?_
  refine g_iload_n C0 dJ6_bitCount_0f7a4_42 0 rfl ?_
  refine g_bipush C0 (v := 16) dJ6_bitCount_0f7a4_43 (by decide) ?_
  refine g_iushr C0 dJ6_bitCount_0f7a4_45 ?_
  refine g_iadd C0 dJ6_bitCount_0f7a4_46 ?_
  refine g_topi (fun x0_5 ex0_5 => ?_)
  replace hw := hw x0_5 ex0_5
  refine g_istore_n C0 (lv2 := [(0, .int x0_5)]) dJ6_bitCount_0f7a4_47 (by decide) rfl ?_
  refine g_iload_n C0 dJ6_bitCount_0f7a4_48 0 rfl ?_
  refine g_bipush C0 (v := 63) dJ6_bitCount_0f7a4_49 (by decide) ?_
  refine g_iand C0 dJ6_bitCount_0f7a4_51 ?_
  exact g_iret C0 R1 dJ6_bitCount_0f7a4_52 (x0_5 &&& 63) rfl hw [] (by decide) rfl (by decide) (by decide)
def w_J7_fill_53178 (p1 : Int32) (n_a0 : Nat) (a0 : Nat → Int32) (Q : (Nat → Int32) → Prop) : Prop := ∀ x3_1 : Int32, x3_1 = (nI n_a0) → (∃ n8 : Nat, wL2 (fun (K4 : Int32 → (Nat → Int32) → Prop) (x2_2 : Int32) (a0_3 : Nat → Int32) => (x3_1 ≤ x2_2 → Q a0_3) ∧ (¬ x3_1 ≤ x2_2 → vp_in x2_2 n_a0 ∧ (∀ x2_7 : Int32, x2_7 = (x2_2 + 1) → (K4 x2_7 (upd a0_3 (Int32.toNatClampNeg x2_2) p1))))) n8 0 a0)
theorem ddS_J7_fill_53178 : yJ7_fill_53178.cls ≠ "java/lang/invoke/MethodHandle" ∧ yJ7_fill_53178.cls ≠ "java/lang/invoke/VarHandle" ∧ (parseMethodDescriptor yJ7_fill_53178.desc).map (fun d => d.parameters.length) = some 2 := by decide +kernel
set_option maxHeartbeats 4000000 in
set_option maxRecDepth 100000 in
theorem c_J7_fill_53178 (l : Launch) (E : gE) (q_a0 : Nat) (p1 : Int32) (n_a0 : Nat) (a0 : Nat → Int32) (Q : (Nat → Int32) → Prop) (hw : w_J7_fill_53178 p1 n_a0 a0 Q) : Ct l E yJ7_fill_53178 wsJ7_fill_53178 { frames := 0, cells := 0, slots := 0, locals := 0 } [.ref q_a0, .int p1] [aI E.I q_a0 n_a0 a0] (S := (Nat → Int32)) (fun _ => none) (fun u => Q u) (fun u => [aI E.I q_a0 n_a0 u]) := by
  unfold w_J7_fill_53178 at hw
  refine g_start (cc := cJ7_fill_53178) (nL := 4) (own := RJ7) (ret := none) rfl (by decide) rfl (Nat.le_of_ble_eq_true rfl) (lv0 := [(0, .ref q_a0), (1, .int p1)]) rfl (fun X C0 R1 => ?_)
  refine g_iconst C0 (v := 0) dJ7_fill_53178_0 (by decide) ?_
  refine g_istore_n C0 (lv2 := [(2, .int 0), (0, .ref q_a0), (1, .int p1)]) dJ7_fill_53178_1 (by decide) rfl ?_
  refine g_aload_n C0 dJ7_fill_53178_2 1 rfl ?_
  refine g_alen C0 (v := nI n_a0) dJ7_fill_53178_3 0 0 rfl rfl rfl ?_
  refine g_topi (fun x3_1 ex3_1 => ?_)
  replace hw := hw x3_1 ex3_1
  refine g_istore_n C0 (lv2 := [(3, .int x3_1), (2, .int 0), (0, .ref q_a0), (1, .int p1)]) dJ7_fill_53178_4 (by decide) rfl ?_
  refine g_lv [2, 3, 1, 0] (lv2 := [(0, .ref q_a0), (1, .int p1), (2, .int 0), (3, .int x3_1)]) rfl ?_
  obtain ⟨n8, hw⟩ := hw
  refine wL2_go (P := fun (x2_2 : Int32) (a0_3 : Nat → Int32) => G X E 4 [aI E.I q_a0 n_a0 a0_3] 0 0 5 [(0, .ref q_a0), (1, .int p1), (2, .int x2_2), (3, .int x3_1)] []) (fun K4 hK4 x2_2 a0_3 hw => ?_) n8 _ _ hw
  refine g_iload_n C0 dJ7_fill_53178_5 2 rfl ?_
  refine g_iload_n C0 dJ7_fill_53178_6 3 rfl ?_
  refine g_icmp_ge C0 (tgt := 20) dJ7_fill_53178_7 (by decide) (fun c5 => ?_) (fun c5 => ?_)
  · replace hw := hw.1 c5
    exact g_vret C0 R1 dJ7_fill_53178_20 a0_3 rfl hw [0] (by decide) rfl (by decide) (by decide)
  · replace hw := hw.2 c5
    refine g_aload_n C0 dJ7_fill_53178_10 0 rfl ?_
    refine g_iload_n C0 dJ7_fill_53178_11 2 rfl ?_
    refine g_iload_n C0 dJ7_fill_53178_12 1 rfl ?_
    obtain ⟨h6, hw⟩ := hw
    refine g_iast C0 (ws2 := [aI E.I q_a0 n_a0 (upd a0_3 (Int32.toNatClampNeg x2_2) p1)]) dJ7_fill_53178_13 0 rfl h6 rfl ?_
    obtain ⟨x2_7, ex2_7⟩ : ∃ y : Int32, y = x2_2 + 1 := ⟨_, rfl⟩
    replace hw := hw x2_7 ex2_7
    refine g_iinc C0 (v := x2_7) (lv2 := [(2, .int x2_7), (0, .ref q_a0), (1, .int p1), (3, .int x3_1)]) dJ7_fill_53178_14 2 rfl (by rw [ex2_7]; rfl) (by decide) rfl ?_
    refine g_goto C0 (tgt := 5) dJ7_fill_53178_17 (by decide) ?_
    refine g_lv [1, 2, 0, 3] (lv2 := [(0, .ref q_a0), (1, .int p1), (2, .int x2_7), (3, .int x3_1)]) rfl ?_
    exact hK4 _ _ hw
def w_J6_numberOfTrailingZeros_0f7a4 (p0 : Int32) (Q : Int32 → Prop) : Prop := ∀ x0_1 : Int32, x0_1 = ((p0 ^^^ (-1)) &&& (p0 - 1)) → ((0 < x0_1 → wj2 (fun (J5 : Int32 → Int32 → Prop) => (x0_1 ≤ 65536 → J5 x0_1 1) ∧ (¬ x0_1 ≤ 65536 → ∀ x1_25 : Int32, x1_25 = (1 + 16) → (∀ x0_26 : Int32, x0_26 = ((Int32.toUInt32 x0_1 >>> (Int32.toUInt32 16 &&& Int32.toUInt32 31)).toInt32) → (J5 x0_26 x1_25)))) (fun (x0_3 : Int32) (x1_4 : Int32) => wj2 (fun (J8 : Int32 → Int32 → Prop) => (x0_3 ≤ 256 → J8 x0_3 x1_4) ∧ (¬ x0_3 ≤ 256 → ∀ x1_22 : Int32, x1_22 = (x1_4 + 8) → (∀ x0_23 : Int32, x0_23 = ((Int32.toUInt32 x0_3 >>> (Int32.toUInt32 8 &&& Int32.toUInt32 31)).toInt32) → (J8 x0_23 x1_22)))) (fun (x0_6 : Int32) (x1_7 : Int32) => wj2 (fun (J11 : Int32 → Int32 → Prop) => (x0_6 ≤ 16 → J11 x0_6 x1_7) ∧ (¬ x0_6 ≤ 16 → ∀ x1_19 : Int32, x1_19 = (x1_7 + 4) → (∀ x0_20 : Int32, x0_20 = ((Int32.toUInt32 x0_6 >>> (Int32.toUInt32 4 &&& Int32.toUInt32 31)).toInt32) → (J11 x0_20 x1_19)))) (fun (x0_9 : Int32) (x1_10 : Int32) => wj2 (fun (J14 : Int32 → Int32 → Prop) => (x0_9 ≤ 4 → J14 x0_9 x1_10) ∧ (¬ x0_9 ≤ 4 → ∀ x1_16 : Int32, x1_16 = (x1_10 + 2) → (∀ x0_17 : Int32, x0_17 = ((Int32.toUInt32 x0_9 >>> (Int32.toUInt32 2 &&& Int32.toUInt32 31)).toInt32) → (J14 x0_17 x1_16)))) (fun (x0_12 : Int32) (x1_13 : Int32) => Q (x1_13 + ((Int32.toUInt32 x0_12 >>> (Int32.toUInt32 1 &&& Int32.toUInt32 31)).toInt32))))))) ∧ (¬ 0 < x0_1 → Q (x0_1 &&& 32)))
theorem ddS_J6_numberOfTrailingZeros_0f7a4 : yJ6_numberOfTrailingZeros_0f7a4.cls ≠ "java/lang/invoke/MethodHandle" ∧ yJ6_numberOfTrailingZeros_0f7a4.cls ≠ "java/lang/invoke/VarHandle" ∧ (parseMethodDescriptor yJ6_numberOfTrailingZeros_0f7a4.desc).map (fun d => d.parameters.length) = some 1 := by decide +kernel
set_option maxHeartbeats 4000000 in
set_option maxRecDepth 100000 in
theorem c_J6_numberOfTrailingZeros_0f7a4 (l : Launch) (E : gE) (p0 : Int32) (Q : Int32 → Prop) (hw : w_J6_numberOfTrailingZeros_0f7a4 p0 Q) : Ct l E yJ6_numberOfTrailingZeros_0f7a4 wsJ6_numberOfTrailingZeros_0f7a4 { frames := 0, cells := 0, slots := 0, locals := 0 } [.int p0] [] (S := Int32) (fun u => some (.int u)) (fun u => Q u) (fun u => []) := by
  unfold w_J6_numberOfTrailingZeros_0f7a4 at hw
  refine g_start (cc := cJ6_numberOfTrailingZeros_0f7a4) (nL := 2) (own := RJ6) (ret := (some .int)) rfl (by decide) rfl (Nat.le_of_ble_eq_true rfl) (lv0 := [(0, .int p0)]) rfl (fun X C0 R1 => ?_)
  refine g_iload_n C0 dJ6_numberOfTrailingZeros_0f7a4_0 0 rfl ?_
  refine g_iconst C0 (v := (-1)) dJ6_numberOfTrailingZeros_0f7a4_1 (by decide) ?_
  refine g_ixor C0 dJ6_numberOfTrailingZeros_0f7a4_2 ?_
  refine g_iload_n C0 dJ6_numberOfTrailingZeros_0f7a4_3 0 rfl ?_
  refine g_iconst C0 (v := 1) dJ6_numberOfTrailingZeros_0f7a4_4 (by decide) ?_
  refine g_isub C0 dJ6_numberOfTrailingZeros_0f7a4_5 ?_
  refine g_iand C0 dJ6_numberOfTrailingZeros_0f7a4_6 ?_
  refine g_topi (fun x0_1 ex0_1 => ?_)
  replace hw := hw x0_1 ex0_1
  refine g_istore_n C0 (lv2 := [(0, .int x0_1)]) dJ6_numberOfTrailingZeros_0f7a4_7 (by decide) rfl ?_
  refine g_iload_n C0 dJ6_numberOfTrailingZeros_0f7a4_8 0 rfl ?_
  refine g_if_gt C0 (tgt := 17) dJ6_numberOfTrailingZeros_0f7a4_9 (by decide) (fun c2 => ?_) (fun c2 => ?_)
  · replace hw := hw.1 c2
    refine g_iconst C0 (v := 1) dJ6_numberOfTrailingZeros_0f7a4_17 (by decide) ?_
    refine g_istore_n C0 (lv2 := [(1, .int 1), (0, .int x0_1)]) dJ6_numberOfTrailingZeros_0f7a4_18 (by decide) rfl ?_
    refine g_iload_n C0 dJ6_numberOfTrailingZeros_0f7a4_19 1 rfl ?_
    refine g_ldcw C0 (v := 65536) dJ6_numberOfTrailingZeros_0f7a4_20 (List.mem_of_getElem? (i := 1) rfl) ?_
    refine wj2_go (P := fun (x0_3 : Int32) (x1_4 : Int32) => G X E 2 [] 0 0 34 [(0, .int x0_3), (1, .int x1_4)] []) hw (fun x0_3 x1_4 hw => ?_) (fun J5 hJ5 hw => ?_)
    · refine g_iload_n C0 dJ6_numberOfTrailingZeros_0f7a4_34 0 rfl ?_
      refine g_sipush C0 (v := 256) dJ6_numberOfTrailingZeros_0f7a4_35 (by decide) ?_
      refine wj2_go (P := fun (x0_6 : Int32) (x1_7 : Int32) => G X E 2 [] 0 0 49 [(0, .int x0_6), (1, .int x1_7)] []) hw (fun x0_6 x1_7 hw => ?_) (fun J8 hJ8 hw => ?_)
      · refine g_iload_n C0 dJ6_numberOfTrailingZeros_0f7a4_49 0 rfl ?_
        refine g_bipush C0 (v := 16) dJ6_numberOfTrailingZeros_0f7a4_50 (by decide) ?_
        refine wj2_go (P := fun (x0_9 : Int32) (x1_10 : Int32) => G X E 2 [] 0 0 62 [(0, .int x0_9), (1, .int x1_10)] []) hw (fun x0_9 x1_10 hw => ?_) (fun J11 hJ11 hw => ?_)
        · refine g_iload_n C0 dJ6_numberOfTrailingZeros_0f7a4_62 0 rfl ?_
          refine g_iconst C0 (v := 4) dJ6_numberOfTrailingZeros_0f7a4_63 (by decide) ?_
          refine wj2_go (P := fun (x0_12 : Int32) (x1_13 : Int32) => G X E 2 [] 0 0 74 [(0, .int x0_12), (1, .int x1_13)] []) hw (fun x0_12 x1_13 hw => ?_) (fun J14 hJ14 hw => ?_)
          · refine g_iload_n C0 dJ6_numberOfTrailingZeros_0f7a4_74 1 rfl ?_
            refine g_iload_n C0 dJ6_numberOfTrailingZeros_0f7a4_75 0 rfl ?_
            refine g_iconst C0 (v := 1) dJ6_numberOfTrailingZeros_0f7a4_76 (by decide) ?_
            refine g_iushr C0 dJ6_numberOfTrailingZeros_0f7a4_77 ?_
            refine g_iadd C0 dJ6_numberOfTrailingZeros_0f7a4_78 ?_
            exact g_iret C0 R1 dJ6_numberOfTrailingZeros_0f7a4_79 (x1_13 + ((Int32.toUInt32 x0_12 >>> (Int32.toUInt32 1 &&& Int32.toUInt32 31)).toInt32)) rfl hw [] (by decide) rfl (by decide) (by decide)
          · refine g_icmp_le C0 (tgt := 74) dJ6_numberOfTrailingZeros_0f7a4_64 (by decide) (fun c15 => ?_) (fun c15 => ?_)
            · replace hw := hw.1 c15
              exact hJ14 _ _ hw
            · replace hw := hw.2 c15
              obtain ⟨x1_16, ex1_16⟩ : ∃ y : Int32, y = x1_10 + 2 := ⟨_, rfl⟩
              replace hw := hw x1_16 ex1_16
              refine g_iinc C0 (v := x1_16) (lv2 := [(1, .int x1_16), (0, .int x0_9)]) dJ6_numberOfTrailingZeros_0f7a4_67 1 rfl (by rw [ex1_16]; rfl) (by decide) rfl ?_
              refine g_iload_n C0 dJ6_numberOfTrailingZeros_0f7a4_70 1 rfl ?_
              refine g_iconst C0 (v := 2) dJ6_numberOfTrailingZeros_0f7a4_71 (by decide) ?_
              refine g_iushr C0 dJ6_numberOfTrailingZeros_0f7a4_72 ?_
              refine g_topi (fun x0_17 ex0_17 => ?_)
              replace hw := hw x0_17 ex0_17
              refine g_istore_n C0 (lv2 := [(0, .int x0_17), (1, .int x1_16)]) dJ6_numberOfTrailingZeros_0f7a4_73 (by decide) rfl ?_
              exact hJ14 _ _ hw
        · refine g_icmp_le C0 (tgt := 62) dJ6_numberOfTrailingZeros_0f7a4_52 (by decide) (fun c18 => ?_) (fun c18 => ?_)
          · replace hw := hw.1 c18
            exact hJ11 _ _ hw
          · replace hw := hw.2 c18
            obtain ⟨x1_19, ex1_19⟩ : ∃ y : Int32, y = x1_7 + 4 := ⟨_, rfl⟩
            replace hw := hw x1_19 ex1_19
            refine g_iinc C0 (v := x1_19) (lv2 := [(1, .int x1_19), (0, .int x0_6)]) dJ6_numberOfTrailingZeros_0f7a4_55 1 rfl (by rw [ex1_19]; rfl) (by decide) rfl ?_
            refine g_iload_n C0 dJ6_numberOfTrailingZeros_0f7a4_58 1 rfl ?_
            refine g_iconst C0 (v := 4) dJ6_numberOfTrailingZeros_0f7a4_59 (by decide) ?_
            refine g_iushr C0 dJ6_numberOfTrailingZeros_0f7a4_60 ?_
            refine g_topi (fun x0_20 ex0_20 => ?_)
            replace hw := hw x0_20 ex0_20
            refine g_istore_n C0 (lv2 := [(0, .int x0_20), (1, .int x1_19)]) dJ6_numberOfTrailingZeros_0f7a4_61 (by decide) rfl ?_
            exact hJ11 _ _ hw
      · refine g_icmp_le C0 (tgt := 49) dJ6_numberOfTrailingZeros_0f7a4_38 (by decide) (fun c21 => ?_) (fun c21 => ?_)
        · replace hw := hw.1 c21
          exact hJ8 _ _ hw
        · replace hw := hw.2 c21
          obtain ⟨x1_22, ex1_22⟩ : ∃ y : Int32, y = x1_4 + 8 := ⟨_, rfl⟩
          replace hw := hw x1_22 ex1_22
          refine g_iinc C0 (v := x1_22) (lv2 := [(1, .int x1_22), (0, .int x0_3)]) dJ6_numberOfTrailingZeros_0f7a4_41 1 rfl (by rw [ex1_22]; rfl) (by decide) rfl ?_
          refine g_iload_n C0 dJ6_numberOfTrailingZeros_0f7a4_44 1 rfl ?_
          refine g_bipush C0 (v := 8) dJ6_numberOfTrailingZeros_0f7a4_45 (by decide) ?_
          refine g_iushr C0 dJ6_numberOfTrailingZeros_0f7a4_47 ?_
          refine g_topi (fun x0_23 ex0_23 => ?_)
          replace hw := hw x0_23 ex0_23
          refine g_istore_n C0 (lv2 := [(0, .int x0_23), (1, .int x1_22)]) dJ6_numberOfTrailingZeros_0f7a4_48 (by decide) rfl ?_
          exact hJ8 _ _ hw
    · refine g_icmp_le C0 (tgt := 34) dJ6_numberOfTrailingZeros_0f7a4_23 (by decide) (fun c24 => ?_) (fun c24 => ?_)
      · replace hw := hw.1 c24
        refine g_lv [1, 0] (lv2 := [(0, .int x0_1), (1, .int 1)]) rfl ?_
        exact hJ5 _ _ hw
      · replace hw := hw.2 c24
        obtain ⟨x1_25, ex1_25⟩ : ∃ y : Int32, y = 1 + 16 := ⟨_, rfl⟩
        replace hw := hw x1_25 ex1_25
        refine g_iinc C0 (v := x1_25) (lv2 := [(1, .int x1_25), (0, .int x0_1)]) dJ6_numberOfTrailingZeros_0f7a4_26 0 rfl (by rw [ex1_25]; rfl) (by decide) rfl ?_
        refine g_iload_n C0 dJ6_numberOfTrailingZeros_0f7a4_29 1 rfl ?_
        refine g_bipush C0 (v := 16) dJ6_numberOfTrailingZeros_0f7a4_30 (by decide) ?_
        refine g_iushr C0 dJ6_numberOfTrailingZeros_0f7a4_32 ?_
        refine g_topi (fun x0_26 ex0_26 => ?_)
        replace hw := hw x0_26 ex0_26
        refine g_istore_n C0 (lv2 := [(0, .int x0_26), (1, .int x1_25)]) dJ6_numberOfTrailingZeros_0f7a4_33 (by decide) rfl ?_
        exact hJ5 _ _ hw
  · replace hw := hw.2 c2
    refine g_iload_n C0 dJ6_numberOfTrailingZeros_0f7a4_12 0 rfl ?_
    refine g_bipush C0 (v := 32) dJ6_numberOfTrailingZeros_0f7a4_13 (by decide) ?_
    refine g_iand C0 dJ6_numberOfTrailingZeros_0f7a4_15 ?_
    exact g_iret C0 R1 dJ6_numberOfTrailingZeros_0f7a4_16 (x0_1 &&& 32) rfl hw [] (by decide) rfl (by decide) (by decide)
def w_J7_fill_d0a16 (p1 : Int64) (n_a0 : Nat) (a0 : Nat → Int64) (Q : (Nat → Int64) → Prop) : Prop := ∀ x4_1 : Int32, x4_1 = (nI n_a0) → (∃ n8 : Nat, wL2 (fun (K4 : Int32 → (Nat → Int64) → Prop) (x3_2 : Int32) (a0_3 : Nat → Int64) => (x4_1 ≤ x3_2 → Q a0_3) ∧ (¬ x4_1 ≤ x3_2 → vp_in x3_2 n_a0 ∧ (∀ x3_7 : Int32, x3_7 = (x3_2 + 1) → (K4 x3_7 (vp_updL a0_3 (Int32.toNatClampNeg x3_2) p1))))) n8 0 a0)
theorem ddS_J7_fill_d0a16 : yJ7_fill_d0a16.cls ≠ "java/lang/invoke/MethodHandle" ∧ yJ7_fill_d0a16.cls ≠ "java/lang/invoke/VarHandle" ∧ (parseMethodDescriptor yJ7_fill_d0a16.desc).map (fun d => d.parameters.length) = some 2 := by decide +kernel
set_option maxHeartbeats 4000000 in
set_option maxRecDepth 100000 in
theorem c_J7_fill_d0a16 (l : Launch) (E : gE) (q_a0 : Nat) (p1 : Int64) (n_a0 : Nat) (a0 : Nat → Int64) (Q : (Nat → Int64) → Prop) (hw : w_J7_fill_d0a16 p1 n_a0 a0 Q) : Ct l E yJ7_fill_d0a16 wsJ7_fill_d0a16 { frames := 0, cells := 0, slots := 0, locals := 0 } [.ref q_a0, .long p1] [aJ E.J q_a0 n_a0 a0] (S := (Nat → Int64)) (fun _ => none) (fun u => Q u) (fun u => [aJ E.J q_a0 n_a0 u]) := by
  unfold w_J7_fill_d0a16 at hw
  refine g_start (cc := cJ7_fill_d0a16) (nL := 5) (own := RJ7) (ret := none) rfl (by decide) rfl (Nat.le_of_ble_eq_true rfl) (lv0 := [(0, .ref q_a0), (1, .long p1)]) rfl (fun X C0 R1 => ?_)
  refine g_iconst C0 (v := 0) dJ7_fill_d0a16_0 (by decide) ?_
  refine g_istore_n C0 (lv2 := [(3, .int 0), (0, .ref q_a0), (1, .long p1)]) dJ7_fill_d0a16_1 (by decide) rfl ?_
  refine g_aload_n C0 dJ7_fill_d0a16_2 1 rfl ?_
  refine g_alen C0 (v := nI n_a0) dJ7_fill_d0a16_3 0 1 rfl rfl rfl ?_
  refine g_topi (fun x4_1 ex4_1 => ?_)
  replace hw := hw x4_1 ex4_1
  refine g_istore C0 (lv2 := [(4, .int x4_1), (3, .int 0), (0, .ref q_a0), (1, .long p1)]) dJ7_fill_d0a16_4 (by decide) rfl ?_
  refine g_lv [2, 3, 1, 0] (lv2 := [(0, .ref q_a0), (1, .long p1), (3, .int 0), (4, .int x4_1)]) rfl ?_
  obtain ⟨n8, hw⟩ := hw
  refine wL2_go (P := fun (x3_2 : Int32) (a0_3 : Nat → Int64) => G X E 5 [aJ E.J q_a0 n_a0 a0_3] 0 0 6 [(0, .ref q_a0), (1, .long p1), (3, .int x3_2), (4, .int x4_1)] []) (fun K4 hK4 x3_2 a0_3 hw => ?_) n8 _ _ hw
  refine g_iload_n C0 dJ7_fill_d0a16_6 2 rfl ?_
  refine g_iload C0 dJ7_fill_d0a16_7 3 rfl ?_
  refine g_icmp_ge C0 (tgt := 22) dJ7_fill_d0a16_9 (by decide) (fun c5 => ?_) (fun c5 => ?_)
  · replace hw := hw.1 c5
    exact g_vret C0 R1 dJ7_fill_d0a16_22 a0_3 rfl hw [0] (by decide) rfl (by decide) (by decide)
  · replace hw := hw.2 c5
    refine g_aload_n C0 dJ7_fill_d0a16_12 0 rfl ?_
    refine g_iload_n C0 dJ7_fill_d0a16_13 2 rfl ?_
    refine g_lload_n C0 dJ7_fill_d0a16_14 1 rfl ?_
    obtain ⟨h6, hw⟩ := hw
    refine g_last C0 (ws2 := [aJ E.J q_a0 n_a0 (vp_updL a0_3 (Int32.toNatClampNeg x3_2) p1)]) dJ7_fill_d0a16_15 0 rfl h6 rfl ?_
    obtain ⟨x3_7, ex3_7⟩ : ∃ y : Int32, y = x3_2 + 1 := ⟨_, rfl⟩
    replace hw := hw x3_7 ex3_7
    refine g_iinc C0 (v := x3_7) (lv2 := [(3, .int x3_7), (0, .ref q_a0), (1, .long p1), (4, .int x4_1)]) dJ7_fill_d0a16_16 2 rfl (by rw [ex3_7]; rfl) (by decide) rfl ?_
    refine g_goto C0 (tgt := 6) dJ7_fill_d0a16_19 (by decide) ?_
    refine g_lv [1, 2, 0, 3] (lv2 := [(0, .ref q_a0), (1, .long p1), (3, .int x3_7), (4, .int x4_1)]) rfl ?_
    exact hK4 _ _ hw
