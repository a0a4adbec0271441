def w_X1_append (p0 : Int32) (p1 : Int32) (p2 : Int32) (p3 : Int32) (t_count : Int32) (t_kinds : Nat → Int32) (t_prices : Nat → Int32) (t_holding : Nat → Int32) (t_showing : Nat → Int32) (Q : Int32 → (Nat → Int32) → (Nat → Int32) → (Nat → Int32) → (Nat → Int32) → Int32 → Prop) : Prop := (t_count < 12 → vp_in t_count 12 ∧ (vp_in t_count 12 ∧ (vp_in t_count 12 ∧ (vp_in t_count 12 ∧ (∀ f6 : Int32, f6 = (t_count + 1) → (Q (f6 - 1) (upd t_kinds (Int32.toNatClampNeg t_count) p0) (upd t_prices (Int32.toNatClampNeg t_count) p1) (upd t_holding (Int32.toNatClampNeg t_count) p2) (upd t_showing (Int32.toNatClampNeg t_count) p3) f6)))))) ∧ (¬ t_count < 12 → Q (-4) t_kinds t_prices t_holding t_showing t_count)
theorem ddV_X1_append : yX1_append.cls = RX1 ∧ yX1_append.cls ≠ "java/lang/invoke/MethodHandle" ∧ yX1_append.cls ≠ "java/lang/invoke/VarHandle" ∧ (parseMethodDescriptor yX1_append.desc).map (fun d => d.parameters.length) = some 4 := by decide +kernel
set_option maxHeartbeats 4000000 in
set_option maxRecDepth 100000 in
theorem c_X1_append (l : Launch) (E : gE) (q_t q_t_kinds q_t_prices q_t_holding q_t_showing : Nat) (p0 : Int32) (p1 : Int32) (p2 : Int32) (p3 : Int32) (t_count : Int32) (t_kinds : Nat → Int32) (t_prices : Nat → Int32) (t_holding : Nat → Int32) (t_showing : Nat → Int32) (Q : Int32 → (Nat → Int32) → (Nat → Int32) → (Nat → Int32) → (Nat → Int32) → Int32 → Prop) (hw : w_X1_append p0 p1 p2 p3 t_count t_kinds t_prices t_holding t_showing Q) : Ct l E yX1_append wsX1_append { frames := 0, cells := 0, slots := 0, locals := 0 } [.ref q_t, .int p0, .int p1, .int p2, .int p3] [ob 1 q_t [.ref q_t_kinds, .ref q_t_prices, .ref q_t_holding, .ref q_t_showing, .int t_count], aI E.I q_t_kinds 12 t_kinds, aI E.I q_t_prices 12 t_prices, aI E.I q_t_holding 12 t_holding, aI E.I q_t_showing 12 t_showing] (S := Int32 × (Nat → Int32) × (Nat → Int32) × (Nat → Int32) × (Nat → Int32) × Int32) (fun u => some (.int u.1)) (fun u => Q u.1 u.2.1 u.2.2.1 u.2.2.2.1 u.2.2.2.2.1 u.2.2.2.2.2) (fun u => [ob 1 q_t [.ref q_t_kinds, .ref q_t_prices, .ref q_t_holding, .ref q_t_showing, .int u.2.2.2.2.2], aI E.I q_t_kinds 12 u.2.1, aI E.I q_t_prices 12 u.2.2.1, aI E.I q_t_holding 12 u.2.2.2.1, aI E.I q_t_showing 12 u.2.2.2.2.1]) := by
  unfold w_X1_append at hw
  have hinX1 : ∀ w ∈ wsX10, w ∈ wsX1_append := fun _ h => List.mem_cons_of_mem _ (List.mem_append_right _ h)
  refine g_start (cc := cX1_append) (nL := 5) (own := RX1) (ret := (some .int)) rfl (by decide) rfl (Nat.le_of_ble_eq_true rfl) (lv0 := [(0, .ref q_t), (1, .int p0), (2, .int p1), (3, .int p2), (4, .int p3)]) rfl (fun X C0 R1 => ?_)
  refine g_aload_n C0 dX1_append_0 0 rfl ?_
  refine g_get C0 dX1_append_1 0 rfl 4 rfl rfl hinX1 (by decide) (List.mem_of_getElem? (i := 1) rfl) rfl ?_
  refine g_bipush C0 (v := 12) dX1_append_4 (by decide) ?_
  refine g_icmp_lt C0 (tgt := 12) dX1_append_6 (by decide) (fun c1 => ?_) (fun c1 => ?_)
  · replace hw := hw.1 c1
    refine g_aload_n C0 dX1_append_12 0 rfl ?_
    refine g_get C0 dX1_append_13 0 rfl 0 rfl rfl hinX1 (by decide) (List.mem_of_getElem? (i := 2) rfl) rfl ?_
    refine g_aload_n C0 dX1_append_16 0 rfl ?_
    refine g_get C0 dX1_append_17 0 rfl 4 rfl rfl hinX1 (by decide) (List.mem_of_getElem? (i := 1) rfl) rfl ?_
    refine g_iload_n C0 dX1_append_20 1 rfl ?_
    obtain ⟨h2, hw⟩ := hw
    refine g_iast C0 (ws2 := [ob 1 q_t [.ref q_t_kinds, .ref q_t_prices, .ref q_t_holding, .ref q_t_showing, .int t_count], aI E.I q_t_kinds 12 (upd t_kinds (Int32.toNatClampNeg t_count) p0), aI E.I q_t_prices 12 t_prices, aI E.I q_t_holding 12 t_holding, aI E.I q_t_showing 12 t_showing]) dX1_append_21 1 rfl h2 rfl ?_
    refine g_aload_n C0 dX1_append_22 0 rfl ?_
    refine g_get C0 dX1_append_23 0 rfl 1 rfl rfl hinX1 (by decide) (List.mem_of_getElem? (i := 3) rfl) rfl ?_
    refine g_aload_n C0 dX1_append_26 0 rfl ?_
    refine g_get C0 dX1_append_27 0 rfl 4 rfl rfl hinX1 (by decide) (List.mem_of_getElem? (i := 1) rfl) rfl ?_
    refine g_iload_n C0 dX1_append_30 2 rfl ?_
    obtain ⟨h3, hw⟩ := hw
    refine g_iast C0 (ws2 := [ob 1 q_t [.ref q_t_kinds, .ref q_t_prices, .ref q_t_holding, .ref q_t_showing, .int t_count], aI E.I q_t_kinds 12 (upd t_kinds (Int32.toNatClampNeg t_count) p0), aI E.I q_t_prices 12 (upd t_prices (Int32.toNatClampNeg t_count) p1), aI E.I q_t_holding 12 t_holding, aI E.I q_t_showing 12 t_showing]) dX1_append_31 2 rfl h3 rfl ?_
    refine g_aload_n C0 dX1_append_32 0 rfl ?_
    refine g_get C0 dX1_append_33 0 rfl 2 rfl rfl hinX1 (by decide) (List.mem_of_getElem? (i := 4) rfl) rfl ?_
    refine g_aload_n C0 dX1_append_36 0 rfl ?_
    refine g_get C0 dX1_append_37 0 rfl 4 rfl rfl hinX1 (by decide) (List.mem_of_getElem? (i := 1) rfl) rfl ?_
    refine g_iload_n C0 dX1_append_40 3 rfl ?_
    obtain ⟨h4, hw⟩ := hw
    refine g_iast C0 (ws2 := [ob 1 q_t [.ref q_t_kinds, .ref q_t_prices, .ref q_t_holding, .ref q_t_showing, .int t_count], aI E.I q_t_kinds 12 (upd t_kinds (Int32.toNatClampNeg t_count) p0), aI E.I q_t_prices 12 (upd t_prices (Int32.toNatClampNeg t_count) p1), aI E.I q_t_holding 12 (upd t_holding (Int32.toNatClampNeg t_count) p2), aI E.I q_t_showing 12 t_showing]) dX1_append_41 3 rfl h4 rfl ?_
    refine g_aload_n C0 dX1_append_42 0 rfl ?_
    refine g_get C0 dX1_append_43 0 rfl 3 rfl rfl hinX1 (by decide) (List.mem_of_getElem? (i := 5) rfl) rfl ?_
    refine g_aload_n C0 dX1_append_46 0 rfl ?_
    refine g_get C0 dX1_append_47 0 rfl 4 rfl rfl hinX1 (by decide) (List.mem_of_getElem? (i := 1) rfl) rfl ?_
    refine g_iload C0 dX1_append_50 4 rfl ?_
    obtain ⟨h5, hw⟩ := hw
    refine g_iast C0 (ws2 := [ob 1 q_t [.ref q_t_kinds, .ref q_t_prices, .ref q_t_holding, .ref q_t_showing, .int t_count], aI E.I q_t_kinds 12 (upd t_kinds (Int32.toNatClampNeg t_count) p0), aI E.I q_t_prices 12 (upd t_prices (Int32.toNatClampNeg t_count) p1), aI E.I q_t_holding 12 (upd t_holding (Int32.toNatClampNeg t_count) p2), aI E.I q_t_showing 12 (upd t_showing (Int32.toNatClampNeg t_count) p3)]) dX1_append_52 4 rfl h5 rfl ?_
    refine g_aload_n C0 dX1_append_53 0 rfl ?_
    refine g_dup C0 dX1_append_54 rfl ?_
    refine g_get C0 dX1_append_55 0 rfl 4 rfl rfl hinX1 (by decide) (List.mem_of_getElem? (i := 1) rfl) rfl ?_
    refine g_iconst C0 (v := 1) dX1_append_58 (by decide) ?_
    refine g_iadd C0 dX1_append_59 ?_
    refine g_topi (fun f6 ef6 => ?_)
    replace hw := hw f6 ef6
    refine g_put C0 (ws2 := [ob 1 q_t [.ref q_t_kinds, .ref q_t_prices, .ref q_t_holding, .ref q_t_showing, .int f6], aI E.I q_t_kinds 12 (upd t_kinds (Int32.toNatClampNeg t_count) p0), aI E.I q_t_prices 12 (upd t_prices (Int32.toNatClampNeg t_count) p1), aI E.I q_t_holding 12 (upd t_holding (Int32.toNatClampNeg t_count) p2), aI E.I q_t_showing 12 (upd t_showing (Int32.toNatClampNeg t_count) p3)]) dX1_append_60 0 rfl 4 rfl hinX1 tyX1 tyX1_ok nmX1 (by decide) (List.mem_of_getElem? (i := 1) rfl) rfl rfl (tyX1_ok 4 (by decide)) rfl rfl (Nat.le_of_ble_eq_true rfl) rfl ?_
    refine g_aload_n C0 dX1_append_63 0 rfl ?_
    refine g_get C0 dX1_append_64 0 rfl 4 rfl rfl hinX1 (by decide) (List.mem_of_getElem? (i := 1) rfl) rfl ?_
    refine g_iconst C0 (v := 1) dX1_append_67 (by decide) ?_
    refine g_isub C0 dX1_append_68 ?_
    exact g_iret C0 R1 dX1_append_69 (f6 - 1, upd t_kinds (Int32.toNatClampNeg t_count) p0, upd t_prices (Int32.toNatClampNeg t_count) p1, upd t_holding (Int32.toNatClampNeg t_count) p2, upd t_showing (Int32.toNatClampNeg t_count) p3, f6) rfl hw [0, 1, 2, 3, 4] (by decide) rfl (by decide) (by decide)
  · replace hw := hw.2 c1
    refine g_bipush C0 (v := (-4)) dX1_append_9 (by decide) ?_
    exact g_iret C0 R1 dX1_append_11 ((-4), t_kinds, t_prices, t_holding, t_showing, t_count) rfl hw [0, 1, 2, 3, 4] (by decide) rfl (by decide) (by decide)
def w_X1_count (t_count : Int32) (Q : Int32 → Prop) : Prop := Q t_count
theorem ddV_X1_count : yX1_count.cls = RX1 ∧ yX1_count.cls ≠ "java/lang/invoke/MethodHandle" ∧ yX1_count.cls ≠ "java/lang/invoke/VarHandle" ∧ (parseMethodDescriptor yX1_count.desc).map (fun d => d.parameters.length) = some 0 := by decide +kernel
set_option maxHeartbeats 4000000 in
set_option maxRecDepth 100000 in
theorem c_X1_count (l : Launch) (E : gE) (q_t q_t_kinds q_t_prices q_t_holding q_t_showing : Nat) (t_count : Int32) (Q : Int32 → Prop) (hw : w_X1_count t_count Q) : Ct l E yX1_count wsX1_count { frames := 0, cells := 0, slots := 0, locals := 0 } [.ref q_t] [ob 1 q_t [.ref q_t_kinds, .ref q_t_prices, .ref q_t_holding, .ref q_t_showing, .int t_count]] (S := Int32) (fun u => some (.int u)) (fun u => Q u) (fun u => [ob 1 q_t [.ref q_t_kinds, .ref q_t_prices, .ref q_t_holding, .ref q_t_showing, .int t_count]]) := by
  unfold w_X1_count at hw
  have hinX1 : ∀ w ∈ wsX10, w ∈ wsX1_count := fun _ h => List.mem_cons_of_mem _ (List.mem_append_right _ h)
  refine g_start (cc := cX1_count) (nL := 1) (own := RX1) (ret := (some .int)) rfl (by decide) rfl (Nat.le_of_ble_eq_true rfl) (lv0 := [(0, .ref q_t)]) rfl (fun X C0 R1 => ?_)
  refine g_aload_n C0 dX1_count_0 0 rfl ?_
  refine g_get C0 dX1_count_1 0 rfl 4 rfl rfl hinX1 (by decide) (List.mem_of_getElem? (i := 1) rfl) rfl ?_
  exact g_iret C0 R1 dX1_count_4 t_count rfl hw [0] (by decide) rfl (by decide) (by decide)
def w_X1_warns (p0 : Int32) (p1 : Int32) (t_holding : Nat → Int32) (t_showing : Nat → Int32) (Q : Bool → Prop) : Prop := vp_in p0 12 ∧ (vp_in p0 12 ∧ (vp_in p0 12 ∧ ((((t_holding (Int32.toNatClampNeg p0)) - (t_showing (Int32.toNatClampNeg p0))) < (((t_holding (Int32.toNatClampNeg p0)) * p1) / 100) → Q false) ∧ (¬ ((t_holding (Int32.toNatClampNeg p0)) - (t_showing (Int32.toNatClampNeg p0))) < (((t_holding (Int32.toNatClampNeg p0)) * p1) / 100) → Q true))))
theorem ddV_X1_warns : yX1_warns.cls = RX1 ∧ yX1_warns.cls ≠ "java/lang/invoke/MethodHandle" ∧ yX1_warns.cls ≠ "java/lang/invoke/VarHandle" ∧ (parseMethodDescriptor yX1_warns.desc).map (fun d => d.parameters.length) = some 2 := by decide +kernel
set_option maxHeartbeats 4000000 in
set_option maxRecDepth 100000 in
theorem c_X1_warns (l : Launch) (E : gE) (q_t q_t_kinds q_t_prices q_t_holding q_t_showing : Nat) (p0 : Int32) (p1 : Int32) (t_count : Int32) (t_holding : Nat → Int32) (t_showing : Nat → Int32) (Q : Bool → Prop) (hw : w_X1_warns p0 p1 t_holding t_showing Q) : Ct l E yX1_warns wsX1_warns { frames := 0, cells := 0, slots := 0, locals := 0 } [.ref q_t, .int p0, .int p1] [ob 1 q_t [.ref q_t_kinds, .ref q_t_prices, .ref q_t_holding, .ref q_t_showing, .int t_count], aI E.I q_t_holding 12 t_holding, aI E.I q_t_showing 12 t_showing] (S := Bool) (fun u => some (.int (bI u))) (fun u => Q u) (fun u => [ob 1 q_t [.ref q_t_kinds, .ref q_t_prices, .ref q_t_holding, .ref q_t_showing, .int t_count], aI E.I q_t_holding 12 t_holding, aI E.I q_t_showing 12 t_showing]) := by
  unfold w_X1_warns at hw
  have hinX1 : ∀ w ∈ wsX10, w ∈ wsX1_warns := fun _ h => List.mem_cons_of_mem _ (List.mem_append_right _ h)
  refine g_start (cc := cX1_warns) (nL := 3) (own := RX1) (ret := (some .boolean)) rfl (by decide) rfl (Nat.le_of_ble_eq_true rfl) (lv0 := [(0, .ref q_t), (1, .int p0), (2, .int p1)]) rfl (fun X C0 R1 => ?_)
  refine g_aload_n C0 dX1_warns_0 0 rfl ?_
  refine g_get C0 dX1_warns_1 0 rfl 2 rfl rfl hinX1 (by decide) (List.mem_of_getElem? (i := 1) rfl) rfl ?_
  refine g_iload_n C0 dX1_warns_4 1 rfl ?_
  obtain ⟨h1, hw⟩ := hw
  refine g_iald C0 (cA := E.I) dX1_warns_5 1 rfl h1 ?_
  refine g_aload_n C0 dX1_warns_6 0 rfl ?_
  refine g_get C0 dX1_warns_7 0 rfl 3 rfl rfl hinX1 (by decide) (List.mem_of_getElem? (i := 2) rfl) rfl ?_
  refine g_iload_n C0 dX1_warns_10 1 rfl ?_
  obtain ⟨h2, hw⟩ := hw
  refine g_iald C0 (cA := E.I) dX1_warns_11 2 rfl h2 ?_
  refine g_isub C0 dX1_warns_12 ?_
  refine g_aload_n C0 dX1_warns_13 0 rfl ?_
  refine g_get C0 dX1_warns_14 0 rfl 2 rfl rfl hinX1 (by decide) (List.mem_of_getElem? (i := 1) rfl) rfl ?_
  refine g_iload_n C0 dX1_warns_17 1 rfl ?_
  obtain ⟨h3, hw⟩ := hw
  refine g_iald C0 (cA := E.I) dX1_warns_18 1 rfl h3 ?_
  refine g_iload_n C0 dX1_warns_19 2 rfl ?_
  refine g_imul C0 dX1_warns_20 ?_
  refine g_bipush C0 (v := 100) dX1_warns_21 (by decide) ?_
  refine g_idiv C0 dX1_warns_23 (by decide) ?_
  refine g_icmp_lt C0 (tgt := 31) dX1_warns_24 (by decide) (fun c4 => ?_) (fun c4 => ?_)
  · replace hw := hw.1 c4
    refine g_iconst C0 (v := 0) dX1_warns_31 (by decide) ?_
    exact g_zret C0 R1 (b := false) dX1_warns_32 false rfl hw [0, 1, 2] (by decide) rfl (by decide) (by decide)
  · replace hw := hw.2 c4
    refine g_iconst C0 (v := 1) dX1_warns_27 (by decide) ?_
    refine g_goto C0 (tgt := 32) dX1_warns_28 (by decide) ?_
    exact g_zret C0 R1 (b := true) dX1_warns_32 true rfl hw [0, 1, 2] (by decide) rfl (by decide) (by decide)
def w_X1_bestFor (p0 : Int32) (p1 : Int32) (p2 : Int32) (t_count : Int32) (t_kinds : Nat → Int32) (t_holding : Nat → Int32) (t_showing : Nat → Int32) (t_prices : Nat → Int32) (Q : Int32 → Prop) : Prop := ∃ n24 : Nat, wL3 (fun (K4 : Int32 → Int32 → Int32 → Prop) (x4_1 : Int32) (x5_2 : Int32) (x6_3 : Int32) => (t_count ≤ x6_3 → Q x4_1) ∧ (¬ t_count ≤ x6_3 → wj1 (fun (J7 : Bool → Prop) => (p1 = (-1) → J7 true) ∧ (¬ p1 = (-1) → vp_in x6_3 12 ∧ ((¬ (t_kinds (Int32.toNatClampNeg x6_3)) = p1 → J7 false) ∧ ((t_kinds (Int32.toNatClampNeg x6_3)) = p1 → J7 true)))) (fun (w6 : Bool) => wj2 (fun (J10 : Int32 → Int32 → Prop) => (w6 = false → J10 x4_1 x5_2) ∧ (w6 = true → vp_in x6_3 12 ∧ (((t_holding (Int32.toNatClampNeg x6_3)) < p0 → J10 x4_1 x5_2) ∧ (¬ (t_holding (Int32.toNatClampNeg x6_3)) < p0 → w_X1_warns x6_3 p2 t_holding t_showing (fun (r15 : Bool) => (r15 = false → J10 x4_1 x5_2) ∧ (r15 = true → vp_in x6_3 12 ∧ ((x5_2 ≤ (t_prices (Int32.toNatClampNeg x6_3)) → J10 x4_1 x5_2) ∧ (¬ x5_2 ≤ (t_prices (Int32.toNatClampNeg x6_3)) → vp_in x6_3 12 ∧ (∀ x5_20 : Int32, x5_20 = (t_prices (Int32.toNatClampNeg x6_3)) → (J10 x6_3 x5_20)))))))))) (fun (x4_8 : Int32) (x5_9 : Int32) => ∀ x6_11 : Int32, x6_11 = (x6_3 + 1) → (K4 x4_8 x5_9 x6_11))))) n24 (-6) 1001 0
theorem ddV_X1_bestFor : yX1_bestFor.cls = RX1 ∧ yX1_bestFor.cls ≠ "java/lang/invoke/MethodHandle" ∧ yX1_bestFor.cls ≠ "java/lang/invoke/VarHandle" ∧ (parseMethodDescriptor yX1_bestFor.desc).map (fun d => d.parameters.length) = some 3 := by decide +kernel
set_option maxHeartbeats 4000000 in
set_option maxRecDepth 100000 in
theorem c_X1_bestFor (l : Launch) (E : gE) (q_t q_t_kinds q_t_prices q_t_holding q_t_showing : Nat) (p0 : Int32) (p1 : Int32) (p2 : Int32) (t_count : Int32) (t_kinds : Nat → Int32) (t_holding : Nat → Int32) (t_showing : Nat → Int32) (t_prices : Nat → Int32) (Q : Int32 → Prop) (hw : w_X1_bestFor p0 p1 p2 t_count t_kinds t_holding t_showing t_prices Q) : Ct l E yX1_bestFor wsX1_bestFor { frames := 1, cells := 0, slots := 0, locals := 22 } [.ref q_t, .int p0, .int p1, .int p2] [ob 1 q_t [.ref q_t_kinds, .ref q_t_prices, .ref q_t_holding, .ref q_t_showing, .int t_count], aI E.I q_t_kinds 12 t_kinds, aI E.I q_t_holding 12 t_holding, aI E.I q_t_showing 12 t_showing, aI E.I q_t_prices 12 t_prices] (S := Int32) (fun u => some (.int u)) (fun u => Q u) (fun u => [ob 1 q_t [.ref q_t_kinds, .ref q_t_prices, .ref q_t_holding, .ref q_t_showing, .int t_count], aI E.I q_t_kinds 12 t_kinds, aI E.I q_t_holding 12 t_holding, aI E.I q_t_showing 12 t_showing, aI E.I q_t_prices 12 t_prices]) := by
  unfold w_X1_bestFor at hw
  have hinX1 : ∀ w ∈ wsX10, w ∈ wsX1_bestFor := fun _ h => List.mem_cons_of_mem _ (List.mem_append_right _ h)
  refine g_start (cc := cX1_bestFor) (nL := 8) (own := RX1) (ret := (some .int)) rfl (by decide) rfl (Nat.le_of_ble_eq_true rfl) (lv0 := [(0, .ref q_t), (1, .int p0), (2, .int p1), (3, .int p2)]) rfl (fun X C0 R1 => ?_)
  refine g_bipush C0 (v := (-6)) dX1_bestFor_0 (by decide) ?_
  refine g_istore C0 (lv2 := [(4, .int (-6)), (0, .ref q_t), (1, .int p0), (2, .int p1), (3, .int p2)]) dX1_bestFor_2 (by decide) rfl ?_
  refine g_sipush C0 (v := 1001) dX1_bestFor_4 (by decide) ?_
  refine g_istore C0 (lv2 := [(5, .int 1001), (4, .int (-6)), (0, .ref q_t), (1, .int p0), (2, .int p1), (3, .int p2)]) dX1_bestFor_7 (by decide) rfl ?_
  refine g_iconst C0 (v := 0) dX1_bestFor_9 (by decide) ?_
  refine g_istore C0 (lv2 := [(6, .int 0), (5, .int 1001), (4, .int (-6)), (0, .ref q_t), (1, .int p0), (2, .int p1), (3, .int p2)]) dX1_bestFor_10 (by decide) rfl ?_
  refine g_lv [3, 4, 5, 6, 2, 1, 0] (lv2 := [(0, .ref q_t), (1, .int p0), (2, .int p1), (3, .int p2), (4, .int (-6)), (5, .int 1001), (6, .int 0)]) rfl ?_
  obtain ⟨n24, hw⟩ := hw
  refine wL3_go (P := fun (x4_1 : Int32) (x5_2 : Int32) (x6_3 : Int32) => G X E 8 [ob 1 q_t [.ref q_t_kinds, .ref q_t_prices, .ref q_t_holding, .ref q_t_showing, .int t_count], aI E.I q_t_kinds 12 t_kinds, aI E.I q_t_holding 12 t_holding, aI E.I q_t_showing 12 t_showing, aI E.I q_t_prices 12 t_prices] 0 0 12 [(0, .ref q_t), (1, .int p0), (2, .int p1), (3, .int p2), (4, .int x4_1), (5, .int x5_2), (6, .int x6_3)] []) (fun K4 hK4 x4_1 x5_2 x6_3 hw => ?_) n24 _ _ _ hw
  refine g_iload C0 dX1_bestFor_12 6 rfl ?_
  refine g_aload_n C0 dX1_bestFor_14 0 rfl ?_
  refine g_get C0 dX1_bestFor_15 0 rfl 4 rfl rfl hinX1 (by decide) (List.mem_of_getElem? (i := 1) rfl) rfl ?_
  refine g_icmp_ge C0 (tgt := 101) dX1_bestFor_18 (by decide) (fun c5 => ?_) (fun c5 => ?_)
  · replace hw := hw.1 c5
    refine g_iload C0 dX1_bestFor_101 4 rfl ?_
    exact g_iret C0 R1 dX1_bestFor_103 x4_1 rfl hw [0, 1, 2, 3, 4] (by decide) rfl (by decide) (by decide)
  · replace hw := hw.2 c5
    refine g_iload_n C0 dX1_bestFor_21 2 rfl ?_
    refine g_iconst C0 (v := (-1)) dX1_bestFor_22 (by decide) ?_
    refine wj1_go (P := fun (w6 : Bool) => G X E 8 [ob 1 q_t [.ref q_t_kinds, .ref q_t_prices, .ref q_t_holding, .ref q_t_showing, .int t_count], aI E.I q_t_kinds 12 t_kinds, aI E.I q_t_holding 12 t_holding, aI E.I q_t_showing 12 t_showing, aI E.I q_t_prices 12 t_prices] 0 0 42 [(0, .ref q_t), (1, .int p0), (2, .int p1), (3, .int p2), (4, .int x4_1), (5, .int x5_2), (6, .int x6_3)] [.int (bI w6)]) hw (fun w6 hw => ?_) (fun J7 hJ7 hw => ?_)
    · refine g_istore C0 (lv2 := [(7, .int (bI w6)), (0, .ref q_t), (1, .int p0), (2, .int p1), (3, .int p2), (4, .int x4_1), (5, .int x5_2), (6, .int x6_3)]) dX1_bestFor_42 (by decide) rfl ?_
      refine g_iload C0 dX1_bestFor_44 0 rfl ?_
      refine wj2_go (P := fun (x4_8 : Int32) (x5_9 : Int32) => G X E 8 [ob 1 q_t [.ref q_t_kinds, .ref q_t_prices, .ref q_t_holding, .ref q_t_showing, .int t_count], aI E.I q_t_kinds 12 t_kinds, aI E.I q_t_holding 12 t_holding, aI E.I q_t_showing 12 t_showing, aI E.I q_t_prices 12 t_prices] 0 0 95 [(0, .ref q_t), (1, .int p0), (2, .int p1), (3, .int p2), (4, .int x4_8), (5, .int x5_9), (6, .int x6_3)] []) hw (fun x4_8 x5_9 hw => ?_) (fun J10 hJ10 hw => ?_)
      · obtain ⟨x6_11, ex6_11⟩ : ∃ y : Int32, y = x6_3 + 1 := ⟨_, rfl⟩
        replace hw := hw x6_11 ex6_11
        refine g_iinc C0 (v := x6_11) (lv2 := [(6, .int x6_11), (0, .ref q_t), (1, .int p0), (2, .int p1), (3, .int p2), (4, .int x4_8), (5, .int x5_9)]) dX1_bestFor_95 6 rfl (by rw [ex6_11]; rfl) (by decide) rfl ?_
        refine g_goto C0 (tgt := 12) dX1_bestFor_98 (by decide) ?_
        refine g_lv [1, 2, 3, 4, 5, 6, 0] (lv2 := [(0, .ref q_t), (1, .int p0), (2, .int p1), (3, .int p2), (4, .int x4_8), (5, .int x5_9), (6, .int x6_11)]) rfl ?_
        exact hK4 _ _ _ hw
      · refine g_ifb_eq C0 (tgt := 95) dX1_bestFor_46 (by decide) (fun c12 => ?_) (fun c12 => ?_)
        · replace hw := hw.1 c12
          refine g_lv [1, 2, 3, 4, 5, 6, 7] (lv2 := [(0, .ref q_t), (1, .int p0), (2, .int p1), (3, .int p2), (4, .int x4_1), (5, .int x5_2), (6, .int x6_3)]) rfl ?_
          exact hJ10 _ _ hw
        · replace hw := hw.2 c12
          refine g_aload_n C0 dX1_bestFor_49 1 rfl ?_
          refine g_get C0 dX1_bestFor_50 0 rfl 2 rfl rfl hinX1 (by decide) (List.mem_of_getElem? (i := 3) rfl) rfl ?_
          refine g_iload C0 dX1_bestFor_53 7 rfl ?_
          obtain ⟨h13, hw⟩ := hw
          refine g_iald C0 (cA := E.I) dX1_bestFor_55 2 rfl h13 ?_
          refine g_iload_n C0 dX1_bestFor_56 2 rfl ?_
          refine g_icmp_lt C0 (tgt := 95) dX1_bestFor_57 (by decide) (fun c14 => ?_) (fun c14 => ?_)
          · replace hw := hw.1 c14
            refine g_lv [1, 2, 3, 4, 5, 6, 7] (lv2 := [(0, .ref q_t), (1, .int p0), (2, .int p1), (3, .int p2), (4, .int x4_1), (5, .int x5_2), (6, .int x6_3)]) rfl ?_
            exact hJ10 _ _ hw
          · replace hw := hw.2 c14
            refine g_aload_n C0 dX1_bestFor_60 1 rfl ?_
            refine g_iload C0 dX1_bestFor_61 7 rfl ?_
            refine g_iload_n C0 dX1_bestFor_63 4 rfl ?_
            refine g_callV C0 (q0 := 0) (ci := 1) (c_X1_warns l E q_t q_t_kinds q_t_prices q_t_holding q_t_showing x6_3 p2 t_count t_holding t_showing _ hw) dX1_bestFor_64 gX1_bestFor_X1_warns rfl ddV_X1_warns rfl (by decide) (by decide) rfl (Nat.le_of_ble_eq_true rfl) [0, 2, 3] [1, 4] rfl (wr := [aI E.I q_t_kinds 12 t_kinds, aI E.I q_t_prices 12 t_prices]) rfl (by decide) (by decide) (by decide) rfl rfl (fun u hw => ?_)
            obtain ⟨r15, hu_⟩ : ∃ z, z = u := ⟨_, rfl⟩
            subst hu_
            try dsimp only at hw
            show G X E 8 [aI E.I q_t_kinds 12 t_kinds, aI E.I q_t_prices 12 t_prices, ob 1 q_t [.ref q_t_kinds, .ref q_t_prices, .ref q_t_holding, .ref q_t_showing, .int t_count], aI E.I q_t_holding 12 t_holding, aI E.I q_t_showing 12 t_showing] 0 0 67 [(7, .int (bI w6)), (0, .ref q_t), (1, .int p0), (2, .int p1), (3, .int p2), (4, .int x4_1), (5, .int x5_2), (6, .int x6_3)] [.int (bI r15)]
            refine g_ifb_eq C0 (tgt := 95) dX1_bestFor_67 (by decide) (fun c16 => ?_) (fun c16 => ?_)
            · replace hw := hw.1 c16
              refine g_lv [1, 2, 3, 4, 5, 6, 7] (lv2 := [(0, .ref q_t), (1, .int p0), (2, .int p1), (3, .int p2), (4, .int x4_1), (5, .int x5_2), (6, .int x6_3)]) rfl ?_
              refine g_re [2, 0, 3, 4, 1] (by decide) (ws2 := [ob 1 q_t [.ref q_t_kinds, .ref q_t_prices, .ref q_t_holding, .ref q_t_showing, .int t_count], aI E.I q_t_kinds 12 t_kinds, aI E.I q_t_holding 12 t_holding, aI E.I q_t_showing 12 t_showing, aI E.I q_t_prices 12 t_prices]) rfl ?_
              exact hJ10 _ _ hw
            · replace hw := hw.2 c16
              refine g_aload_n C0 dX1_bestFor_70 1 rfl ?_
              refine g_get C0 dX1_bestFor_71 2 rfl 1 rfl rfl hinX1 (by decide) (List.mem_of_getElem? (i := 4) rfl) rfl ?_
              refine g_iload C0 dX1_bestFor_74 7 rfl ?_
              obtain ⟨h17, hw⟩ := hw
              refine g_iald C0 (cA := E.I) dX1_bestFor_76 1 rfl h17 ?_
              refine g_iload C0 dX1_bestFor_77 6 rfl ?_
              refine g_icmp_ge C0 (tgt := 95) dX1_bestFor_79 (by decide) (fun c18 => ?_) (fun c18 => ?_)
              · replace hw := hw.1 c18
                refine g_lv [1, 2, 3, 4, 5, 6, 7] (lv2 := [(0, .ref q_t), (1, .int p0), (2, .int p1), (3, .int p2), (4, .int x4_1), (5, .int x5_2), (6, .int x6_3)]) rfl ?_
                refine g_re [2, 0, 3, 4, 1] (by decide) (ws2 := [ob 1 q_t [.ref q_t_kinds, .ref q_t_prices, .ref q_t_holding, .ref q_t_showing, .int t_count], aI E.I q_t_kinds 12 t_kinds, aI E.I q_t_holding 12 t_holding, aI E.I q_t_showing 12 t_showing, aI E.I q_t_prices 12 t_prices]) rfl ?_
                exact hJ10 _ _ hw
              · replace hw := hw.2 c18
                refine g_aload_n C0 dX1_bestFor_82 1 rfl ?_
                refine g_get C0 dX1_bestFor_83 2 rfl 1 rfl rfl hinX1 (by decide) (List.mem_of_getElem? (i := 4) rfl) rfl ?_
                refine g_iload C0 dX1_bestFor_86 7 rfl ?_
                obtain ⟨h19, hw⟩ := hw
                refine g_iald C0 (cA := E.I) dX1_bestFor_88 1 rfl h19 ?_
                refine g_topi (fun x5_20 ex5_20 => ?_)
                replace hw := hw x5_20 ex5_20
                refine g_istore C0 (lv2 := [(5, .int x5_20), (7, .int (bI w6)), (0, .ref q_t), (1, .int p0), (2, .int p1), (3, .int p2), (4, .int x4_1), (6, .int x6_3)]) dX1_bestFor_89 (by decide) rfl ?_
                refine g_iload C0 dX1_bestFor_91 7 rfl ?_
                refine g_istore C0 (lv2 := [(4, .int x6_3), (5, .int x5_20), (7, .int (bI w6)), (0, .ref q_t), (1, .int p0), (2, .int p1), (3, .int p2), (6, .int x6_3)]) dX1_bestFor_93 (by decide) rfl ?_
                refine g_lv [3, 4, 5, 6, 0, 1, 7] (lv2 := [(0, .ref q_t), (1, .int p0), (2, .int p1), (3, .int p2), (4, .int x6_3), (5, .int x5_20), (6, .int x6_3)]) rfl ?_
                refine g_re [2, 0, 3, 4, 1] (by decide) (ws2 := [ob 1 q_t [.ref q_t_kinds, .ref q_t_prices, .ref q_t_holding, .ref q_t_showing, .int t_count], aI E.I q_t_kinds 12 t_kinds, aI E.I q_t_holding 12 t_holding, aI E.I q_t_showing 12 t_showing, aI E.I q_t_prices 12 t_prices]) rfl ?_
                exact hJ10 _ _ hw
    · refine g_icmp_eq C0 (tgt := 37) dX1_bestFor_23 (by decide) (fun c21 => ?_) (fun c21 => ?_)
      · replace hw := hw.1 c21
        refine g_iconst C0 (v := 1) dX1_bestFor_37 (by decide) ?_
        refine g_goto C0 (tgt := 42) dX1_bestFor_38 (by decide) ?_
        exact hJ7 _ hw
      · replace hw := hw.2 c21
        refine g_aload_n C0 dX1_bestFor_26 0 rfl ?_
        refine g_get C0 dX1_bestFor_27 0 rfl 0 rfl rfl hinX1 (by decide) (List.mem_of_getElem? (i := 2) rfl) rfl ?_
        refine g_iload C0 dX1_bestFor_30 6 rfl ?_
        obtain ⟨h22, hw⟩ := hw
        refine g_iald C0 (cA := E.I) dX1_bestFor_32 1 rfl h22 ?_
        refine g_iload_n C0 dX1_bestFor_33 2 rfl ?_
        refine g_icmp_ne C0 (tgt := 41) dX1_bestFor_34 (by decide) (fun c23 => ?_) (fun c23 => ?_)
        · replace hw := hw.1 c23
          refine g_iconst C0 (v := 0) dX1_bestFor_41 (by decide) ?_
          exact hJ7 _ hw
        · replace hw := hw.2 c23
          refine g_iconst C0 (v := 1) dX1_bestFor_37 (by decide) ?_
          refine g_goto C0 (tgt := 42) dX1_bestFor_38 (by decide) ?_
          exact hJ7 _ hw
