def w_X8_append (p0 : Int32) (t_count : Int32) (t_strength : Nat → Int32) (Q : Int32 → (Nat → Int32) → Int32 → Prop) : Prop := (t_count < 20 → vp_in t_count 20 ∧ (∀ f3 : Int32, f3 = (t_count + 1) → (Q (f3 - 1) (upd t_strength (Int32.toNatClampNeg t_count) p0) f3))) ∧ (¬ t_count < 20 → Q (-4) t_strength t_count)
theorem ddV_X8_append : yX8_append.cls = RX8 ∧ yX8_append.cls ≠ "java/lang/invoke/MethodHandle" ∧ yX8_append.cls ≠ "java/lang/invoke/VarHandle" ∧ (parseMethodDescriptor yX8_append.desc).map (fun d => d.parameters.length) = some 1 := by decide +kernel
set_option maxHeartbeats 4000000 in
set_option maxRecDepth 100000 in
theorem c_X8_append (l : Launch) (E : gE) (q_t q_t_strength q_t_barred q_t_weights : Nat) (p0 : Int32) (t_count : Int32) (t_strength : Nat → Int32) (Q : Int32 → (Nat → Int32) → Int32 → Prop) (hw : w_X8_append p0 t_count t_strength Q) : Ct l E yX8_append wsX8_append { frames := 0, cells := 0, slots := 0, locals := 0 } [.ref q_t, .int p0] [ob 8 q_t [.ref q_t_strength, .ref q_t_barred, .ref q_t_weights, .int t_count], aI E.I q_t_strength 20 t_strength] (S := Int32 × (Nat → Int32) × Int32) (fun u => some (.int u.1)) (fun u => Q u.1 u.2.1 u.2.2) (fun u => [ob 8 q_t [.ref q_t_strength, .ref q_t_barred, .ref q_t_weights, .int u.2.2], aI E.I q_t_strength 20 u.2.1]) := by
  unfold w_X8_append at hw
  have hinX8 : ∀ w ∈ wsX80, w ∈ wsX8_append := fun _ h => List.mem_cons_of_mem _ (List.mem_append_right _ h)
  refine g_start (cc := cX8_append) (nL := 2) (own := RX8) (ret := (some .int)) rfl (by decide) rfl (Nat.le_of_ble_eq_true rfl) (lv0 := [(0, .ref q_t), (1, .int p0)]) rfl (fun X C0 R1 => ?_)
  refine g_aload_n C0 dX8_append_0 0 rfl ?_
  refine g_get C0 dX8_append_1 0 rfl 3 rfl rfl hinX8 (by decide) (List.mem_of_getElem? (i := 1) rfl) rfl ?_
  refine g_bipush C0 (v := 20) dX8_append_4 (by decide) ?_
  refine g_icmp_lt C0 (tgt := 12) dX8_append_6 (by decide) (fun c1 => ?_) (fun c1 => ?_)
  · replace hw := hw.1 c1
    refine g_aload_n C0 dX8_append_12 0 rfl ?_
    refine g_get C0 dX8_append_13 0 rfl 0 rfl rfl hinX8 (by decide) (List.mem_of_getElem? (i := 2) rfl) rfl ?_
    refine g_aload_n C0 dX8_append_16 0 rfl ?_
    refine g_get C0 dX8_append_17 0 rfl 3 rfl rfl hinX8 (by decide) (List.mem_of_getElem? (i := 1) rfl) rfl ?_
    refine g_iload_n C0 dX8_append_20 1 rfl ?_
    obtain ⟨h2, hw⟩ := hw
    refine g_iast C0 (ws2 := [ob 8 q_t [.ref q_t_strength, .ref q_t_barred, .ref q_t_weights, .int t_count], aI E.I q_t_strength 20 (upd t_strength (Int32.toNatClampNeg t_count) p0)]) dX8_append_21 1 rfl h2 rfl ?_
    refine g_aload_n C0 dX8_append_22 0 rfl ?_
    refine g_dup C0 dX8_append_23 rfl ?_
    refine g_get C0 dX8_append_24 0 rfl 3 rfl rfl hinX8 (by decide) (List.mem_of_getElem? (i := 1) rfl) rfl ?_
    refine g_iconst C0 (v := 1) dX8_append_27 (by decide) ?_
    refine g_iadd C0 dX8_append_28 ?_
    refine g_topi (fun f3 ef3 => ?_)
    replace hw := hw f3 ef3
    refine g_put C0 (ws2 := [ob 8 q_t [.ref q_t_strength, .ref q_t_barred, .ref q_t_weights, .int f3], aI E.I q_t_strength 20 (upd t_strength (Int32.toNatClampNeg t_count) p0)]) dX8_append_29 0 rfl 3 rfl hinX8 tyX8 tyX8_ok nmX8 (by decide) (List.mem_of_getElem? (i := 1) rfl) rfl rfl (tyX8_ok 3 (by decide)) rfl rfl (Nat.le_of_ble_eq_true rfl) rfl ?_
    refine g_aload_n C0 dX8_append_32 0 rfl ?_
    refine g_get C0 dX8_append_33 0 rfl 3 rfl rfl hinX8 (by decide) (List.mem_of_getElem? (i := 1) rfl) rfl ?_
    refine g_iconst C0 (v := 1) dX8_append_36 (by decide) ?_
    refine g_isub C0 dX8_append_37 ?_
    exact g_iret C0 R1 dX8_append_38 (f3 - 1, upd t_strength (Int32.toNatClampNeg t_count) p0, f3) rfl hw [0, 1] (by decide) rfl (by decide) (by decide)
  · replace hw := hw.2 c1
    refine g_bipush C0 (v := (-4)) dX8_append_9 (by decide) ?_
    exact g_iret C0 R1 dX8_append_11 ((-4), t_strength, t_count) rfl hw [0, 1] (by decide) rfl (by decide) (by decide)
def w_X8_count (t_count : Int32) (Q : Int32 → Prop) : Prop := Q t_count
theorem ddV_X8_count : yX8_count.cls = RX8 ∧ yX8_count.cls ≠ "java/lang/invoke/MethodHandle" ∧ yX8_count.cls ≠ "java/lang/invoke/VarHandle" ∧ (parseMethodDescriptor yX8_count.desc).map (fun d => d.parameters.length) = some 0 := by decide +kernel
set_option maxHeartbeats 4000000 in
set_option maxRecDepth 100000 in
theorem c_X8_count (l : Launch) (E : gE) (q_t q_t_strength q_t_barred q_t_weights : Nat) (t_count : Int32) (Q : Int32 → Prop) (hw : w_X8_count t_count Q) : Ct l E yX8_count wsX8_count { frames := 0, cells := 0, slots := 0, locals := 0 } [.ref q_t] [ob 8 q_t [.ref q_t_strength, .ref q_t_barred, .ref q_t_weights, .int t_count]] (S := Int32) (fun u => some (.int u)) (fun u => Q u) (fun u => [ob 8 q_t [.ref q_t_strength, .ref q_t_barred, .ref q_t_weights, .int t_count]]) := by
  unfold w_X8_count at hw
  have hinX8 : ∀ w ∈ wsX80, w ∈ wsX8_count := fun _ h => List.mem_cons_of_mem _ (List.mem_append_right _ h)
  refine g_start (cc := cX8_count) (nL := 1) (own := RX8) (ret := (some .int)) rfl (by decide) rfl (Nat.le_of_ble_eq_true rfl) (lv0 := [(0, .ref q_t)]) rfl (fun X C0 R1 => ?_)
  refine g_aload_n C0 dX8_count_0 0 rfl ?_
  refine g_get C0 dX8_count_1 0 rfl 3 rfl rfl hinX8 (by decide) (List.mem_of_getElem? (i := 1) rfl) rfl ?_
  exact g_iret C0 R1 dX8_count_4 t_count rfl hw [0] (by decide) rfl (by decide) (by decide)
def w_X8_changeBarred (p0 : Int32) (p1 : Bool) (t_count : Int32) (t_barred : Nat → Bool) (Q : Int32 → (Nat → Bool) → Prop) : Prop := w_X9_within p0 0 (t_count - 1) (fun (r1 : Bool) => (r1 = false → Q (-1) t_barred) ∧ (r1 = true → (p0 < 20 → vp_in p0 20 ∧ (wj1 (fun (J6 : Bool → Prop) => (t_barred (Int32.toNatClampNeg p0) = false → J6 false) ∧ (t_barred (Int32.toNatClampNeg p0) = true → J6 true)) (fun (w5 : Bool) => vp_in p0 20 ∧ (Q (bI w5) (updB t_barred (Int32.toNatClampNeg p0) p1))))) ∧ (¬ p0 < 20 → Q (-1) t_barred)))
theorem ddV_X8_changeBarred : yX8_changeBarred.cls = RX8 ∧ yX8_changeBarred.cls ≠ "java/lang/invoke/MethodHandle" ∧ yX8_changeBarred.cls ≠ "java/lang/invoke/VarHandle" ∧ (parseMethodDescriptor yX8_changeBarred.desc).map (fun d => d.parameters.length) = some 2 := by decide +kernel
set_option maxHeartbeats 4000000 in
set_option maxRecDepth 100000 in
theorem c_X8_changeBarred (l : Launch) (E : gE) (q_t q_t_strength q_t_barred q_t_weights : Nat) (p0 : Int32) (p1 : Bool) (t_count : Int32) (t_barred : Nat → Bool) (Q : Int32 → (Nat → Bool) → Prop) (hw : w_X8_changeBarred p0 p1 t_count t_barred Q) : Ct l E yX8_changeBarred wsX8_changeBarred { frames := 1, cells := 0, slots := 0, locals := 22 } [.ref q_t, .int p0, .int (bI p1)] [ob 8 q_t [.ref q_t_strength, .ref q_t_barred, .ref q_t_weights, .int t_count], aZ E.Z q_t_barred 20 t_barred] (S := Int32 × (Nat → Bool)) (fun u => some (.int u.1)) (fun u => Q u.1 u.2) (fun u => [ob 8 q_t [.ref q_t_strength, .ref q_t_barred, .ref q_t_weights, .int t_count], aZ E.Z q_t_barred 20 u.2]) := by
  unfold w_X8_changeBarred at hw
  have hinX8 : ∀ w ∈ wsX80, w ∈ wsX8_changeBarred := fun _ h => List.mem_cons_of_mem _ (List.mem_append_right _ h)
  refine g_start (cc := cX8_changeBarred) (nL := 4) (own := RX8) (ret := (some .int)) rfl (by decide) rfl (Nat.le_of_ble_eq_true rfl) (lv0 := [(0, .ref q_t), (1, .int p0), (2, .int (bI p1))]) rfl (fun X C0 R1 => ?_)
  refine g_iload_n C0 dX8_changeBarred_0 1 rfl ?_
  refine g_iconst C0 (v := 0) dX8_changeBarred_1 (by decide) ?_
  refine g_aload_n C0 dX8_changeBarred_2 0 rfl ?_
  refine g_get C0 dX8_changeBarred_3 0 rfl 3 rfl rfl hinX8 (by decide) (List.mem_of_getElem? (i := 1) rfl) rfl ?_
  refine g_iconst C0 (v := 1) dX8_changeBarred_6 (by decide) ?_
  refine g_isub C0 dX8_changeBarred_7 ?_
  refine g_callN C0 (c_X9_within l E p0 0 (t_count - 1) _ hw) dX8_changeBarred_8 gX8_changeBarred_X9_within_n27 rfl (List.mem_of_getElem? (i := 5) rfl) (List.mem_of_getElem? (i := 4) rfl) (List.mem_of_getElem? (i := 3) rfl) ddS_X9_within rfl (by decide) (by decide) rfl (Nat.le_of_ble_eq_true rfl) [] [0, 1] rfl (wr := [ob 8 q_t [.ref q_t_strength, .ref q_t_barred, .ref q_t_weights, .int t_count], aZ E.Z q_t_barred 20 t_barred]) rfl (by decide) (by decide) (by decide) (fun u hw => ?_)
  obtain ⟨r1, hu_⟩ : ∃ z, z = u := ⟨_, rfl⟩
  subst hu_
  try dsimp only at hw
  show G X E 4 [ob 8 q_t [.ref q_t_strength, .ref q_t_barred, .ref q_t_weights, .int t_count], aZ E.Z q_t_barred 20 t_barred] 0 0 11 [(0, .ref q_t), (1, .int p0), (2, .int (bI p1))] [.int (bI r1)]
  refine g_ifb_eq C0 (tgt := 20) dX8_changeBarred_11 (by decide) (fun c2 => ?_) (fun c2 => ?_)
  · replace hw := hw.1 c2
    refine g_iconst C0 (v := (-1)) dX8_changeBarred_20 (by decide) ?_
    exact g_iret C0 R1 dX8_changeBarred_21 ((-1), t_barred) rfl hw [0, 1] (by decide) rfl (by decide) (by decide)
  · replace hw := hw.2 c2
    refine g_iload_n C0 dX8_changeBarred_14 1 rfl ?_
    refine g_bipush C0 (v := 20) dX8_changeBarred_15 (by decide) ?_
    refine g_icmp_lt C0 (tgt := 22) dX8_changeBarred_17 (by decide) (fun c3 => ?_) (fun c3 => ?_)
    · replace hw := hw.1 c3
      refine g_aload_n C0 dX8_changeBarred_22 0 rfl ?_
      refine g_get C0 dX8_changeBarred_23 0 rfl 1 rfl rfl hinX8 (by decide) (List.mem_of_getElem? (i := 2) rfl) rfl ?_
      refine g_iload_n C0 dX8_changeBarred_26 1 rfl ?_
      obtain ⟨h4, hw⟩ := hw
      refine g_zald C0 (f := t_barred) dX8_changeBarred_27 1 rfl h4 ?_
      refine wj1_go (P := fun (w5 : Bool) => G X E 4 [ob 8 q_t [.ref q_t_strength, .ref q_t_barred, .ref q_t_weights, .int t_count], aZ E.Z q_t_barred 20 t_barred] 0 0 36 [(0, .ref q_t), (1, .int p0), (2, .int (bI p1))] [.int (bI w5)]) hw (fun w5 hw => ?_) (fun J6 hJ6 hw => ?_)
      · refine g_istore_n C0 (lv2 := [(3, .int (bI w5)), (0, .ref q_t), (1, .int p0), (2, .int (bI p1))]) dX8_changeBarred_36 (by decide) rfl ?_
        refine g_aload_n C0 dX8_changeBarred_37 1 rfl ?_
        refine g_get C0 dX8_changeBarred_38 0 rfl 1 rfl rfl hinX8 (by decide) (List.mem_of_getElem? (i := 2) rfl) rfl ?_
        refine g_iload_n C0 dX8_changeBarred_41 2 rfl ?_
        refine g_iload_n C0 dX8_changeBarred_42 3 rfl ?_
        obtain ⟨h7, hw⟩ := hw
        refine g_zast C0 (f := t_barred) (b := p1) (ws2 := [ob 8 q_t [.ref q_t_strength, .ref q_t_barred, .ref q_t_weights, .int t_count], aZ E.Z q_t_barred 20 (updB t_barred (Int32.toNatClampNeg p0) p1)]) dX8_changeBarred_43 1 rfl h7 rfl ?_
        refine g_iload_n C0 dX8_changeBarred_44 0 rfl ?_
        exact g_iret C0 R1 dX8_changeBarred_45 (bI w5, updB t_barred (Int32.toNatClampNeg p0) p1) rfl hw [0, 1] (by decide) rfl (by decide) (by decide)
      · refine g_ifb_eq C0 (tgt := 35) dX8_changeBarred_28 (by decide) (fun c8 => ?_) (fun c8 => ?_)
        · replace hw := hw.1 c8
          refine g_iconst C0 (v := 0) dX8_changeBarred_35 (by decide) ?_
          exact hJ6 _ hw
        · replace hw := hw.2 c8
          refine g_iconst C0 (v := 1) dX8_changeBarred_31 (by decide) ?_
          refine g_goto C0 (tgt := 36) dX8_changeBarred_32 (by decide) ?_
          exact hJ6 _ hw
    · replace hw := hw.2 c3
      refine g_iconst C0 (v := (-1)) dX8_changeBarred_20 (by decide) ?_
      exact g_iret C0 R1 dX8_changeBarred_21 ((-1), t_barred) rfl hw [0, 1] (by decide) rfl (by decide) (by decide)
def w_X8_kept (t_count : Int32) (t_barred : Nat → Bool) (Q : Int32 → Prop) : Prop := ∃ n11 : Nat, wL2 (fun (K3 : Int32 → Int32 → Prop) (x1_1 : Int32) (x2_2 : Int32) => (t_count ≤ x2_2 → Q x1_1) ∧ (¬ t_count ≤ x2_2 → vp_in x2_2 20 ∧ (wj1 (fun (J7 : Int32 → Prop) => (t_barred (Int32.toNatClampNeg x2_2) = true → J7 x1_1) ∧ (t_barred (Int32.toNatClampNeg x2_2) = false → ∀ x1_10 : Int32, x1_10 = (x1_1 + 1) → (J7 x1_10))) (fun (x1_6 : Int32) => ∀ x2_8 : Int32, x2_8 = (x2_2 + 1) → (K3 x1_6 x2_8))))) n11 0 0
theorem ddV_X8_kept : yX8_kept.cls = RX8 ∧ yX8_kept.cls ≠ "java/lang/invoke/MethodHandle" ∧ yX8_kept.cls ≠ "java/lang/invoke/VarHandle" ∧ (parseMethodDescriptor yX8_kept.desc).map (fun d => d.parameters.length) = some 0 := by decide +kernel
set_option maxHeartbeats 4000000 in
set_option maxRecDepth 100000 in
theorem c_X8_kept (l : Launch) (E : gE) (q_t q_t_strength q_t_barred q_t_weights : Nat) (t_count : Int32) (t_barred : Nat → Bool) (Q : Int32 → Prop) (hw : w_X8_kept t_count t_barred Q) : Ct l E yX8_kept wsX8_kept { frames := 0, cells := 0, slots := 0, locals := 0 } [.ref q_t] [ob 8 q_t [.ref q_t_strength, .ref q_t_barred, .ref q_t_weights, .int t_count], aZ E.Z q_t_barred 20 t_barred] (S := Int32) (fun u => some (.int u)) (fun u => Q u) (fun u => [ob 8 q_t [.ref q_t_strength, .ref q_t_barred, .ref q_t_weights, .int t_count], aZ E.Z q_t_barred 20 t_barred]) := by
  unfold w_X8_kept at hw
  have hinX8 : ∀ w ∈ wsX80, w ∈ wsX8_kept := fun _ h => List.mem_cons_of_mem _ (List.mem_append_right _ h)
  refine g_start (cc := cX8_kept) (nL := 3) (own := RX8) (ret := (some .int)) rfl (by decide) rfl (Nat.le_of_ble_eq_true rfl) (lv0 := [(0, .ref q_t)]) rfl (fun X C0 R1 => ?_)
  refine g_iconst C0 (v := 0) dX8_kept_0 (by decide) ?_
  refine g_istore_n C0 (lv2 := [(1, .int 0), (0, .ref q_t)]) dX8_kept_1 (by decide) rfl ?_
  refine g_iconst C0 (v := 0) dX8_kept_2 (by decide) ?_
  refine g_istore_n C0 (lv2 := [(2, .int 0), (1, .int 0), (0, .ref q_t)]) dX8_kept_3 (by decide) rfl ?_
  refine g_lv [2, 1, 0] (lv2 := [(0, .ref q_t), (1, .int 0), (2, .int 0)]) rfl ?_
  obtain ⟨n11, hw⟩ := hw
  refine wL2_go (P := fun (x1_1 : Int32) (x2_2 : Int32) => G X E 3 [ob 8 q_t [.ref q_t_strength, .ref q_t_barred, .ref q_t_weights, .int t_count], aZ E.Z q_t_barred 20 t_barred] 0 0 4 [(0, .ref q_t), (1, .int x1_1), (2, .int x2_2)] []) (fun K3 hK3 x1_1 x2_2 hw => ?_) n11 _ _ hw
  refine g_iload_n C0 dX8_kept_4 2 rfl ?_
  refine g_aload_n C0 dX8_kept_5 0 rfl ?_
  refine g_get C0 dX8_kept_6 0 rfl 3 rfl rfl hinX8 (by decide) (List.mem_of_getElem? (i := 1) rfl) rfl ?_
  refine g_icmp_ge C0 (tgt := 30) dX8_kept_9 (by decide) (fun c4 => ?_) (fun c4 => ?_)
  · replace hw := hw.1 c4
    refine g_iload_n C0 dX8_kept_30 1 rfl ?_
    exact g_iret C0 R1 dX8_kept_31 x1_1 rfl hw [0, 1] (by decide) rfl (by decide) (by decide)
  · replace hw := hw.2 c4
    refine g_aload_n C0 dX8_kept_12 0 rfl ?_
    refine g_get C0 dX8_kept_13 0 rfl 1 rfl rfl hinX8 (by decide) (List.mem_of_getElem? (i := 2) rfl) rfl ?_
    refine g_iload_n C0 dX8_kept_16 2 rfl ?_
    obtain ⟨h5, hw⟩ := hw
    refine g_zald C0 (f := t_barred) dX8_kept_17 1 rfl h5 ?_
    refine wj1_go (P := fun (x1_6 : Int32) => G X E 3 [ob 8 q_t [.ref q_t_strength, .ref q_t_barred, .ref q_t_weights, .int t_count], aZ E.Z q_t_barred 20 t_barred] 0 0 24 [(0, .ref q_t), (1, .int x1_6), (2, .int x2_2)] []) hw (fun x1_6 hw => ?_) (fun J7 hJ7 hw => ?_)
    · obtain ⟨x2_8, ex2_8⟩ : ∃ y : Int32, y = x2_2 + 1 := ⟨_, rfl⟩
      replace hw := hw x2_8 ex2_8
      refine g_iinc C0 (v := x2_8) (lv2 := [(2, .int x2_8), (0, .ref q_t), (1, .int x1_6)]) dX8_kept_24 2 rfl (by rw [ex2_8]; rfl) (by decide) rfl ?_
      refine g_goto C0 (tgt := 4) dX8_kept_27 (by decide) ?_
      refine g_lv [1, 2, 0] (lv2 := [(0, .ref q_t), (1, .int x1_6), (2, .int x2_8)]) rfl ?_
      exact hK3 _ _ hw
    · refine g_ifb_ne C0 (tgt := 24) dX8_kept_18 (by decide) (fun c9 => ?_) (fun c9 => ?_)
      · replace hw := hw.1 c9
        exact hJ7 _ hw
      · replace hw := hw.2 c9
        obtain ⟨x1_10, ex1_10⟩ : ∃ y : Int32, y = x1_1 + 1 := ⟨_, rfl⟩
        replace hw := hw x1_10 ex1_10
        refine g_iinc C0 (v := x1_10) (lv2 := [(1, .int x1_10), (0, .ref q_t), (2, .int x2_2)]) dX8_kept_21 1 rfl (by rw [ex1_10]; rfl) (by decide) rfl ?_
        refine g_lv [1, 0, 2] (lv2 := [(0, .ref q_t), (1, .int x1_10), (2, .int x2_2)]) rfl ?_
        exact hJ7 _ hw
def w_X8_sum (t_count : Int32) (t_barred : Nat → Bool) (t_strength : Nat → Int32) (Q : Int64 → Prop) : Prop := ∃ n12 : Nat, wL2 (fun (K3 : Int64 → Int32 → Prop) (x1_1 : Int64) (x3_2 : Int32) => (t_count ≤ x3_2 → Q x1_1) ∧ (¬ t_count ≤ x3_2 → vp_in x3_2 20 ∧ (wj1 (fun (J7 : Int64 → Prop) => (t_barred (Int32.toNatClampNeg x3_2) = true → J7 x1_1) ∧ (t_barred (Int32.toNatClampNeg x3_2) = false → vp_in x3_2 20 ∧ (∀ x1_11 : Int64, x1_11 = (x1_1 + (Int32.toInt64 (t_strength (Int32.toNatClampNeg x3_2)))) → (J7 x1_11)))) (fun (x1_6 : Int64) => ∀ x3_8 : Int32, x3_8 = (x3_2 + 1) → (K3 x1_6 x3_8))))) n12 0 0
theorem ddV_X8_sum : yX8_sum.cls = RX8 ∧ yX8_sum.cls ≠ "java/lang/invoke/MethodHandle" ∧ yX8_sum.cls ≠ "java/lang/invoke/VarHandle" ∧ (parseMethodDescriptor yX8_sum.desc).map (fun d => d.parameters.length) = some 0 := by decide +kernel
set_option maxHeartbeats 4000000 in
set_option maxRecDepth 100000 in
theorem c_X8_sum (l : Launch) (E : gE) (q_t q_t_strength q_t_barred q_t_weights : Nat) (t_count : Int32) (t_barred : Nat → Bool) (t_strength : Nat → Int32) (Q : Int64 → Prop) (hw : w_X8_sum t_count t_barred t_strength Q) : Ct l E yX8_sum wsX8_sum { frames := 0, cells := 0, slots := 0, locals := 0 } [.ref q_t] [ob 8 q_t [.ref q_t_strength, .ref q_t_barred, .ref q_t_weights, .int t_count], aZ E.Z q_t_barred 20 t_barred, aI E.I q_t_strength 20 t_strength] (S := Int64) (fun u => some (.long u)) (fun u => Q u) (fun u => [ob 8 q_t [.ref q_t_strength, .ref q_t_barred, .ref q_t_weights, .int t_count], aZ E.Z q_t_barred 20 t_barred, aI E.I q_t_strength 20 t_strength]) := by
  unfold w_X8_sum at hw
  have hinX8 : ∀ w ∈ wsX80, w ∈ wsX8_sum := fun _ h => List.mem_cons_of_mem _ (List.mem_append_right _ h)
  refine g_start (cc := cX8_sum) (nL := 4) (own := RX8) (ret := (some .long)) rfl (by decide) rfl (Nat.le_of_ble_eq_true rfl) (lv0 := [(0, .ref q_t)]) rfl (fun X C0 R1 => ?_)
  refine g_lconst C0 (v := 0) dX8_sum_0 (by decide) ?_
  refine g_lstore_n C0 (lv2 := [(1, .long 0), (0, .ref q_t)]) dX8_sum_1 (by decide) rfl ?_
  refine g_iconst C0 (v := 0) dX8_sum_2 (by decide) ?_
  refine g_istore_n C0 (lv2 := [(3, .int 0), (1, .long 0), (0, .ref q_t)]) dX8_sum_3 (by decide) rfl ?_
  refine g_lv [2, 1, 0] (lv2 := [(0, .ref q_t), (1, .long 0), (3, .int 0)]) rfl ?_
  obtain ⟨n12, hw⟩ := hw
  refine wL2_go (P := fun (x1_1 : Int64) (x3_2 : Int32) => G X E 4 [ob 8 q_t [.ref q_t_strength, .ref q_t_barred, .ref q_t_weights, .int t_count], aZ E.Z q_t_barred 20 t_barred, aI E.I q_t_strength 20 t_strength] 0 0 4 [(0, .ref q_t), (1, .long x1_1), (3, .int x3_2)] []) (fun K3 hK3 x1_1 x3_2 hw => ?_) n12 _ _ hw
  refine g_iload_n C0 dX8_sum_4 2 rfl ?_
  refine g_aload_n C0 dX8_sum_5 0 rfl ?_
  refine g_get C0 dX8_sum_6 0 rfl 3 rfl rfl hinX8 (by decide) (List.mem_of_getElem? (i := 1) rfl) rfl ?_
  refine g_icmp_ge C0 (tgt := 37) dX8_sum_9 (by decide) (fun c4 => ?_) (fun c4 => ?_)
  · replace hw := hw.1 c4
    refine g_lload_n C0 dX8_sum_37 1 rfl ?_
    exact g_lret C0 R1 dX8_sum_38 x1_1 rfl hw [0, 1, 2] (by decide) rfl (by decide) (by decide)
  · replace hw := hw.2 c4
    refine g_aload_n C0 dX8_sum_12 0 rfl ?_
    refine g_get C0 dX8_sum_13 0 rfl 1 rfl rfl hinX8 (by decide) (List.mem_of_getElem? (i := 2) rfl) rfl ?_
    refine g_iload_n C0 dX8_sum_16 2 rfl ?_
    obtain ⟨h5, hw⟩ := hw
    refine g_zald C0 (f := t_barred) dX8_sum_17 1 rfl h5 ?_
    refine wj1_go (P := fun (x1_6 : Int64) => G X E 4 [ob 8 q_t [.ref q_t_strength, .ref q_t_barred, .ref q_t_weights, .int t_count], aZ E.Z q_t_barred 20 t_barred, aI E.I q_t_strength 20 t_strength] 0 0 31 [(0, .ref q_t), (1, .long x1_6), (3, .int x3_2)] []) hw (fun x1_6 hw => ?_) (fun J7 hJ7 hw => ?_)
    · obtain ⟨x3_8, ex3_8⟩ : ∃ y : Int32, y = x3_2 + 1 := ⟨_, rfl⟩
      replace hw := hw x3_8 ex3_8
      refine g_iinc C0 (v := x3_8) (lv2 := [(3, .int x3_8), (0, .ref q_t), (1, .long x1_6)]) dX8_sum_31 2 rfl (by rw [ex3_8]; rfl) (by decide) rfl ?_
      refine g_goto C0 (tgt := 4) dX8_sum_34 (by decide) ?_
      refine g_lv [1, 2, 0] (lv2 := [(0, .ref q_t), (1, .long x1_6), (3, .int x3_8)]) rfl ?_
      exact hK3 _ _ hw
    · refine g_ifb_ne C0 (tgt := 31) dX8_sum_18 (by decide) (fun c9 => ?_) (fun c9 => ?_)
      · replace hw := hw.1 c9
        exact hJ7 _ hw
      · replace hw := hw.2 c9
        refine g_lload_n C0 dX8_sum_21 1 rfl ?_
        refine g_aload_n C0 dX8_sum_22 0 rfl ?_
        refine g_get C0 dX8_sum_23 0 rfl 0 rfl rfl hinX8 (by decide) (List.mem_of_getElem? (i := 3) rfl) rfl ?_
        refine g_iload_n C0 dX8_sum_26 2 rfl ?_
        obtain ⟨h10, hw⟩ := hw
        refine g_iald C0 (cA := E.I) dX8_sum_27 2 rfl h10 ?_
        refine g_i2l C0 dX8_sum_28 ?_
        refine g_ladd C0 dX8_sum_29 ?_
        refine g_topl (fun x1_11 ex1_11 => ?_)
        replace hw := hw x1_11 ex1_11
        refine g_lstore_n C0 (lv2 := [(1, .long x1_11), (0, .ref q_t), (3, .int x3_2)]) dX8_sum_30 (by decide) rfl ?_
        refine g_lv [1, 0, 2] (lv2 := [(0, .ref q_t), (1, .long x1_11), (3, .int x3_2)]) rfl ?_
        exact hJ7 _ hw
def w_X8_tellMean (t_count : Int32) (t_barred : Nat → Bool) (t_strength : Nat → Int32) (a0_upper : Int64) (a0_lower : Int64) (Q : Int64 → Int64 → Prop) : Prop := w_X8_sum t_count t_barred t_strength (fun (r1 : Int64) => w_X8_kept t_count t_barred (fun (r2 : Int32) => w_X2_reduce r1 (Int32.toInt64 r2) a0_upper a0_lower (fun (a0_upper_3 : Int64) (a0_lower_4 : Int64) => Q a0_upper_3 a0_lower_4)))
theorem ddV_X8_tellMean : yX8_tellMean.cls = RX8 ∧ yX8_tellMean.cls ≠ "java/lang/invoke/MethodHandle" ∧ yX8_tellMean.cls ≠ "java/lang/invoke/VarHandle" ∧ (parseMethodDescriptor yX8_tellMean.desc).map (fun d => d.parameters.length) = some 1 := by decide +kernel
set_option maxHeartbeats 4000000 in
set_option maxRecDepth 100000 in
theorem c_X8_tellMean (l : Launch) (E : gE) (q_t q_a0 q_t_strength q_t_barred q_t_weights : Nat) (t_count : Int32) (t_barred : Nat → Bool) (t_strength : Nat → Int32) (a0_upper : Int64) (a0_lower : Int64) (Q : Int64 → Int64 → Prop) (hw : w_X8_tellMean t_count t_barred t_strength a0_upper a0_lower Q) : Ct l E yX8_tellMean wsX8_tellMean { frames := 2, cells := 0, slots := 0, locals := 56 } [.ref q_t, .ref q_a0] [ob 8 q_t [.ref q_t_strength, .ref q_t_barred, .ref q_t_weights, .int t_count], aZ E.Z q_t_barred 20 t_barred, aI E.I q_t_strength 20 t_strength, ob 2 q_a0 [.long a0_upper, .long a0_lower]] (S := Int64 × Int64) (fun _ => none) (fun u => Q u.1 u.2) (fun u => [ob 8 q_t [.ref q_t_strength, .ref q_t_barred, .ref q_t_weights, .int t_count], aZ E.Z q_t_barred 20 t_barred, aI E.I q_t_strength 20 t_strength, ob 2 q_a0 [.long u.1, .long u.2]]) := by
  unfold w_X8_tellMean at hw
  refine g_start (cc := cX8_tellMean) (nL := 2) (own := RX8) (ret := none) rfl (by decide) rfl (Nat.le_of_ble_eq_true rfl) (lv0 := [(0, .ref q_t), (1, .ref q_a0)]) rfl (fun X C0 R1 => ?_)
  refine g_aload_n C0 dX8_tellMean_0 1 rfl ?_
  refine g_aload_n C0 dX8_tellMean_1 0 rfl ?_
  refine g_callV C0 (q0 := 0) (ci := 8) (c_X8_sum l E q_t q_t_strength q_t_barred q_t_weights t_count t_barred t_strength _ hw) dX8_tellMean_2 gX8_tellMean_X8_sum rfl ddV_X8_sum rfl (by decide) (by decide) rfl (Nat.le_of_ble_eq_true rfl) [0, 1, 2] [3] rfl (wr := [ob 2 q_a0 [.long a0_upper, .long a0_lower]]) rfl (by decide) (by decide) (by decide) rfl rfl (fun u hw => ?_)
  obtain ⟨r1, hu_⟩ : ∃ z, z = u := ⟨_, rfl⟩
  subst hu_
  try dsimp only at hw
  show G X E 2 [ob 2 q_a0 [.long a0_upper, .long a0_lower], ob 8 q_t [.ref q_t_strength, .ref q_t_barred, .ref q_t_weights, .int t_count], aZ E.Z q_t_barred 20 t_barred, aI E.I q_t_strength 20 t_strength] 0 0 5 [(0, .ref q_t), (1, .ref q_a0)] [.long r1, .ref q_a0]
  refine g_aload_n C0 dX8_tellMean_5 0 rfl ?_
  refine g_callV C0 (q0 := 1) (ci := 8) (c_X8_kept l E q_t q_t_strength q_t_barred q_t_weights t_count t_barred _ hw) dX8_tellMean_6 gX8_tellMean_X8_kept rfl ddV_X8_kept rfl (by decide) (by decide) rfl (Nat.le_of_ble_eq_true rfl) [1, 2] [0, 3] rfl (wr := [ob 2 q_a0 [.long a0_upper, .long a0_lower], aI E.I q_t_strength 20 t_strength]) rfl (by decide) (by decide) (by decide) rfl rfl (fun u hw => ?_)
  obtain ⟨r2, hu_⟩ : ∃ z, z = u := ⟨_, rfl⟩
  subst hu_
  try dsimp only at hw
  show G X E 2 [ob 2 q_a0 [.long a0_upper, .long a0_lower], aI E.I q_t_strength 20 t_strength, ob 8 q_t [.ref q_t_strength, .ref q_t_barred, .ref q_t_weights, .int t_count], aZ E.Z q_t_barred 20 t_barred] 0 0 9 [(0, .ref q_t), (1, .ref q_a0)] [.int r2, .long r1, .ref q_a0]
  refine g_i2l C0 dX8_tellMean_9 ?_
  refine g_callV C0 (q0 := 0) (ci := 2) (c_X2_reduce l E q_a0 r1 (Int32.toInt64 r2) a0_upper a0_lower _ hw) dX8_tellMean_10 gX8_tellMean_X2_reduce rfl ddV_X2_reduce rfl (by decide) (by decide) rfl (Nat.le_of_ble_eq_true rfl) [0] [1, 2, 3] rfl (wr := [aI E.I q_t_strength 20 t_strength, ob 8 q_t [.ref q_t_strength, .ref q_t_barred, .ref q_t_weights, .int t_count], aZ E.Z q_t_barred 20 t_barred]) rfl (by decide) (by decide) (by decide) rfl rfl (fun u hw => ?_)
  obtain ⟨a0_upper_3, a0_lower_4⟩ := u
  try dsimp only at hw
  show G X E 2 [aI E.I q_t_strength 20 t_strength, ob 8 q_t [.ref q_t_strength, .ref q_t_barred, .ref q_t_weights, .int t_count], aZ E.Z q_t_barred 20 t_barred, ob 2 q_a0 [.long a0_upper_3, .long a0_lower_4]] 0 0 13 [(0, .ref q_t), (1, .ref q_a0)] []
  exact g_vret C0 R1 dX8_tellMean_13 (a0_upper_3, a0_lower_4) rfl hw [1, 2, 0, 3] (by decide) rfl (by decide) (by decide)
def w_X8_sumOfSquares (t_count : Int32) (t_barred : Nat → Bool) (t_strength : Nat → Int32) (Q : Int64 → Prop) : Prop := ∃ n13 : Nat, wL2 (fun (K3 : Int64 → Int32 → Prop) (x1_1 : Int64) (x3_2 : Int32) => (t_count ≤ x3_2 → Q x1_1) ∧ (¬ t_count ≤ x3_2 → vp_in x3_2 20 ∧ (wj1 (fun (J7 : Int64 → Prop) => (t_barred (Int32.toNatClampNeg x3_2) = true → J7 x1_1) ∧ (t_barred (Int32.toNatClampNeg x3_2) = false → vp_in x3_2 20 ∧ (vp_in x3_2 20 ∧ (∀ x1_12 : Int64, x1_12 = (x1_1 + ((Int32.toInt64 (t_strength (Int32.toNatClampNeg x3_2))) * (Int32.toInt64 (t_strength (Int32.toNatClampNeg x3_2))))) → (J7 x1_12))))) (fun (x1_6 : Int64) => ∀ x3_8 : Int32, x3_8 = (x3_2 + 1) → (K3 x1_6 x3_8))))) n13 0 0
theorem ddV_X8_sumOfSquares : yX8_sumOfSquares.cls = RX8 ∧ yX8_sumOfSquares.cls ≠ "java/lang/invoke/MethodHandle" ∧ yX8_sumOfSquares.cls ≠ "java/lang/invoke/VarHandle" ∧ (parseMethodDescriptor yX8_sumOfSquares.desc).map (fun d => d.parameters.length) = some 0 := by decide +kernel
set_option maxHeartbeats 4000000 in
set_option maxRecDepth 100000 in
theorem c_X8_sumOfSquares (l : Launch) (E : gE) (q_t q_t_strength q_t_barred q_t_weights : Nat) (t_count : Int32) (t_barred : Nat → Bool) (t_strength : Nat → Int32) (Q : Int64 → Prop) (hw : w_X8_sumOfSquares t_count t_barred t_strength Q) : Ct l E yX8_sumOfSquares wsX8_sumOfSquares { frames := 0, cells := 0, slots := 0, locals := 0 } [.ref q_t] [ob 8 q_t [.ref q_t_strength, .ref q_t_barred, .ref q_t_weights, .int t_count], aZ E.Z q_t_barred 20 t_barred, aI E.I q_t_strength 20 t_strength] (S := Int64) (fun u => some (.long u)) (fun u => Q u) (fun u => [ob 8 q_t [.ref q_t_strength, .ref q_t_barred, .ref q_t_weights, .int t_count], aZ E.Z q_t_barred 20 t_barred, aI E.I q_t_strength 20 t_strength]) := by
  unfold w_X8_sumOfSquares at hw
  have hinX8 : ∀ w ∈ wsX80, w ∈ wsX8_sumOfSquares := fun _ h => List.mem_cons_of_mem _ (List.mem_append_right _ h)
  refine g_start (cc := cX8_sumOfSquares) (nL := 4) (own := RX8) (ret := (some .long)) rfl (by decide) rfl (Nat.le_of_ble_eq_true rfl) (lv0 := [(0, .ref q_t)]) rfl (fun X C0 R1 => ?_)
  refine g_lconst C0 (v := 0) dX8_sumOfSquares_0 (by decide) ?_
  refine g_lstore_n C0 (lv2 := [(1, .long 0), (0, .ref q_t)]) dX8_sumOfSquares_1 (by decide) rfl ?_
  refine g_iconst C0 (v := 0) dX8_sumOfSquares_2 (by decide) ?_
  refine g_istore_n C0 (lv2 := [(3, .int 0), (1, .long 0), (0, .ref q_t)]) dX8_sumOfSquares_3 (by decide) rfl ?_
  refine g_lv [2, 1, 0] (lv2 := [(0, .ref q_t), (1, .long 0), (3, .int 0)]) rfl ?_
  obtain ⟨n13, hw⟩ := hw
  refine wL2_go (P := fun (x1_1 : Int64) (x3_2 : Int32) => G X E 4 [ob 8 q_t [.ref q_t_strength, .ref q_t_barred, .ref q_t_weights, .int t_count], aZ E.Z q_t_barred 20 t_barred, aI E.I q_t_strength 20 t_strength] 0 0 4 [(0, .ref q_t), (1, .long x1_1), (3, .int x3_2)] []) (fun K3 hK3 x1_1 x3_2 hw => ?_) n13 _ _ hw
  refine g_iload_n C0 dX8_sumOfSquares_4 2 rfl ?_
  refine g_aload_n C0 dX8_sumOfSquares_5 0 rfl ?_
  refine g_get C0 dX8_sumOfSquares_6 0 rfl 3 rfl rfl hinX8 (by decide) (List.mem_of_getElem? (i := 1) rfl) rfl ?_
  refine g_icmp_ge C0 (tgt := 45) dX8_sumOfSquares_9 (by decide) (fun c4 => ?_) (fun c4 => ?_)
  · replace hw := hw.1 c4
    refine g_lload_n C0 dX8_sumOfSquares_45 1 rfl ?_
    exact g_lret C0 R1 dX8_sumOfSquares_46 x1_1 rfl hw [0, 1, 2] (by decide) rfl (by decide) (by decide)
  · replace hw := hw.2 c4
    refine g_aload_n C0 dX8_sumOfSquares_12 0 rfl ?_
    refine g_get C0 dX8_sumOfSquares_13 0 rfl 1 rfl rfl hinX8 (by decide) (List.mem_of_getElem? (i := 2) rfl) rfl ?_
    refine g_iload_n C0 dX8_sumOfSquares_16 2 rfl ?_
    obtain ⟨h5, hw⟩ := hw
    refine g_zald C0 (f := t_barred) dX8_sumOfSquares_17 1 rfl h5 ?_
    refine wj1_go (P := fun (x1_6 : Int64) => G X E 4 [ob 8 q_t [.ref q_t_strength, .ref q_t_barred, .ref q_t_weights, .int t_count], aZ E.Z q_t_barred 20 t_barred, aI E.I q_t_strength 20 t_strength] 0 0 39 [(0, .ref q_t), (1, .long x1_6), (3, .int x3_2)] []) hw (fun x1_6 hw => ?_) (fun J7 hJ7 hw => ?_)
    · obtain ⟨x3_8, ex3_8⟩ : ∃ y : Int32, y = x3_2 + 1 := ⟨_, rfl⟩
      replace hw := hw x3_8 ex3_8
      refine g_iinc C0 (v := x3_8) (lv2 := [(3, .int x3_8), (0, .ref q_t), (1, .long x1_6)]) dX8_sumOfSquares_39 2 rfl (by rw [ex3_8]; rfl) (by decide) rfl ?_
      refine g_goto C0 (tgt := 4) dX8_sumOfSquares_42 (by decide) ?_
      refine g_lv [1, 2, 0] (lv2 := [(0, .ref q_t), (1, .long x1_6), (3, .int x3_8)]) rfl ?_
      exact hK3 _ _ hw
    · refine g_ifb_ne C0 (tgt := 39) dX8_sumOfSquares_18 (by decide) (fun c9 => ?_) (fun c9 => ?_)
      · replace hw := hw.1 c9
        exact hJ7 _ hw
      · replace hw := hw.2 c9
        refine g_lload_n C0 dX8_sumOfSquares_21 1 rfl ?_
        refine g_aload_n C0 dX8_sumOfSquares_22 0 rfl ?_
        refine g_get C0 dX8_sumOfSquares_23 0 rfl 0 rfl rfl hinX8 (by decide) (List.mem_of_getElem? (i := 3) rfl) rfl ?_
        refine g_iload_n C0 dX8_sumOfSquares_26 2 rfl ?_
        obtain ⟨h10, hw⟩ := hw
        refine g_iald C0 (cA := E.I) dX8_sumOfSquares_27 2 rfl h10 ?_
        refine g_i2l C0 dX8_sumOfSquares_28 ?_
        refine g_aload_n C0 dX8_sumOfSquares_29 0 rfl ?_
        refine g_get C0 dX8_sumOfSquares_30 0 rfl 0 rfl rfl hinX8 (by decide) (List.mem_of_getElem? (i := 3) rfl) rfl ?_
        refine g_iload_n C0 dX8_sumOfSquares_33 2 rfl ?_
        obtain ⟨h11, hw⟩ := hw
        refine g_iald C0 (cA := E.I) dX8_sumOfSquares_34 2 rfl h11 ?_
        refine g_i2l C0 dX8_sumOfSquares_35 ?_
        refine g_lmul C0 dX8_sumOfSquares_36 ?_
        refine g_ladd C0 dX8_sumOfSquares_37 ?_
        refine g_topl (fun x1_12 ex1_12 => ?_)
        replace hw := hw x1_12 ex1_12
        refine g_lstore_n C0 (lv2 := [(1, .long x1_12), (0, .ref q_t), (3, .int x3_2)]) dX8_sumOfSquares_38 (by decide) rfl ?_
        refine g_lv [1, 0, 2] (lv2 := [(0, .ref q_t), (1, .long x1_12), (3, .int x3_2)]) rfl ?_
        exact hJ7 _ hw
def w_X8_tellSpread (t_count : Int32) (t_barred : Nat → Bool) (t_strength : Nat → Int32) (a0_upper : Int64) (a0_lower : Int64) (Q : Int64 → Int64 → Prop) : Prop := w_X8_kept t_count t_barred (fun (r1 : Int32) => ∀ x2_2 : Int64, x2_2 = (Int32.toInt64 r1) → (w_X8_sum t_count t_barred t_strength (fun (r3 : Int64) => w_X8_sumOfSquares t_count t_barred t_strength (fun (r4 : Int64) => w_X2_reduce ((x2_2 * r4) - (r3 * r3)) (x2_2 * x2_2) a0_upper a0_lower (fun (a0_upper_5 : Int64) (a0_lower_6 : Int64) => Q a0_upper_5 a0_lower_6)))))
theorem ddV_X8_tellSpread : yX8_tellSpread.cls = RX8 ∧ yX8_tellSpread.cls ≠ "java/lang/invoke/MethodHandle" ∧ yX8_tellSpread.cls ≠ "java/lang/invoke/VarHandle" ∧ (parseMethodDescriptor yX8_tellSpread.desc).map (fun d => d.parameters.length) = some 1 := by decide +kernel
set_option maxHeartbeats 4000000 in
set_option maxRecDepth 100000 in
theorem c_X8_tellSpread (l : Launch) (E : gE) (q_t q_a0 q_t_strength q_t_barred q_t_weights : Nat) (t_count : Int32) (t_barred : Nat → Bool) (t_strength : Nat → Int32) (a0_upper : Int64) (a0_lower : Int64) (Q : Int64 → Int64 → Prop) (hw : w_X8_tellSpread t_count t_barred t_strength a0_upper a0_lower Q) : Ct l E yX8_tellSpread wsX8_tellSpread { frames := 2, cells := 0, slots := 0, locals := 56 } [.ref q_t, .ref q_a0] [ob 8 q_t [.ref q_t_strength, .ref q_t_barred, .ref q_t_weights, .int t_count], aZ E.Z q_t_barred 20 t_barred, aI E.I q_t_strength 20 t_strength, ob 2 q_a0 [.long a0_upper, .long a0_lower]] (S := Int64 × Int64) (fun _ => none) (fun u => Q u.1 u.2) (fun u => [ob 8 q_t [.ref q_t_strength, .ref q_t_barred, .ref q_t_weights, .int t_count], aZ E.Z q_t_barred 20 t_barred, aI E.I q_t_strength 20 t_strength, ob 2 q_a0 [.long u.1, .long u.2]]) := by
  unfold w_X8_tellSpread at hw
  refine g_start (cc := cX8_tellSpread) (nL := 6) (own := RX8) (ret := none) rfl (by decide) rfl (Nat.le_of_ble_eq_true rfl) (lv0 := [(0, .ref q_t), (1, .ref q_a0)]) rfl (fun X C0 R1 => ?_)
  refine g_aload_n C0 dX8_tellSpread_0 0 rfl ?_
  refine g_callV C0 (q0 := 0) (ci := 8) (c_X8_kept l E q_t q_t_strength q_t_barred q_t_weights t_count t_barred _ hw) dX8_tellSpread_1 gX8_tellSpread_X8_kept rfl ddV_X8_kept rfl (by decide) (by decide) rfl (Nat.le_of_ble_eq_true rfl) [0, 1] [2, 3] rfl (wr := [aI E.I q_t_strength 20 t_strength, ob 2 q_a0 [.long a0_upper, .long a0_lower]]) rfl (by decide) (by decide) (by decide) rfl rfl (fun u hw => ?_)
  obtain ⟨r1, hu_⟩ : ∃ z, z = u := ⟨_, rfl⟩
  subst hu_
  try dsimp only at hw
  show G X E 6 [aI E.I q_t_strength 20 t_strength, ob 2 q_a0 [.long a0_upper, .long a0_lower], ob 8 q_t [.ref q_t_strength, .ref q_t_barred, .ref q_t_weights, .int t_count], aZ E.Z q_t_barred 20 t_barred] 0 0 4 [(0, .ref q_t), (1, .ref q_a0)] [.int r1]
  refine g_i2l C0 dX8_tellSpread_4 ?_
  refine g_topl (fun x2_2 ex2_2 => ?_)
  replace hw := hw x2_2 ex2_2
  refine g_lstore_n C0 (lv2 := [(2, .long x2_2), (0, .ref q_t), (1, .ref q_a0)]) dX8_tellSpread_5 (by decide) rfl ?_
  refine g_aload_n C0 dX8_tellSpread_6 1 rfl ?_
  refine g_callV C0 (q0 := 2) (ci := 8) (c_X8_sum l E q_t q_t_strength q_t_barred q_t_weights t_count t_barred t_strength _ hw) dX8_tellSpread_7 gX8_tellSpread_X8_sum rfl ddV_X8_sum rfl (by decide) (by decide) rfl (Nat.le_of_ble_eq_true rfl) [2, 3, 0] [1] rfl (wr := [ob 2 q_a0 [.long a0_upper, .long a0_lower]]) rfl (by decide) (by decide) (by decide) rfl rfl (fun u hw => ?_)
  obtain ⟨r3, hu_⟩ : ∃ z, z = u := ⟨_, rfl⟩
  subst hu_
  try dsimp only at hw
  show G X E 6 [ob 2 q_a0 [.long a0_upper, .long a0_lower], ob 8 q_t [.ref q_t_strength, .ref q_t_barred, .ref q_t_weights, .int t_count], aZ E.Z q_t_barred 20 t_barred, aI E.I q_t_strength 20 t_strength] 0 0 10 [(2, .long x2_2), (0, .ref q_t), (1, .ref q_a0)] [.long r3]
  refine g_lstore C0 (lv2 := [(4, .long r3), (2, .long x2_2), (0, .ref q_t), (1, .ref q_a0)]) dX8_tellSpread_10 (by decide) rfl ?_
  refine g_aload_n C0 dX8_tellSpread_12 3 rfl ?_
  refine g_lload_n C0 dX8_tellSpread_13 1 rfl ?_
  refine g_aload_n C0 dX8_tellSpread_14 2 rfl ?_
  refine g_callV C0 (q0 := 1) (ci := 8) (c_X8_sumOfSquares l E q_t q_t_strength q_t_barred q_t_weights t_count t_barred t_strength _ hw) dX8_tellSpread_15 gX8_tellSpread_X8_sumOfSquares rfl ddV_X8_sumOfSquares rfl (by decide) (by decide) rfl (Nat.le_of_ble_eq_true rfl) [1, 2, 3] [0] rfl (wr := [ob 2 q_a0 [.long a0_upper, .long a0_lower]]) rfl (by decide) (by decide) (by decide) rfl rfl (fun u hw => ?_)
  obtain ⟨r4, hu_⟩ : ∃ z, z = u := ⟨_, rfl⟩
  subst hu_
  try dsimp only at hw
  show G X E 6 [ob 2 q_a0 [.long a0_upper, .long a0_lower], ob 8 q_t [.ref q_t_strength, .ref q_t_barred, .ref q_t_weights, .int t_count], aZ E.Z q_t_barred 20 t_barred, aI E.I q_t_strength 20 t_strength] 0 0 18 [(4, .long r3), (2, .long x2_2), (0, .ref q_t), (1, .ref q_a0)] [.long r4, .long x2_2, .ref q_a0]
  refine g_lmul C0 dX8_tellSpread_18 ?_
  refine g_lload C0 dX8_tellSpread_19 0 rfl ?_
  refine g_lload C0 dX8_tellSpread_21 0 rfl ?_
  refine g_lmul C0 dX8_tellSpread_23 ?_
  refine g_lsub C0 dX8_tellSpread_24 ?_
  refine g_lload_n C0 dX8_tellSpread_25 1 rfl ?_
  refine g_lload_n C0 dX8_tellSpread_26 1 rfl ?_
  refine g_lmul C0 dX8_tellSpread_27 ?_
  refine g_callV C0 (q0 := 0) (ci := 2) (c_X2_reduce l E q_a0 ((x2_2 * r4) - (r3 * r3)) (x2_2 * x2_2) a0_upper a0_lower _ hw) dX8_tellSpread_28 gX8_tellSpread_X2_reduce rfl ddV_X2_reduce rfl (by decide) (by decide) rfl (Nat.le_of_ble_eq_true rfl) [0] [1, 2, 3] rfl (wr := [ob 8 q_t [.ref q_t_strength, .ref q_t_barred, .ref q_t_weights, .int t_count], aZ E.Z q_t_barred 20 t_barred, aI E.I q_t_strength 20 t_strength]) rfl (by decide) (by decide) (by decide) rfl rfl (fun u hw => ?_)
  obtain ⟨a0_upper_5, a0_lower_6⟩ := u
  try dsimp only at hw
  show G X E 6 [ob 8 q_t [.ref q_t_strength, .ref q_t_barred, .ref q_t_weights, .int t_count], aZ E.Z q_t_barred 20 t_barred, aI E.I q_t_strength 20 t_strength, ob 2 q_a0 [.long a0_upper_5, .long a0_lower_6]] 0 0 31 [(4, .long r3), (2, .long x2_2), (0, .ref q_t), (1, .ref q_a0)] []
  exact g_vret C0 R1 dX8_tellSpread_31 (a0_upper_5, a0_lower_6) rfl hw [0, 1, 2, 3] (by decide) rfl (by decide) (by decide)
def w_X8_weakAmongFirst (p0 : Int32) (p1 : Int32) (t_count : Int32) (t_barred : Nat → Bool) (t_strength : Nat → Int32) (Q : Int32 → Prop) : Prop := ∃ n17 : Nat, wL3 (fun (K4 : Int32 → Int32 → Int32 → Prop) (x3_1 : Int32) (x4_2 : Int32) (x5_3 : Int32) => (t_count ≤ x5_3 → Q x4_2) ∧ (¬ t_count ≤ x5_3 → (p0 ≤ x3_1 → Q x4_2) ∧ (¬ p0 ≤ x3_1 → vp_in x5_3 20 ∧ (wj2 (fun (J10 : Int32 → Int32 → Prop) => (t_barred (Int32.toNatClampNeg x5_3) = true → J10 x3_1 x4_2) ∧ (t_barred (Int32.toNatClampNeg x5_3) = false → ∀ x3_13 : Int32, x3_13 = (x3_1 + 1) → (vp_in x5_3 20 ∧ ((p1 ≤ (t_strength (Int32.toNatClampNeg x5_3)) → J10 x3_13 x4_2) ∧ (¬ p1 ≤ (t_strength (Int32.toNatClampNeg x5_3)) → ∀ x4_16 : Int32, x4_16 = (x4_2 + 1) → (J10 x3_13 x4_16)))))) (fun (x3_8 : Int32) (x4_9 : Int32) => ∀ x5_11 : Int32, x5_11 = (x5_3 + 1) → (K4 x3_8 x4_9 x5_11)))))) n17 0 0 0
theorem ddV_X8_weakAmongFirst : yX8_weakAmongFirst.cls = RX8 ∧ yX8_weakAmongFirst.cls ≠ "java/lang/invoke/MethodHandle" ∧ yX8_weakAmongFirst.cls ≠ "java/lang/invoke/VarHandle" ∧ (parseMethodDescriptor yX8_weakAmongFirst.desc).map (fun d => d.parameters.length) = some 2 := by decide +kernel
set_option maxHeartbeats 4000000 in
set_option maxRecDepth 100000 in
theorem c_X8_weakAmongFirst (l : Launch) (E : gE) (q_t q_t_strength q_t_barred q_t_weights : Nat) (p0 : Int32) (p1 : Int32) (t_count : Int32) (t_barred : Nat → Bool) (t_strength : Nat → Int32) (Q : Int32 → Prop) (hw : w_X8_weakAmongFirst p0 p1 t_count t_barred t_strength Q) : Ct l E yX8_weakAmongFirst wsX8_weakAmongFirst { frames := 0, cells := 0, slots := 0, locals := 0 } [.ref q_t, .int p0, .int p1] [ob 8 q_t [.ref q_t_strength, .ref q_t_barred, .ref q_t_weights, .int t_count], aZ E.Z q_t_barred 20 t_barred, aI E.I q_t_strength 20 t_strength] (S := Int32) (fun u => some (.int u)) (fun u => Q u) (fun u => [ob 8 q_t [.ref q_t_strength, .ref q_t_barred, .ref q_t_weights, .int t_count], aZ E.Z q_t_barred 20 t_barred, aI E.I q_t_strength 20 t_strength]) := by
  unfold w_X8_weakAmongFirst at hw
  have hinX8 : ∀ w ∈ wsX80, w ∈ wsX8_weakAmongFirst := fun _ h => List.mem_cons_of_mem _ (List.mem_append_right _ h)
  refine g_start (cc := cX8_weakAmongFirst) (nL := 6) (own := RX8) (ret := (some .int)) rfl (by decide) rfl (Nat.le_of_ble_eq_true rfl) (lv0 := [(0, .ref q_t), (1, .int p0), (2, .int p1)]) rfl (fun X C0 R1 => ?_)
  refine g_iconst C0 (v := 0) dX8_weakAmongFirst_0 (by decide) ?_
  refine g_istore_n C0 (lv2 := [(3, .int 0), (0, .ref q_t), (1, .int p0), (2, .int p1)]) dX8_weakAmongFirst_1 (by decide) rfl ?_
  refine g_iconst C0 (v := 0) dX8_weakAmongFirst_2 (by decide) ?_
  refine g_istore C0 (lv2 := [(4, .int 0), (3, .int 0), (0, .ref q_t), (1, .int p0), (2, .int p1)]) dX8_weakAmongFirst_3 (by decide) rfl ?_
  refine g_iconst C0 (v := 0) dX8_weakAmongFirst_5 (by decide) ?_
  refine g_istore C0 (lv2 := [(5, .int 0), (4, .int 0), (3, .int 0), (0, .ref q_t), (1, .int p0), (2, .int p1)]) dX8_weakAmongFirst_6 (by decide) rfl ?_
  refine g_lv [3, 4, 5, 2, 1, 0] (lv2 := [(0, .ref q_t), (1, .int p0), (2, .int p1), (3, .int 0), (4, .int 0), (5, .int 0)]) rfl ?_
  obtain ⟨n17, hw⟩ := hw
  refine wL3_go (P := fun (x3_1 : Int32) (x4_2 : Int32) (x5_3 : Int32) => G X E 6 [ob 8 q_t [.ref q_t_strength, .ref q_t_barred, .ref q_t_weights, .int t_count], aZ E.Z q_t_barred 20 t_barred, aI E.I q_t_strength 20 t_strength] 0 0 8 [(0, .ref q_t), (1, .int p0), (2, .int p1), (3, .int x3_1), (4, .int x4_2), (5, .int x5_3)] []) (fun K4 hK4 x3_1 x4_2 x5_3 hw => ?_) n17 _ _ _ hw
  refine g_iload C0 dX8_weakAmongFirst_8 5 rfl ?_
  refine g_aload_n C0 dX8_weakAmongFirst_10 0 rfl ?_
  refine g_get C0 dX8_weakAmongFirst_11 0 rfl 3 rfl rfl hinX8 (by decide) (List.mem_of_getElem? (i := 1) rfl) rfl ?_
  refine g_icmp_ge C0 (tgt := 55) dX8_weakAmongFirst_14 (by decide) (fun c5 => ?_) (fun c5 => ?_)
  · replace hw := hw.1 c5
    refine g_iload C0 dX8_weakAmongFirst_55 4 rfl ?_
    exact g_iret C0 R1 dX8_weakAmongFirst_57 x4_2 rfl hw [0, 1, 2] (by decide) rfl (by decide) (by decide)
  · replace hw := hw.2 c5
    refine g_iload_n C0 dX8_weakAmongFirst_17 3 rfl ?_
    refine g_iload_n C0 dX8_weakAmongFirst_18 1 rfl ?_
    refine g_icmp_ge C0 (tgt := 55) dX8_weakAmongFirst_19 (by decide) (fun c6 => ?_) (fun c6 => ?_)
    · replace hw := hw.1 c6
      refine g_iload C0 dX8_weakAmongFirst_55 4 rfl ?_
      exact g_iret C0 R1 dX8_weakAmongFirst_57 x4_2 rfl hw [0, 1, 2] (by decide) rfl (by decide) (by decide)
    · replace hw := hw.2 c6
      refine g_aload_n C0 dX8_weakAmongFirst_22 0 rfl ?_
      refine g_get C0 dX8_weakAmongFirst_23 0 rfl 1 rfl rfl hinX8 (by decide) (List.mem_of_getElem? (i := 2) rfl) rfl ?_
      refine g_iload C0 dX8_weakAmongFirst_26 5 rfl ?_
      obtain ⟨h7, hw⟩ := hw
      refine g_zald C0 (f := t_barred) dX8_weakAmongFirst_28 1 rfl h7 ?_
      refine wj2_go (P := fun (x3_8 : Int32) (x4_9 : Int32) => G X E 6 [ob 8 q_t [.ref q_t_strength, .ref q_t_barred, .ref q_t_weights, .int t_count], aZ E.Z q_t_barred 20 t_barred, aI E.I q_t_strength 20 t_strength] 0 0 49 [(0, .ref q_t), (1, .int p0), (2, .int p1), (3, .int x3_8), (4, .int x4_9), (5, .int x5_3)] []) hw (fun x3_8 x4_9 hw => ?_) (fun J10 hJ10 hw => ?_)
      · obtain ⟨x5_11, ex5_11⟩ : ∃ y : Int32, y = x5_3 + 1 := ⟨_, rfl⟩
        replace hw := hw x5_11 ex5_11
        refine g_iinc C0 (v := x5_11) (lv2 := [(5, .int x5_11), (0, .ref q_t), (1, .int p0), (2, .int p1), (3, .int x3_8), (4, .int x4_9)]) dX8_weakAmongFirst_49 5 rfl (by rw [ex5_11]; rfl) (by decide) rfl ?_
        refine g_goto C0 (tgt := 8) dX8_weakAmongFirst_52 (by decide) ?_
        refine g_lv [1, 2, 3, 4, 5, 0] (lv2 := [(0, .ref q_t), (1, .int p0), (2, .int p1), (3, .int x3_8), (4, .int x4_9), (5, .int x5_11)]) rfl ?_
        exact hK4 _ _ _ hw
      · refine g_ifb_ne C0 (tgt := 49) dX8_weakAmongFirst_29 (by decide) (fun c12 => ?_) (fun c12 => ?_)
        · replace hw := hw.1 c12
          exact hJ10 _ _ hw
        · replace hw := hw.2 c12
          obtain ⟨x3_13, ex3_13⟩ : ∃ y : Int32, y = x3_1 + 1 := ⟨_, rfl⟩
          replace hw := hw x3_13 ex3_13
          refine g_iinc C0 (v := x3_13) (lv2 := [(3, .int x3_13), (0, .ref q_t), (1, .int p0), (2, .int p1), (4, .int x4_2), (5, .int x5_3)]) dX8_weakAmongFirst_32 3 rfl (by rw [ex3_13]; rfl) (by decide) rfl ?_
          refine g_aload_n C0 dX8_weakAmongFirst_35 1 rfl ?_
          refine g_get C0 dX8_weakAmongFirst_36 0 rfl 0 rfl rfl hinX8 (by decide) (List.mem_of_getElem? (i := 3) rfl) rfl ?_
          refine g_iload C0 dX8_weakAmongFirst_39 5 rfl ?_
          obtain ⟨h14, hw⟩ := hw
          refine g_iald C0 (cA := E.I) dX8_weakAmongFirst_41 2 rfl h14 ?_
          refine g_iload_n C0 dX8_weakAmongFirst_42 3 rfl ?_
          refine g_icmp_ge C0 (tgt := 49) dX8_weakAmongFirst_43 (by decide) (fun c15 => ?_) (fun c15 => ?_)
          · replace hw := hw.1 c15
            refine g_lv [1, 2, 3, 0, 4, 5] (lv2 := [(0, .ref q_t), (1, .int p0), (2, .int p1), (3, .int x3_13), (4, .int x4_2), (5, .int x5_3)]) rfl ?_
            exact hJ10 _ _ hw
          · replace hw := hw.2 c15
            obtain ⟨x4_16, ex4_16⟩ : ∃ y : Int32, y = x4_2 + 1 := ⟨_, rfl⟩
            replace hw := hw x4_16 ex4_16
            refine g_iinc C0 (v := x4_16) (lv2 := [(4, .int x4_16), (3, .int x3_13), (0, .ref q_t), (1, .int p0), (2, .int p1), (5, .int x5_3)]) dX8_weakAmongFirst_46 4 rfl (by rw [ex4_16]; rfl) (by decide) rfl ?_
            refine g_lv [2, 3, 4, 1, 0, 5] (lv2 := [(0, .ref q_t), (1, .int p0), (2, .int p1), (3, .int x3_13), (4, .int x4_16), (5, .int x5_3)]) rfl ?_
            exact hJ10 _ _ hw
def w_X8_countWeak (p0 : Int32) (t_count : Int32) (t_barred : Nat → Bool) (t_strength : Nat → Int32) (Q : Int32 → Prop) : Prop := w_X8_weakAmongFirst 20 p0 t_count t_barred t_strength (fun (r1 : Int32) => Q r1)
theorem ddV_X8_countWeak : yX8_countWeak.cls = RX8 ∧ yX8_countWeak.cls ≠ "java/lang/invoke/MethodHandle" ∧ yX8_countWeak.cls ≠ "java/lang/invoke/VarHandle" ∧ (parseMethodDescriptor yX8_countWeak.desc).map (fun d => d.parameters.length) = some 1 := by decide +kernel
set_option maxHeartbeats 4000000 in
set_option maxRecDepth 100000 in
theorem c_X8_countWeak (l : Launch) (E : gE) (q_t q_t_strength q_t_barred q_t_weights : Nat) (p0 : Int32) (t_count : Int32) (t_barred : Nat → Bool) (t_strength : Nat → Int32) (Q : Int32 → Prop) (hw : w_X8_countWeak p0 t_count t_barred t_strength Q) : Ct l E yX8_countWeak wsX8_countWeak { frames := 1, cells := 0, slots := 0, locals := 25 } [.ref q_t, .int p0] [ob 8 q_t [.ref q_t_strength, .ref q_t_barred, .ref q_t_weights, .int t_count], aZ E.Z q_t_barred 20 t_barred, aI E.I q_t_strength 20 t_strength] (S := Int32) (fun u => some (.int u)) (fun u => Q u) (fun u => [ob 8 q_t [.ref q_t_strength, .ref q_t_barred, .ref q_t_weights, .int t_count], aZ E.Z q_t_barred 20 t_barred, aI E.I q_t_strength 20 t_strength]) := by
  unfold w_X8_countWeak at hw
  refine g_start (cc := cX8_countWeak) (nL := 2) (own := RX8) (ret := (some .int)) rfl (by decide) rfl (Nat.le_of_ble_eq_true rfl) (lv0 := [(0, .ref q_t), (1, .int p0)]) rfl (fun X C0 R1 => ?_)
  refine g_aload_n C0 dX8_countWeak_0 0 rfl ?_
  refine g_bipush C0 (v := 20) dX8_countWeak_1 (by decide) ?_
  refine g_iload_n C0 dX8_countWeak_3 1 rfl ?_
  refine g_callV C0 (q0 := 0) (ci := 8) (c_X8_weakAmongFirst l E q_t q_t_strength q_t_barred q_t_weights 20 p0 t_count t_barred t_strength _ hw) dX8_countWeak_4 gX8_countWeak_X8_weakAmongFirst rfl ddV_X8_weakAmongFirst rfl (by decide) (by decide) rfl (Nat.le_of_ble_eq_true rfl) [0, 1, 2] [] rfl (wr := []) rfl (by decide) (by decide) (by decide) rfl rfl (fun u hw => ?_)
  obtain ⟨r1, hu_⟩ : ∃ z, z = u := ⟨_, rfl⟩
  subst hu_
  try dsimp only at hw
  show G X E 2 [ob 8 q_t [.ref q_t_strength, .ref q_t_barred, .ref q_t_weights, .int t_count], aZ E.Z q_t_barred 20 t_barred, aI E.I q_t_strength 20 t_strength] 0 0 7 [(0, .ref q_t), (1, .int p0)] [.int r1]
  exact g_iret C0 R1 dX8_countWeak_7 r1 rfl hw [0, 1, 2] (by decide) rfl (by decide) (by decide)
def w_X8_weigh (p0 : Int32) (p1 : Int32) (t_weights : Nat → Int64) (Q : (Nat → Int64) → Prop) : Prop := w_J7_fill_d0a16 0 13 t_weights (fun (t_weights_1 : Nat → Int64) => vp_in 0 13 ∧ (∃ n22 : Nat, wL2 (fun (K5 : Int32 → (Nat → Int64) → Prop) (x3_3 : Int32) (t_weights_4 : Nat → Int64) => (p0 < x3_3 → Q t_weights_4) ∧ (¬ p0 < x3_3 → ∀ x4_7 : Int32, x4_7 = (if 12 < x3_3 then 12 else x3_3) → (∃ n21 : Nat, wL2 (fun (K10 : Int32 → (Nat → Int64) → Prop) (x4_8 : Int32) (t_weights_9 : Nat → Int64) => (x4_8 < 1 → vp_in 0 13 ∧ (∀ f13 : Int64, f13 = ((t_weights_9 (Int32.toNatClampNeg 0)) * (Int32.toInt64 (20 - p1))) → (vp_in 0 13 ∧ (∀ x3_15 : Int32, x3_15 = (x3_3 + 1) → (K5 x3_15 (vp_updL t_weights_9 (Int32.toNatClampNeg 0) f13)))))) ∧ (¬ x4_8 < 1 → vp_in x4_8 13 ∧ (vp_in (x4_8 - 1) 13 ∧ (∀ f18 : Int64, f18 = (((t_weights_9 (Int32.toNatClampNeg x4_8)) * (Int32.toInt64 (20 - p1))) + ((t_weights_9 (Int32.toNatClampNeg (x4_8 - 1))) * (Int32.toInt64 p1))) → (vp_in x4_8 13 ∧ (∀ x4_20 : Int32, x4_20 = (x4_8 + (-1)) → (K10 x4_20 (vp_updL t_weights_9 (Int32.toNatClampNeg x4_8) f18)))))))) n21 x4_7 t_weights_4))) n22 1 (vp_updL t_weights_1 (Int32.toNatClampNeg 0) 1)))
theorem ddV_X8_weigh : yX8_weigh.cls = RX8 ∧ yX8_weigh.cls ≠ "java/lang/invoke/MethodHandle" ∧ yX8_weigh.cls ≠ "java/lang/invoke/VarHandle" ∧ (parseMethodDescriptor yX8_weigh.desc).map (fun d => d.parameters.length) = some 2 := by decide +kernel
set_option maxHeartbeats 4000000 in
set_option maxRecDepth 100000 in
theorem c_X8_weigh (l : Launch) (E : gE) (q_t q_t_strength q_t_barred q_t_weights : Nat) (p0 : Int32) (p1 : Int32) (t_count : Int32) (t_weights : Nat → Int64) (Q : (Nat → Int64) → Prop) (hw : w_X8_weigh p0 p1 t_weights Q) : Ct l E yX8_weigh wsX8_weigh { frames := 1, cells := 0, slots := 0, locals := 24 } [.ref q_t, .int p0, .int p1] [ob 8 q_t [.ref q_t_strength, .ref q_t_barred, .ref q_t_weights, .int t_count], aJ E.J q_t_weights 13 t_weights] (S := (Nat → Int64)) (fun _ => none) (fun u => Q u) (fun u => [ob 8 q_t [.ref q_t_strength, .ref q_t_barred, .ref q_t_weights, .int t_count], aJ E.J q_t_weights 13 u]) := by
  unfold w_X8_weigh at hw
  have hinX8 : ∀ w ∈ wsX80, w ∈ wsX8_weigh := fun _ h => List.mem_cons_of_mem _ (List.mem_append_right _ h)
  refine g_start (cc := cX8_weigh) (nL := 5) (own := RX8) (ret := none) rfl (by decide) rfl (Nat.le_of_ble_eq_true rfl) (lv0 := [(0, .ref q_t), (1, .int p0), (2, .int p1)]) rfl (fun X C0 R1 => ?_)
  refine g_aload_n C0 dX8_weigh_0 0 rfl ?_
  refine g_get C0 dX8_weigh_1 0 rfl 2 rfl rfl hinX8 (by decide) (List.mem_of_getElem? (i := 1) rfl) rfl ?_
  refine g_lconst C0 (v := 0) dX8_weigh_4 (by decide) ?_
  refine g_callS C0 (c_J7_fill_d0a16 l E q_t_weights 0 13 t_weights _ hw) dX8_weigh_5 gX8_weigh_J7_fill_d0a16 rfl ddS_J7_fill_d0a16 rfl (by decide) (by decide) rfl (Nat.le_of_ble_eq_true rfl) [1] [0] rfl (wr := [ob 8 q_t [.ref q_t_strength, .ref q_t_barred, .ref q_t_weights, .int t_count]]) rfl (by decide) (by decide) (by decide) (fun u hw => ?_)
  obtain ⟨t_weights_1, hu_⟩ : ∃ z, z = u := ⟨_, rfl⟩
  subst hu_
  try dsimp only at hw
  show G X E 5 [ob 8 q_t [.ref q_t_strength, .ref q_t_barred, .ref q_t_weights, .int t_count], aJ E.J q_t_weights 13 t_weights_1] 0 0 8 [(0, .ref q_t), (1, .int p0), (2, .int p1)] []
  refine g_aload_n C0 dX8_weigh_8 0 rfl ?_
  refine g_get C0 dX8_weigh_9 0 rfl 2 rfl rfl hinX8 (by decide) (List.mem_of_getElem? (i := 1) rfl) rfl ?_
  refine g_iconst C0 (v := 0) dX8_weigh_12 (by decide) ?_
  refine g_lconst C0 (v := 1) dX8_weigh_13 (by decide) ?_
  obtain ⟨h2, hw⟩ := hw
  refine g_last C0 (ws2 := [ob 8 q_t [.ref q_t_strength, .ref q_t_barred, .ref q_t_weights, .int t_count], aJ E.J q_t_weights 13 (vp_updL t_weights_1 (Int32.toNatClampNeg 0) 1)]) dX8_weigh_14 1 rfl h2 rfl ?_
  refine g_iconst C0 (v := 1) dX8_weigh_15 (by decide) ?_
  refine g_istore_n C0 (lv2 := [(3, .int 1), (0, .ref q_t), (1, .int p0), (2, .int p1)]) dX8_weigh_16 (by decide) rfl ?_
  refine g_lv [1, 2, 3, 0] (lv2 := [(0, .ref q_t), (1, .int p0), (2, .int p1), (3, .int 1)]) rfl ?_
  obtain ⟨n22, hw⟩ := hw
  refine wL2_go (P := fun (x3_3 : Int32) (t_weights_4 : Nat → Int64) => G X E 5 [ob 8 q_t [.ref q_t_strength, .ref q_t_barred, .ref q_t_weights, .int t_count], aJ E.J q_t_weights 13 t_weights_4] 0 0 17 [(0, .ref q_t), (1, .int p0), (2, .int p1), (3, .int x3_3)] []) (fun K5 hK5 x3_3 t_weights_4 hw => ?_) n22 _ _ hw
  refine g_iload_n C0 dX8_weigh_17 3 rfl ?_
  refine g_iload_n C0 dX8_weigh_18 1 rfl ?_
  refine g_icmp_gt C0 (tgt := 95) dX8_weigh_19 (by decide) (fun c6 => ?_) (fun c6 => ?_)
  · replace hw := hw.1 c6
    exact g_vret C0 R1 dX8_weigh_95 t_weights_4 rfl hw [0, 1] (by decide) rfl (by decide) (by decide)
  · replace hw := hw.2 c6
    refine g_iload_n C0 dX8_weigh_22 3 rfl ?_
    refine g_bipush C0 (v := 12) dX8_weigh_23 (by decide) ?_
    refine g_mmin C0 dX8_weigh_25 (List.mem_of_getElem? (i := 2) rfl) (List.mem_of_getElem? (i := 3) rfl) (List.mem_of_getElem? (i := 4) rfl) (List.mem_of_getElem? (i := 5) rfl) (by decide) (Nat.le_of_ble_eq_true rfl) (by decide) (by decide) ?_
    refine g_topi (fun x4_7 ex4_7 => ?_)
    replace hw := hw x4_7 ex4_7
    refine g_istore C0 (lv2 := [(4, .int x4_7), (0, .ref q_t), (1, .int p0), (2, .int p1), (3, .int x3_3)]) dX8_weigh_28 (by decide) rfl ?_
    refine g_lv [1, 2, 3, 4, 0] (lv2 := [(0, .ref q_t), (1, .int p0), (2, .int p1), (3, .int x3_3), (4, .int x4_7)]) rfl ?_
    obtain ⟨n21, hw⟩ := hw
    refine wL2_go (P := fun (x4_8 : Int32) (t_weights_9 : Nat → Int64) => G X E 5 [ob 8 q_t [.ref q_t_strength, .ref q_t_barred, .ref q_t_weights, .int t_count], aJ E.J q_t_weights 13 t_weights_9] 0 0 30 [(0, .ref q_t), (1, .int p0), (2, .int p1), (3, .int x3_3), (4, .int x4_8)] []) (fun K10 hK10 x4_8 t_weights_9 hw => ?_) n21 _ _ hw
    refine g_iload C0 dX8_weigh_30 4 rfl ?_
    refine g_iconst C0 (v := 1) dX8_weigh_32 (by decide) ?_
    refine g_icmp_lt C0 (tgt := 75) dX8_weigh_33 (by decide) (fun c11 => ?_) (fun c11 => ?_)
    · replace hw := hw.1 c11
      refine g_aload_n C0 dX8_weigh_75 0 rfl ?_
      refine g_get C0 dX8_weigh_76 0 rfl 2 rfl rfl hinX8 (by decide) (List.mem_of_getElem? (i := 1) rfl) rfl ?_
      refine g_iconst C0 (v := 0) dX8_weigh_79 (by decide) ?_
      refine g_dup2 C0 dX8_weigh_80 rfl rfl ?_
      obtain ⟨h12, hw⟩ := hw
      refine g_lald C0 dX8_weigh_81 1 rfl h12 ?_
      refine g_bipush C0 (v := 20) dX8_weigh_82 (by decide) ?_
      refine g_iload_n C0 dX8_weigh_84 2 rfl ?_
      refine g_isub C0 dX8_weigh_85 ?_
      refine g_i2l C0 dX8_weigh_86 ?_
      refine g_lmul C0 dX8_weigh_87 ?_
      refine g_topl (fun f13 ef13 => ?_)
      replace hw := hw f13 ef13
      obtain ⟨h14, hw⟩ := hw
      refine g_last C0 (ws2 := [ob 8 q_t [.ref q_t_strength, .ref q_t_barred, .ref q_t_weights, .int t_count], aJ E.J q_t_weights 13 (vp_updL t_weights_9 (Int32.toNatClampNeg 0) f13)]) dX8_weigh_88 1 rfl h14 rfl ?_
      obtain ⟨x3_15, ex3_15⟩ : ∃ y : Int32, y = x3_3 + 1 := ⟨_, rfl⟩
      replace hw := hw x3_15 ex3_15
      refine g_iinc C0 (v := x3_15) (lv2 := [(3, .int x3_15), (0, .ref q_t), (1, .int p0), (2, .int p1), (4, .int x4_8)]) dX8_weigh_89 3 rfl (by rw [ex3_15]; rfl) (by decide) rfl ?_
      refine g_goto C0 (tgt := 17) dX8_weigh_92 (by decide) ?_
      refine g_lv [1, 2, 3, 0] (lv2 := [(0, .ref q_t), (1, .int p0), (2, .int p1), (3, .int x3_15)]) rfl ?_
      exact hK5 _ _ hw
    · replace hw := hw.2 c11
      refine g_aload_n C0 dX8_weigh_36 0 rfl ?_
      refine g_get C0 dX8_weigh_37 0 rfl 2 rfl rfl hinX8 (by decide) (List.mem_of_getElem? (i := 1) rfl) rfl ?_
      refine g_iload C0 dX8_weigh_40 4 rfl ?_
      refine g_aload_n C0 dX8_weigh_42 0 rfl ?_
      refine g_get C0 dX8_weigh_43 0 rfl 2 rfl rfl hinX8 (by decide) (List.mem_of_getElem? (i := 1) rfl) rfl ?_
      refine g_iload C0 dX8_weigh_46 4 rfl ?_
      obtain ⟨h16, hw⟩ := hw
      refine g_lald C0 dX8_weigh_48 1 rfl h16 ?_
      refine g_bipush C0 (v := 20) dX8_weigh_49 (by decide) ?_
      refine g_iload_n C0 dX8_weigh_51 2 rfl ?_
      refine g_isub C0 dX8_weigh_52 ?_
      refine g_i2l C0 dX8_weigh_53 ?_
      refine g_lmul C0 dX8_weigh_54 ?_
      refine g_aload_n C0 dX8_weigh_55 0 rfl ?_
      refine g_get C0 dX8_weigh_56 0 rfl 2 rfl rfl hinX8 (by decide) (List.mem_of_getElem? (i := 1) rfl) rfl ?_
      refine g_iload C0 dX8_weigh_59 4 rfl ?_
      refine g_iconst C0 (v := 1) dX8_weigh_61 (by decide) ?_
      refine g_isub C0 dX8_weigh_62 ?_
      obtain ⟨h17, hw⟩ := hw
      refine g_lald C0 dX8_weigh_63 1 rfl h17 ?_
      refine g_iload_n C0 dX8_weigh_64 2 rfl ?_
      refine g_i2l C0 dX8_weigh_65 ?_
      refine g_lmul C0 dX8_weigh_66 ?_
      refine g_ladd C0 dX8_weigh_67 ?_
      refine g_topl (fun f18 ef18 => ?_)
      replace hw := hw f18 ef18
      obtain ⟨h19, hw⟩ := hw
      refine g_last C0 (ws2 := [ob 8 q_t [.ref q_t_strength, .ref q_t_barred, .ref q_t_weights, .int t_count], aJ E.J q_t_weights 13 (vp_updL t_weights_9 (Int32.toNatClampNeg x4_8) f18)]) dX8_weigh_68 1 rfl h19 rfl ?_
      obtain ⟨x4_20, ex4_20⟩ : ∃ y : Int32, y = x4_8 + (-1) := ⟨_, rfl⟩
      replace hw := hw x4_20 ex4_20
      refine g_iinc C0 (v := x4_20) (lv2 := [(4, .int x4_20), (0, .ref q_t), (1, .int p0), (2, .int p1), (3, .int x3_3)]) dX8_weigh_69 4 rfl (by rw [ex4_20]; rfl) (by decide) rfl ?_
      refine g_goto C0 (tgt := 30) dX8_weigh_72 (by decide) ?_
      refine g_lv [1, 2, 3, 4, 0] (lv2 := [(0, .ref q_t), (1, .int p0), (2, .int p1), (3, .int x3_3), (4, .int x4_20)]) rfl ?_
      exact hK10 _ _ hw
def w_X8_tellOdds (p0 : Int32) (p1 : Int32) (t_count : Int32) (t_barred : Nat → Bool) (t_weights : Nat → Int64) (t_strength : Nat → Int32) (a2_upper : Int64) (a2_lower : Int64) (Q : (Nat → Int64) → Int64 → Int64 → Prop) : Prop := w_X8_kept t_count t_barred (fun (r1 : Int32) => ∀ x4_2 : Int32, x4_2 = (if 12 < r1 then 12 else r1) → (w_X8_weigh x4_2 p0 t_weights (fun (t_weights_3 : Nat → Int64) => w_X8_weakAmongFirst 12 p1 t_count t_barred t_strength (fun (r4 : Int32) => ∃ n20 : Nat, wL3 (fun (K8 : Int64 → Int64 → Int32 → Prop) (x6_5 : Int64) (x8_6 : Int64) (x10_7 : Int32) => (x4_2 < x10_7 → w_X2_reduce x6_5 x8_6 a2_upper a2_lower (fun (a2_upper_10 : Int64) (a2_lower_11 : Int64) => Q t_weights_3 a2_upper_10 a2_lower_11)) ∧ (¬ x4_2 < x10_7 → vp_in x10_7 13 ∧ (∀ x8_13 : Int64, x8_13 = (x8_6 + (t_weights_3 (Int32.toNatClampNeg x10_7))) → (wj1 (fun (J15 : Int64 → Prop) => (x10_7 < r4 → J15 x6_5) ∧ (¬ x10_7 < r4 → vp_in x10_7 13 ∧ (∀ x6_19 : Int64, x6_19 = (x6_5 + (t_weights_3 (Int32.toNatClampNeg x10_7))) → (J15 x6_19)))) (fun (x6_14 : Int64) => ∀ x10_16 : Int32, x10_16 = (x10_7 + 1) → (K8 x6_14 x8_13 x10_16)))))) n20 0 0 0))))
theorem ddV_X8_tellOdds : yX8_tellOdds.cls = RX8 ∧ yX8_tellOdds.cls ≠ "java/lang/invoke/MethodHandle" ∧ yX8_tellOdds.cls ≠ "java/lang/invoke/VarHandle" ∧ (parseMethodDescriptor yX8_tellOdds.desc).map (fun d => d.parameters.length) = some 3 := by decide +kernel
set_option maxHeartbeats 4000000 in
set_option maxRecDepth 100000 in
theorem c_X8_tellOdds (l : Launch) (E : gE) (q_t q_a2 q_t_strength q_t_barred q_t_weights : Nat) (p0 : Int32) (p1 : Int32) (t_count : Int32) (t_barred : Nat → Bool) (t_weights : Nat → Int64) (t_strength : Nat → Int32) (a2_upper : Int64) (a2_lower : Int64) (Q : (Nat → Int64) → Int64 → Int64 → Prop) (hw : w_X8_tellOdds p0 p1 t_count t_barred t_weights t_strength a2_upper a2_lower Q) : Ct l E yX8_tellOdds wsX8_tellOdds { frames := 2, cells := 0, slots := 0, locals := 56 } [.ref q_t, .int p0, .int p1, .ref q_a2] [ob 8 q_t [.ref q_t_strength, .ref q_t_barred, .ref q_t_weights, .int t_count], aZ E.Z q_t_barred 20 t_barred, aJ E.J q_t_weights 13 t_weights, aI E.I q_t_strength 20 t_strength, ob 2 q_a2 [.long a2_upper, .long a2_lower]] (S := (Nat → Int64) × Int64 × Int64) (fun _ => none) (fun u => Q u.1 u.2.1 u.2.2) (fun u => [ob 8 q_t [.ref q_t_strength, .ref q_t_barred, .ref q_t_weights, .int t_count], aZ E.Z q_t_barred 20 t_barred, aJ E.J q_t_weights 13 u.1, aI E.I q_t_strength 20 t_strength, ob 2 q_a2 [.long u.2.1, .long u.2.2]]) := by
  unfold w_X8_tellOdds at hw
  have hinX8 : ∀ w ∈ wsX80, w ∈ wsX8_tellOdds := fun _ h => List.mem_cons_of_mem _ (List.mem_append_left _ (List.mem_append_right _ h))
  refine g_start (cc := cX8_tellOdds) (nL := 11) (own := RX8) (ret := none) rfl (by decide) rfl (Nat.le_of_ble_eq_true rfl) (lv0 := [(0, .ref q_t), (1, .int p0), (2, .int p1), (3, .ref q_a2)]) rfl (fun X C0 R1 => ?_)
  refine g_aload_n C0 dX8_tellOdds_0 0 rfl ?_
  refine g_callV C0 (q0 := 0) (ci := 8) (c_X8_kept l E q_t q_t_strength q_t_barred q_t_weights t_count t_barred _ hw) dX8_tellOdds_1 gX8_tellOdds_X8_kept rfl ddV_X8_kept rfl (by decide) (by decide) rfl (Nat.le_of_ble_eq_true rfl) [0, 1] [2, 3, 4] rfl (wr := [aJ E.J q_t_weights 13 t_weights, aI E.I q_t_strength 20 t_strength, ob 2 q_a2 [.long a2_upper, .long a2_lower]]) rfl (by decide) (by decide) (by decide) rfl rfl (fun u hw => ?_)
  obtain ⟨r1, hu_⟩ : ∃ z, z = u := ⟨_, rfl⟩
  subst hu_
  try dsimp only at hw
  show G X E 11 [aJ E.J q_t_weights 13 t_weights, aI E.I q_t_strength 20 t_strength, ob 2 q_a2 [.long a2_upper, .long a2_lower], ob 8 q_t [.ref q_t_strength, .ref q_t_barred, .ref q_t_weights, .int t_count], aZ E.Z q_t_barred 20 t_barred] 0 0 4 [(0, .ref q_t), (1, .int p0), (2, .int p1), (3, .ref q_a2)] [.int r1]
  refine g_bipush C0 (v := 12) dX8_tellOdds_4 (by decide) ?_
  refine g_mmin C0 dX8_tellOdds_6 (List.mem_of_getElem? (i := 1) rfl) (List.mem_of_getElem? (i := 2) rfl) (List.mem_of_getElem? (i := 3) rfl) (List.mem_of_getElem? (i := 4) rfl) (by decide) (Nat.le_of_ble_eq_true rfl) (by decide) (by decide) ?_
  refine g_topi (fun x4_2 ex4_2 => ?_)
  replace hw := hw x4_2 ex4_2
  refine g_istore C0 (lv2 := [(4, .int x4_2), (0, .ref q_t), (1, .int p0), (2, .int p1), (3, .ref q_a2)]) dX8_tellOdds_9 (by decide) rfl ?_
  refine g_aload_n C0 dX8_tellOdds_11 1 rfl ?_
  refine g_iload C0 dX8_tellOdds_12 0 rfl ?_
  refine g_iload_n C0 dX8_tellOdds_14 2 rfl ?_
  refine g_callV C0 (q0 := 3) (ci := 8) (c_X8_weigh l E q_t q_t_strength q_t_barred q_t_weights x4_2 p0 t_count t_weights _ hw) dX8_tellOdds_15 gX8_tellOdds_X8_weigh rfl ddV_X8_weigh rfl (by decide) (by decide) rfl (Nat.le_of_ble_eq_true rfl) [3, 0] [1, 2, 4] rfl (wr := [aI E.I q_t_strength 20 t_strength, ob 2 q_a2 [.long a2_upper, .long a2_lower], aZ E.Z q_t_barred 20 t_barred]) rfl (by decide) (by decide) (by decide) rfl rfl (fun u hw => ?_)
  obtain ⟨t_weights_3, hu_⟩ : ∃ z, z = u := ⟨_, rfl⟩
  subst hu_
  try dsimp only at hw
  show G X E 11 [aI E.I q_t_strength 20 t_strength, ob 2 q_a2 [.long a2_upper, .long a2_lower], aZ E.Z q_t_barred 20 t_barred, ob 8 q_t [.ref q_t_strength, .ref q_t_barred, .ref q_t_weights, .int t_count], aJ E.J q_t_weights 13 t_weights_3] 0 0 18 [(4, .int x4_2), (0, .ref q_t), (1, .int p0), (2, .int p1), (3, .ref q_a2)] []
  refine g_aload_n C0 dX8_tellOdds_18 1 rfl ?_
  refine g_bipush C0 (v := 12) dX8_tellOdds_19 (by decide) ?_
  refine g_iload_n C0 dX8_tellOdds_21 3 rfl ?_
  refine g_callV C0 (q0 := 3) (ci := 8) (c_X8_weakAmongFirst l E q_t q_t_strength q_t_barred q_t_weights 12 p1 t_count t_barred t_strength _ hw) dX8_tellOdds_22 gX8_tellOdds_X8_weakAmongFirst rfl ddV_X8_weakAmongFirst rfl (by decide) (by decide) rfl (Nat.le_of_ble_eq_true rfl) [3, 2, 0] [1, 4] rfl (wr := [ob 2 q_a2 [.long a2_upper, .long a2_lower], aJ E.J q_t_weights 13 t_weights_3]) rfl (by decide) (by decide) (by decide) rfl rfl (fun u hw => ?_)
  obtain ⟨r4, hu_⟩ : ∃ z, z = u := ⟨_, rfl⟩
  subst hu_
  try dsimp only at hw
  show G X E 11 [ob 2 q_a2 [.long a2_upper, .long a2_lower], aJ E.J q_t_weights 13 t_weights_3, ob 8 q_t [.ref q_t_strength, .ref q_t_barred, .ref q_t_weights, .int t_count], aZ E.Z q_t_barred 20 t_barred, aI E.I q_t_strength 20 t_strength] 0 0 25 [(4, .int x4_2), (0, .ref q_t), (1, .int p0), (2, .int p1), (3, .ref q_a2)] [.int r4]
  refine g_istore C0 (lv2 := [(5, .int r4), (4, .int x4_2), (0, .ref q_t), (1, .int p0), (2, .int p1), (3, .ref q_a2)]) dX8_tellOdds_25 (by decide) rfl ?_
  refine g_lconst C0 (v := 0) dX8_tellOdds_27 (by decide) ?_
  refine g_lstore C0 (lv2 := [(6, .long 0), (5, .int r4), (4, .int x4_2), (0, .ref q_t), (1, .int p0), (2, .int p1), (3, .ref q_a2)]) dX8_tellOdds_28 (by decide) rfl ?_
  refine g_lconst C0 (v := 0) dX8_tellOdds_30 (by decide) ?_
  refine g_lstore C0 (lv2 := [(8, .long 0), (6, .long 0), (5, .int r4), (4, .int x4_2), (0, .ref q_t), (1, .int p0), (2, .int p1), (3, .ref q_a2)]) dX8_tellOdds_31 (by decide) rfl ?_
  refine g_iconst C0 (v := 0) dX8_tellOdds_33 (by decide) ?_
  refine g_istore C0 (lv2 := [(10, .int 0), (8, .long 0), (6, .long 0), (5, .int r4), (4, .int x4_2), (0, .ref q_t), (1, .int p0), (2, .int p1), (3, .ref q_a2)]) dX8_tellOdds_34 (by decide) rfl ?_
  refine g_lv [5, 8, 4, 3, 2, 1, 0] (lv2 := [(0, .ref q_t), (3, .ref q_a2), (4, .int x4_2), (5, .int r4), (6, .long 0), (8, .long 0), (10, .int 0)]) rfl ?_
  refine g_re [2, 3, 1, 4, 0] (by decide) (ws2 := [ob 8 q_t [.ref q_t_strength, .ref q_t_barred, .ref q_t_weights, .int t_count], aZ E.Z q_t_barred 20 t_barred, aJ E.J q_t_weights 13 t_weights_3, aI E.I q_t_strength 20 t_strength, ob 2 q_a2 [.long a2_upper, .long a2_lower]]) rfl ?_
  obtain ⟨n20, hw⟩ := hw
  refine wL3_go (P := fun (x6_5 : Int64) (x8_6 : Int64) (x10_7 : Int32) => G X E 11 [ob 8 q_t [.ref q_t_strength, .ref q_t_barred, .ref q_t_weights, .int t_count], aZ E.Z q_t_barred 20 t_barred, aJ E.J q_t_weights 13 t_weights_3, aI E.I q_t_strength 20 t_strength, ob 2 q_a2 [.long a2_upper, .long a2_lower]] 0 0 36 [(0, .ref q_t), (3, .ref q_a2), (4, .int x4_2), (5, .int r4), (6, .long x6_5), (8, .long x8_6), (10, .int x10_7)] []) (fun K8 hK8 x6_5 x8_6 x10_7 hw => ?_) n20 _ _ _ hw
  refine g_iload C0 dX8_tellOdds_36 6 rfl ?_
  refine g_iload C0 dX8_tellOdds_38 2 rfl ?_
  refine g_icmp_gt C0 (tgt := 80) dX8_tellOdds_40 (by decide) (fun c9 => ?_) (fun c9 => ?_)
  · replace hw := hw.1 c9
    refine g_aload_n C0 dX8_tellOdds_80 1 rfl ?_
    refine g_lload C0 dX8_tellOdds_81 4 rfl ?_
    refine g_lload C0 dX8_tellOdds_83 5 rfl ?_
    refine g_callV C0 (q0 := 4) (ci := 2) (c_X2_reduce l E q_a2 x6_5 x8_6 a2_upper a2_lower _ hw) dX8_tellOdds_85 gX8_tellOdds_X2_reduce rfl ddV_X2_reduce rfl (by decide) (by decide) rfl (Nat.le_of_ble_eq_true rfl) [4] [0, 1, 2, 3] rfl (wr := [ob 8 q_t [.ref q_t_strength, .ref q_t_barred, .ref q_t_weights, .int t_count], aZ E.Z q_t_barred 20 t_barred, aJ E.J q_t_weights 13 t_weights_3, aI E.I q_t_strength 20 t_strength]) rfl (by decide) (by decide) (by decide) rfl rfl (fun u hw => ?_)
    obtain ⟨a2_upper_10, a2_lower_11⟩ := u
    try dsimp only at hw
    show G X E 11 [ob 8 q_t [.ref q_t_strength, .ref q_t_barred, .ref q_t_weights, .int t_count], aZ E.Z q_t_barred 20 t_barred, aJ E.J q_t_weights 13 t_weights_3, aI E.I q_t_strength 20 t_strength, ob 2 q_a2 [.long a2_upper_10, .long a2_lower_11]] 0 0 88 [(0, .ref q_t), (3, .ref q_a2), (4, .int x4_2), (5, .int r4), (6, .long x6_5), (8, .long x8_6), (10, .int x10_7)] []
    exact g_vret C0 R1 dX8_tellOdds_88 (t_weights_3, a2_upper_10, a2_lower_11) rfl hw [0, 1, 2, 3, 4] (by decide) rfl (by decide) (by decide)
  · replace hw := hw.2 c9
    refine g_lload C0 dX8_tellOdds_43 5 rfl ?_
    refine g_aload_n C0 dX8_tellOdds_45 0 rfl ?_
    refine g_get C0 dX8_tellOdds_46 0 rfl 2 rfl rfl hinX8 (by decide) (List.mem_of_getElem? (i := 5) rfl) rfl ?_
    refine g_iload C0 dX8_tellOdds_49 6 rfl ?_
    obtain ⟨h12, hw⟩ := hw
    refine g_lald C0 dX8_tellOdds_51 2 rfl h12 ?_
    refine g_ladd C0 dX8_tellOdds_52 ?_
    refine g_topl (fun x8_13 ex8_13 => ?_)
    replace hw := hw x8_13 ex8_13
    refine g_lstore C0 (lv2 := [(8, .long x8_13), (0, .ref q_t), (3, .ref q_a2), (4, .int x4_2), (5, .int r4), (6, .long x6_5), (10, .int x10_7)]) dX8_tellOdds_53 (by decide) rfl ?_
    refine g_iload C0 dX8_tellOdds_55 6 rfl ?_
    refine g_iload C0 dX8_tellOdds_57 4 rfl ?_
    refine wj1_go (P := fun (x6_14 : Int64) => G X E 11 [ob 8 q_t [.ref q_t_strength, .ref q_t_barred, .ref q_t_weights, .int t_count], aZ E.Z q_t_barred 20 t_barred, aJ E.J q_t_weights 13 t_weights_3, aI E.I q_t_strength 20 t_strength, ob 2 q_a2 [.long a2_upper, .long a2_lower]] 0 0 74 [(0, .ref q_t), (3, .ref q_a2), (4, .int x4_2), (5, .int r4), (6, .long x6_14), (8, .long x8_13), (10, .int x10_7)] []) hw (fun x6_14 hw => ?_) (fun J15 hJ15 hw => ?_)
    · obtain ⟨x10_16, ex10_16⟩ : ∃ y : Int32, y = x10_7 + 1 := ⟨_, rfl⟩
      replace hw := hw x10_16 ex10_16
      refine g_iinc C0 (v := x10_16) (lv2 := [(10, .int x10_16), (0, .ref q_t), (3, .ref q_a2), (4, .int x4_2), (5, .int r4), (6, .long x6_14), (8, .long x8_13)]) dX8_tellOdds_74 6 rfl (by rw [ex10_16]; rfl) (by decide) rfl ?_
      refine g_goto C0 (tgt := 36) dX8_tellOdds_77 (by decide) ?_
      refine g_lv [1, 2, 3, 4, 5, 6, 0] (lv2 := [(0, .ref q_t), (3, .ref q_a2), (4, .int x4_2), (5, .int r4), (6, .long x6_14), (8, .long x8_13), (10, .int x10_16)]) rfl ?_
      exact hK8 _ _ _ hw
    · refine g_icmp_lt C0 (tgt := 74) dX8_tellOdds_59 (by decide) (fun c17 => ?_) (fun c17 => ?_)
      · replace hw := hw.1 c17
        refine g_lv [1, 2, 3, 4, 5, 0, 6] (lv2 := [(0, .ref q_t), (3, .ref q_a2), (4, .int x4_2), (5, .int r4), (6, .long x6_5), (8, .long x8_13), (10, .int x10_7)]) rfl ?_
        exact hJ15 _ hw
      · replace hw := hw.2 c17
        refine g_lload C0 dX8_tellOdds_62 5 rfl ?_
        refine g_aload_n C0 dX8_tellOdds_64 1 rfl ?_
        refine g_get C0 dX8_tellOdds_65 0 rfl 2 rfl rfl hinX8 (by decide) (List.mem_of_getElem? (i := 5) rfl) rfl ?_
        refine g_iload C0 dX8_tellOdds_68 6 rfl ?_
        obtain ⟨h18, hw⟩ := hw
        refine g_lald C0 dX8_tellOdds_70 2 rfl h18 ?_
        refine g_ladd C0 dX8_tellOdds_71 ?_
        refine g_topl (fun x6_19 ex6_19 => ?_)
        replace hw := hw x6_19 ex6_19
        refine g_lstore C0 (lv2 := [(6, .long x6_19), (8, .long x8_13), (0, .ref q_t), (3, .ref q_a2), (4, .int x4_2), (5, .int r4), (10, .int x10_7)]) dX8_tellOdds_72 (by decide) rfl ?_
        refine g_lv [2, 3, 4, 5, 0, 1, 6] (lv2 := [(0, .ref q_t), (3, .ref q_a2), (4, .int x4_2), (5, .int r4), (6, .long x6_19), (8, .long x8_13), (10, .int x10_7)]) rfl ?_
        exact hJ15 _ hw
