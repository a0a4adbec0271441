def w_X7_spots (t_count : Int32) (Q : Int32 → Prop) : Prop := Q (if 5 < ((t_count / 5) + 1) then 5 else ((t_count / 5) + 1))
theorem ddV_X7_spots : yX7_spots.cls = RX7 ∧ yX7_spots.cls ≠ "java/lang/invoke/MethodHandle" ∧ yX7_spots.cls ≠ "java/lang/invoke/VarHandle" ∧ (parseMethodDescriptor yX7_spots.desc).map (fun d => d.parameters.length) = some 0 := by decide +kernel
set_option maxHeartbeats 4000000 in
set_option maxRecDepth 100000 in
theorem c_X7_spots (l : Launch) (E : gE) (q_t q_t_row : Nat) (t_count : Int32) (Q : Int32 → Prop) (hw : w_X7_spots t_count Q) : Ct l E yX7_spots wsX7_spots { frames := 1, cells := 0, slots := 0, locals := 21 } [.ref q_t] [ob 7 q_t [.ref q_t_row, .int t_count]] (S := Int32) (fun u => some (.int u)) (fun u => Q u) (fun u => [ob 7 q_t [.ref q_t_row, .int t_count]]) := by
  unfold w_X7_spots at hw
  have hinX7 : ∀ w ∈ wsX70, w ∈ wsX7_spots := fun _ h => List.mem_cons_of_mem _ (List.mem_append_right _ h)
  refine g_start (cc := cX7_spots) (nL := 1) (own := RX7) (ret := (some .int)) rfl (by decide) rfl (Nat.le_of_ble_eq_true rfl) (lv0 := [(0, .ref q_t)]) rfl (fun X C0 R1 => ?_)
  refine g_aload_n C0 dX7_spots_0 0 rfl ?_
  refine g_get C0 dX7_spots_1 0 rfl 1 rfl rfl hinX7 (by decide) (List.mem_of_getElem? (i := 1) rfl) rfl ?_
  refine g_iconst C0 (v := 5) dX7_spots_4 (by decide) ?_
  refine g_idiv C0 dX7_spots_5 (by decide) ?_
  refine g_iconst C0 (v := 1) dX7_spots_6 (by decide) ?_
  refine g_iadd C0 dX7_spots_7 ?_
  refine g_iconst C0 (v := 5) dX7_spots_8 (by decide) ?_
  refine g_mmin C0 dX7_spots_9 (List.mem_of_getElem? (i := 2) rfl) (List.mem_of_getElem? (i := 3) rfl) (List.mem_of_getElem? (i := 4) rfl) (List.mem_of_getElem? (i := 5) rfl) (by decide) (Nat.le_of_ble_eq_true rfl) (by decide) (by decide) ?_
  exact g_iret C0 R1 dX7_spots_12 (if 5 < ((t_count / 5) + 1) then 5 else ((t_count / 5) + 1)) rfl hw [0] (by decide) rfl (by decide) (by decide)
def w_X7_digitAt (p0 : Int32) (t_row : Nat → Int32) (Q : Int32 → Prop) : Prop := w_X9_within p0 0 (40 - 1) (fun (r1 : Bool) => (r1 = false → Q 0) ∧ (r1 = true → vp_in p0 40 ∧ (Q ((t_row (Int32.toNatClampNeg p0)) - 48))))
theorem ddV_X7_digitAt : yX7_digitAt.cls = RX7 ∧ yX7_digitAt.cls ≠ "java/lang/invoke/MethodHandle" ∧ yX7_digitAt.cls ≠ "java/lang/invoke/VarHandle" ∧ (parseMethodDescriptor yX7_digitAt.desc).map (fun d => d.parameters.length) = some 1 := by decide +kernel
set_option maxHeartbeats 4000000 in
set_option maxRecDepth 100000 in
theorem c_X7_digitAt (l : Launch) (E : gE) (q_t q_t_row : Nat) (p0 : Int32) (t_count : Int32) (t_row : Nat → Int32) (Q : Int32 → Prop) (hw : w_X7_digitAt p0 t_row Q) : Ct l E yX7_digitAt wsX7_digitAt { frames := 1, cells := 0, slots := 0, locals := 22 } [.ref q_t, .int p0] [ob 7 q_t [.ref q_t_row, .int t_count], aI E.I q_t_row 40 t_row] (S := Int32) (fun u => some (.int u)) (fun u => Q u) (fun u => [ob 7 q_t [.ref q_t_row, .int t_count], aI E.I q_t_row 40 t_row]) := by
  unfold w_X7_digitAt at hw
  have hinX7 : ∀ w ∈ wsX70, w ∈ wsX7_digitAt := fun _ h => List.mem_cons_of_mem _ (List.mem_append_right _ h)
  refine g_start (cc := cX7_digitAt) (nL := 2) (own := RX7) (ret := (some .int)) rfl (by decide) rfl (Nat.le_of_ble_eq_true rfl) (lv0 := [(0, .ref q_t), (1, .int p0)]) rfl (fun X C0 R1 => ?_)
  refine g_iload_n C0 dX7_digitAt_0 1 rfl ?_
  refine g_iconst C0 (v := 0) dX7_digitAt_1 (by decide) ?_
  refine g_aload_n C0 dX7_digitAt_2 0 rfl ?_
  refine g_get C0 dX7_digitAt_3 0 rfl 0 rfl rfl hinX7 (by decide) (List.mem_of_getElem? (i := 1) rfl) rfl ?_
  refine g_alen C0 (v := 40) dX7_digitAt_6 1 0 rfl rfl rfl ?_
  refine g_iconst C0 (v := 1) dX7_digitAt_7 (by decide) ?_
  refine g_isub C0 dX7_digitAt_8 ?_
  refine g_callN C0 (c_X9_within l E p0 0 (40 - 1) _ hw) dX7_digitAt_9 gX7_digitAt_X9_within_n33 rfl (List.mem_of_getElem? (i := 4) rfl) (List.mem_of_getElem? (i := 3) rfl) (List.mem_of_getElem? (i := 2) rfl) ddS_X9_within rfl (by decide) (by decide) rfl (Nat.le_of_ble_eq_true rfl) [] [0, 1] rfl (wr := [ob 7 q_t [.ref q_t_row, .int t_count], aI E.I q_t_row 40 t_row]) rfl (by decide) (by decide) (by decide) (fun u hw => ?_)
  obtain ⟨r1, hu_⟩ : ∃ z, z = u := ⟨_, rfl⟩
  subst hu_
  try dsimp only at hw
  show G X E 2 [ob 7 q_t [.ref q_t_row, .int t_count], aI E.I q_t_row 40 t_row] 0 0 12 [(0, .ref q_t), (1, .int p0)] [.int (bI r1)]
  refine g_ifb_eq C0 (tgt := 27) dX7_digitAt_12 (by decide) (fun c2 => ?_) (fun c2 => ?_)
  · replace hw := hw.1 c2
    refine g_iconst C0 (v := 0) dX7_digitAt_27 (by decide) ?_
    exact g_iret C0 R1 dX7_digitAt_28 0 rfl hw [0, 1] (by decide) rfl (by decide) (by decide)
  · replace hw := hw.2 c2
    refine g_aload_n C0 dX7_digitAt_15 0 rfl ?_
    refine g_get C0 dX7_digitAt_16 0 rfl 0 rfl rfl hinX7 (by decide) (List.mem_of_getElem? (i := 1) rfl) rfl ?_
    refine g_iload_n C0 dX7_digitAt_19 1 rfl ?_
    obtain ⟨h3, hw⟩ := hw
    refine g_iald C0 (cA := E.I) dX7_digitAt_20 1 rfl h3 ?_
    refine g_bipush C0 (v := 48) dX7_digitAt_21 (by decide) ?_
    refine g_isub C0 dX7_digitAt_23 ?_
    refine g_goto C0 (tgt := 28) dX7_digitAt_24 (by decide) ?_
    exact g_iret C0 R1 dX7_digitAt_28 ((t_row (Int32.toNatClampNeg p0)) - 48) rfl hw [0, 1] (by decide) rfl (by decide) (by decide)
def w_X7_glueOf (p0 : Int32) (t_row : Nat → Int32) (Q : Int32 → Prop) : Prop := w_X7_digitAt (p0 * 5) t_row (fun (r1 : Int32) => Q r1)
theorem ddV_X7_glueOf : yX7_glueOf.cls = RX7 ∧ yX7_glueOf.cls ≠ "java/lang/invoke/MethodHandle" ∧ yX7_glueOf.cls ≠ "java/lang/invoke/VarHandle" ∧ (parseMethodDescriptor yX7_glueOf.desc).map (fun d => d.parameters.length) = some 1 := by decide +kernel
set_option maxHeartbeats 4000000 in
set_option maxRecDepth 100000 in
theorem c_X7_glueOf (l : Launch) (E : gE) (q_t q_t_row : Nat) (p0 : Int32) (t_count : Int32) (t_row : Nat → Int32) (Q : Int32 → Prop) (hw : w_X7_glueOf p0 t_row Q) : Ct l E yX7_glueOf wsX7_glueOf { frames := 2, cells := 0, slots := 0, locals := 43 } [.ref q_t, .int p0] [ob 7 q_t [.ref q_t_row, .int t_count], aI E.I q_t_row 40 t_row] (S := Int32) (fun u => some (.int u)) (fun u => Q u) (fun u => [ob 7 q_t [.ref q_t_row, .int t_count], aI E.I q_t_row 40 t_row]) := by
  unfold w_X7_glueOf at hw
  refine g_start (cc := cX7_glueOf) (nL := 2) (own := RX7) (ret := (some .int)) rfl (by decide) rfl (Nat.le_of_ble_eq_true rfl) (lv0 := [(0, .ref q_t), (1, .int p0)]) rfl (fun X C0 R1 => ?_)
  refine g_aload_n C0 dX7_glueOf_0 0 rfl ?_
  refine g_iload_n C0 dX7_glueOf_1 1 rfl ?_
  refine g_iconst C0 (v := 5) dX7_glueOf_2 (by decide) ?_
  refine g_imul C0 dX7_glueOf_3 ?_
  refine g_callV C0 (q0 := 0) (ci := 7) (c_X7_digitAt l E q_t q_t_row (p0 * 5) t_count t_row _ hw) dX7_glueOf_4 gX7_glueOf_X7_digitAt rfl ddV_X7_digitAt rfl (by decide) (by decide) rfl (Nat.le_of_ble_eq_true rfl) [0, 1] [] rfl (wr := []) rfl (by decide) (by decide) (by decide) rfl rfl (fun u hw => ?_)
  obtain ⟨r1, hu_⟩ : ∃ z, z = u := ⟨_, rfl⟩
  subst hu_
  try dsimp only at hw
  show G X E 2 [ob 7 q_t [.ref q_t_row, .int t_count], aI E.I q_t_row 40 t_row] 0 0 7 [(0, .ref q_t), (1, .int p0)] [.int r1]
  exact g_iret C0 R1 dX7_glueOf_7 r1 rfl hw [0, 1] (by decide) rfl (by decide) (by decide)
def w_X7_upperBehind (p0 : Int32) (t_row : Nat → Int32) (Q : Int32 → Prop) : Prop := w_X7_digitAt ((p0 * 5) + 2) t_row (fun (r1 : Int32) => Q r1)
theorem ddV_X7_upperBehind : yX7_upperBehind.cls = RX7 ∧ yX7_upperBehind.cls ≠ "java/lang/invoke/MethodHandle" ∧ yX7_upperBehind.cls ≠ "java/lang/invoke/VarHandle" ∧ (parseMethodDescriptor yX7_upperBehind.desc).map (fun d => d.parameters.length) = some 1 := by decide +kernel
set_option maxHeartbeats 4000000 in
set_option maxRecDepth 100000 in
theorem c_X7_upperBehind (l : Launch) (E : gE) (q_t q_t_row : Nat) (p0 : Int32) (t_count : Int32) (t_row : Nat → Int32) (Q : Int32 → Prop) (hw : w_X7_upperBehind p0 t_row Q) : Ct l E yX7_upperBehind wsX7_upperBehind { frames := 2, cells := 0, slots := 0, locals := 43 } [.ref q_t, .int p0] [ob 7 q_t [.ref q_t_row, .int t_count], aI E.I q_t_row 40 t_row] (S := Int32) (fun u => some (.int u)) (fun u => Q u) (fun u => [ob 7 q_t [.ref q_t_row, .int t_count], aI E.I q_t_row 40 t_row]) := by
  unfold w_X7_upperBehind at hw
  refine g_start (cc := cX7_upperBehind) (nL := 2) (own := RX7) (ret := (some .int)) rfl (by decide) rfl (Nat.le_of_ble_eq_true rfl) (lv0 := [(0, .ref q_t), (1, .int p0)]) rfl (fun X C0 R1 => ?_)
  refine g_aload_n C0 dX7_upperBehind_0 0 rfl ?_
  refine g_iload_n C0 dX7_upperBehind_1 1 rfl ?_
  refine g_iconst C0 (v := 5) dX7_upperBehind_2 (by decide) ?_
  refine g_imul C0 dX7_upperBehind_3 ?_
  refine g_iconst C0 (v := 2) dX7_upperBehind_4 (by decide) ?_
  refine g_iadd C0 dX7_upperBehind_5 ?_
  refine g_callV C0 (q0 := 0) (ci := 7) (c_X7_digitAt l E q_t q_t_row ((p0 * 5) + 2) t_count t_row _ hw) dX7_upperBehind_6 gX7_upperBehind_X7_digitAt rfl ddV_X7_digitAt rfl (by decide) (by decide) rfl (Nat.le_of_ble_eq_true rfl) [0, 1] [] rfl (wr := []) rfl (by decide) (by decide) (by decide) rfl rfl (fun u hw => ?_)
  obtain ⟨r1, hu_⟩ : ∃ z, z = u := ⟨_, rfl⟩
  subst hu_
  try dsimp only at hw
  show G X E 2 [ob 7 q_t [.ref q_t_row, .int t_count], aI E.I q_t_row 40 t_row] 0 0 9 [(0, .ref q_t), (1, .int p0)] [.int r1]
  exact g_iret C0 R1 dX7_upperBehind_9 r1 rfl hw [0, 1] (by decide) rfl (by decide) (by decide)
def w_X7_underBehind (p0 : Int32) (t_row : Nat → Int32) (Q : Int32 → Prop) : Prop := w_X7_digitAt ((p0 * 5) + 3) t_row (fun (r1 : Int32) => Q r1)
theorem ddV_X7_underBehind : yX7_underBehind.cls = RX7 ∧ yX7_underBehind.cls ≠ "java/lang/invoke/MethodHandle" ∧ yX7_underBehind.cls ≠ "java/lang/invoke/VarHandle" ∧ (parseMethodDescriptor yX7_underBehind.desc).map (fun d => d.parameters.length) = some 1 := by decide +kernel
set_option maxHeartbeats 4000000 in
set_option maxRecDepth 100000 in
theorem c_X7_underBehind (l : Launch) (E : gE) (q_t q_t_row : Nat) (p0 : Int32) (t_count : Int32) (t_row : Nat → Int32) (Q : Int32 → Prop) (hw : w_X7_underBehind p0 t_row Q) : Ct l E yX7_underBehind wsX7_underBehind { frames := 2, cells := 0, slots := 0, locals := 43 } [.ref q_t, .int p0] [ob 7 q_t [.ref q_t_row, .int t_count], aI E.I q_t_row 40 t_row] (S := Int32) (fun u => some (.int u)) (fun u => Q u) (fun u => [ob 7 q_t [.ref q_t_row, .int t_count], aI E.I q_t_row 40 t_row]) := by
  unfold w_X7_underBehind at hw
  refine g_start (cc := cX7_underBehind) (nL := 2) (own := RX7) (ret := (some .int)) rfl (by decide) rfl (Nat.le_of_ble_eq_true rfl) (lv0 := [(0, .ref q_t), (1, .int p0)]) rfl (fun X C0 R1 => ?_)
  refine g_aload_n C0 dX7_underBehind_0 0 rfl ?_
  refine g_iload_n C0 dX7_underBehind_1 1 rfl ?_
  refine g_iconst C0 (v := 5) dX7_underBehind_2 (by decide) ?_
  refine g_imul C0 dX7_underBehind_3 ?_
  refine g_iconst C0 (v := 3) dX7_underBehind_4 (by decide) ?_
  refine g_iadd C0 dX7_underBehind_5 ?_
  refine g_callV C0 (q0 := 0) (ci := 7) (c_X7_digitAt l E q_t q_t_row ((p0 * 5) + 3) t_count t_row _ hw) dX7_underBehind_6 gX7_underBehind_X7_digitAt rfl ddV_X7_digitAt rfl (by decide) (by decide) rfl (Nat.le_of_ble_eq_true rfl) [0, 1] [] rfl (wr := []) rfl (by decide) (by decide) (by decide) rfl rfl (fun u hw => ?_)
  obtain ⟨r1, hu_⟩ : ∃ z, z = u := ⟨_, rfl⟩
  subst hu_
  try dsimp only at hw
  show G X E 2 [ob 7 q_t [.ref q_t_row, .int t_count], aI E.I q_t_row 40 t_row] 0 0 9 [(0, .ref q_t), (1, .int p0)] [.int r1]
  exact g_iret C0 R1 dX7_underBehind_9 r1 rfl hw [0, 1] (by decide) rfl (by decide) (by decide)
def w_X7_append (p0 : Int32) (t_count : Int32) (t_row : Nat → Int32) (Q : Int32 → (Nat → Int32) → Int32 → Prop) : Prop := (t_count < 40 → vp_in t_count 40 ∧ (∀ f3 : Int32, f3 = (t_count + 1) → (Q f3 (upd t_row (Int32.toNatClampNeg t_count) p0) f3))) ∧ (¬ t_count < 40 → Q (-4) t_row t_count)
theorem ddV_X7_append : yX7_append.cls = RX7 ∧ yX7_append.cls ≠ "java/lang/invoke/MethodHandle" ∧ yX7_append.cls ≠ "java/lang/invoke/VarHandle" ∧ (parseMethodDescriptor yX7_append.desc).map (fun d => d.parameters.length) = some 1 := by decide +kernel
set_option maxHeartbeats 4000000 in
set_option maxRecDepth 100000 in
theorem c_X7_append (l : Launch) (E : gE) (q_t q_t_row : Nat) (p0 : Int32) (t_count : Int32) (t_row : Nat → Int32) (Q : Int32 → (Nat → Int32) → Int32 → Prop) (hw : w_X7_append p0 t_count t_row Q) : Ct l E yX7_append wsX7_append { frames := 0, cells := 0, slots := 0, locals := 0 } [.ref q_t, .int p0] [ob 7 q_t [.ref q_t_row, .int t_count], aI E.I q_t_row 40 t_row] (S := Int32 × (Nat → Int32) × Int32) (fun u => some (.int u.1)) (fun u => Q u.1 u.2.1 u.2.2) (fun u => [ob 7 q_t [.ref q_t_row, .int u.2.2], aI E.I q_t_row 40 u.2.1]) := by
  unfold w_X7_append at hw
  have hinX7 : ∀ w ∈ wsX70, w ∈ wsX7_append := fun _ h => List.mem_cons_of_mem _ (List.mem_append_right _ h)
  refine g_start (cc := cX7_append) (nL := 2) (own := RX7) (ret := (some .int)) rfl (by decide) rfl (Nat.le_of_ble_eq_true rfl) (lv0 := [(0, .ref q_t), (1, .int p0)]) rfl (fun X C0 R1 => ?_)
  refine g_aload_n C0 dX7_append_0 0 rfl ?_
  refine g_get C0 dX7_append_1 0 rfl 1 rfl rfl hinX7 (by decide) (List.mem_of_getElem? (i := 1) rfl) rfl ?_
  refine g_aload_n C0 dX7_append_4 0 rfl ?_
  refine g_get C0 dX7_append_5 0 rfl 0 rfl rfl hinX7 (by decide) (List.mem_of_getElem? (i := 2) rfl) rfl ?_
  refine g_alen C0 (v := 40) dX7_append_8 1 0 rfl rfl rfl ?_
  refine g_icmp_lt C0 (tgt := 15) dX7_append_9 (by decide) (fun c1 => ?_) (fun c1 => ?_)
  · replace hw := hw.1 c1
    refine g_aload_n C0 dX7_append_15 0 rfl ?_
    refine g_get C0 dX7_append_16 0 rfl 0 rfl rfl hinX7 (by decide) (List.mem_of_getElem? (i := 2) rfl) rfl ?_
    refine g_aload_n C0 dX7_append_19 0 rfl ?_
    refine g_get C0 dX7_append_20 0 rfl 1 rfl rfl hinX7 (by decide) (List.mem_of_getElem? (i := 1) rfl) rfl ?_
    refine g_iload_n C0 dX7_append_23 1 rfl ?_
    obtain ⟨h2, hw⟩ := hw
    refine g_iast C0 (ws2 := [ob 7 q_t [.ref q_t_row, .int t_count], aI E.I q_t_row 40 (upd t_row (Int32.toNatClampNeg t_count) p0)]) dX7_append_24 1 rfl h2 rfl ?_
    refine g_aload_n C0 dX7_append_25 0 rfl ?_
    refine g_dup C0 dX7_append_26 rfl ?_
    refine g_get C0 dX7_append_27 0 rfl 1 rfl rfl hinX7 (by decide) (List.mem_of_getElem? (i := 1) rfl) rfl ?_
    refine g_iconst C0 (v := 1) dX7_append_30 (by decide) ?_
    refine g_iadd C0 dX7_append_31 ?_
    refine g_topi (fun f3 ef3 => ?_)
    replace hw := hw f3 ef3
    refine g_put C0 (ws2 := [ob 7 q_t [.ref q_t_row, .int f3], aI E.I q_t_row 40 (upd t_row (Int32.toNatClampNeg t_count) p0)]) dX7_append_32 0 rfl 1 rfl hinX7 tyX7 tyX7_ok nmX7 (by decide) (List.mem_of_getElem? (i := 1) rfl) rfl rfl (tyX7_ok 1 (by decide)) rfl rfl (Nat.le_of_ble_eq_true rfl) rfl ?_
    refine g_aload_n C0 dX7_append_35 0 rfl ?_
    refine g_get C0 dX7_append_36 0 rfl 1 rfl rfl hinX7 (by decide) (List.mem_of_getElem? (i := 1) rfl) rfl ?_
    exact g_iret C0 R1 dX7_append_39 (f3, upd t_row (Int32.toNatClampNeg t_count) p0, f3) rfl hw [0, 1] (by decide) rfl (by decide) (by decide)
  · replace hw := hw.2 c1
    refine g_bipush C0 (v := (-4)) dX7_append_12 (by decide) ?_
    exact g_iret C0 R1 dX7_append_14 ((-4), t_row, t_count) rfl hw [0, 1] (by decide) rfl (by decide) (by decide)
def w_X7_clear (t_count : Int32) (Q : Int32 → Int32 → Prop) : Prop := Q t_count 0
theorem ddV_X7_clear : yX7_clear.cls = RX7 ∧ yX7_clear.cls ≠ "java/lang/invoke/MethodHandle" ∧ yX7_clear.cls ≠ "java/lang/invoke/VarHandle" ∧ (parseMethodDescriptor yX7_clear.desc).map (fun d => d.parameters.length) = some 0 := by decide +kernel
set_option maxHeartbeats 4000000 in
set_option maxRecDepth 100000 in
theorem c_X7_clear (l : Launch) (E : gE) (q_t q_t_row : Nat) (t_count : Int32) (Q : Int32 → Int32 → Prop) (hw : w_X7_clear t_count Q) : Ct l E yX7_clear wsX7_clear { frames := 0, cells := 0, slots := 0, locals := 0 } [.ref q_t] [ob 7 q_t [.ref q_t_row, .int t_count]] (S := Int32 × Int32) (fun u => some (.int u.1)) (fun u => Q u.1 u.2) (fun u => [ob 7 q_t [.ref q_t_row, .int u.2]]) := by
  unfold w_X7_clear at hw
  have hinX7 : ∀ w ∈ wsX70, w ∈ wsX7_clear := fun _ h => List.mem_cons_of_mem _ (List.mem_append_right _ h)
  refine g_start (cc := cX7_clear) (nL := 2) (own := RX7) (ret := (some .int)) rfl (by decide) rfl (Nat.le_of_ble_eq_true rfl) (lv0 := [(0, .ref q_t)]) rfl (fun X C0 R1 => ?_)
  refine g_aload_n C0 dX7_clear_0 0 rfl ?_
  refine g_get C0 dX7_clear_1 0 rfl 1 rfl rfl hinX7 (by decide) (List.mem_of_getElem? (i := 1) rfl) rfl ?_
  refine g_istore_n C0 (lv2 := [(1, .int t_count), (0, .ref q_t)]) dX7_clear_4 (by decide) rfl ?_
  refine g_aload_n C0 dX7_clear_5 1 rfl ?_
  refine g_iconst C0 (v := 0) dX7_clear_6 (by decide) ?_
  refine g_put C0 (ws2 := [ob 7 q_t [.ref q_t_row, .int 0]]) dX7_clear_7 0 rfl 1 rfl hinX7 tyX7 tyX7_ok nmX7 (by decide) (List.mem_of_getElem? (i := 1) rfl) rfl rfl (tyX7_ok 1 (by decide)) rfl rfl (Nat.le_of_ble_eq_true rfl) rfl ?_
  refine g_iload_n C0 dX7_clear_10 0 rfl ?_
  exact g_iret C0 R1 dX7_clear_11 (t_count, 0) rfl hw [0] (by decide) rfl (by decide) (by decide)
def w_X7_count (t_count : Int32) (Q : Int32 → Prop) : Prop := Q t_count
theorem ddV_X7_count : yX7_count.cls = RX7 ∧ yX7_count.cls ≠ "java/lang/invoke/MethodHandle" ∧ yX7_count.cls ≠ "java/lang/invoke/VarHandle" ∧ (parseMethodDescriptor yX7_count.desc).map (fun d => d.parameters.length) = some 0 := by decide +kernel
set_option maxHeartbeats 4000000 in
set_option maxRecDepth 100000 in
theorem c_X7_count (l : Launch) (E : gE) (q_t q_t_row : Nat) (t_count : Int32) (Q : Int32 → Prop) (hw : w_X7_count t_count Q) : Ct l E yX7_count wsX7_count { frames := 0, cells := 0, slots := 0, locals := 0 } [.ref q_t] [ob 7 q_t [.ref q_t_row, .int t_count]] (S := Int32) (fun u => some (.int u)) (fun u => Q u) (fun u => [ob 7 q_t [.ref q_t_row, .int t_count]]) := by
  unfold w_X7_count at hw
  have hinX7 : ∀ w ∈ wsX70, w ∈ wsX7_count := fun _ h => List.mem_cons_of_mem _ (List.mem_append_right _ h)
  refine g_start (cc := cX7_count) (nL := 1) (own := RX7) (ret := (some .int)) rfl (by decide) rfl (Nat.le_of_ble_eq_true rfl) (lv0 := [(0, .ref q_t)]) rfl (fun X C0 R1 => ?_)
  refine g_aload_n C0 dX7_count_0 0 rfl ?_
  refine g_get C0 dX7_count_1 0 rfl 1 rfl rfl hinX7 (by decide) (List.mem_of_getElem? (i := 1) rfl) rfl ?_
  exact g_iret C0 R1 dX7_count_4 t_count rfl hw [0] (by decide) rfl (by decide) (by decide)
def w_X7_stands (p0 : Int32) (t_row : Nat → Int32) (Q : Bool → Prop) : Prop := (p0 < 21 → ((p0 - p0 / 5 * 5) = 0 → w_X7_digitAt p0 t_row (fun (r3 : Int32) => w_X9_within r3 0 5 (fun (r4 : Bool) => Q r4))) ∧ (¬ (p0 - p0 / 5 * 5) = 0 → ((p0 - p0 / 5 * 5) = 1 → w_X7_digitAt p0 t_row (fun (r5 : Int32) => (¬ r5 = (-1) → Q false) ∧ (r5 = (-1) → Q true))) ∧ (¬ (p0 - p0 / 5 * 5) = 1 → ((p0 - p0 / 5 * 5) = 2 → w_X7_digitAt p0 t_row (fun (r7 : Int32) => w_X9_within r7 0 3 (fun (r8 : Bool) => Q r8))) ∧ (¬ (p0 - p0 / 5 * 5) = 2 → ((p0 - p0 / 5 * 5) = 3 → w_X7_digitAt p0 t_row (fun (r9 : Int32) => w_X9_within r9 0 3 (fun (r10 : Bool) => Q r10))) ∧ (¬ (p0 - p0 / 5 * 5) = 3 → w_X7_digitAt p0 t_row (fun (r11 : Int32) => (¬ r11 = (-1) → Q false) ∧ (r11 = (-1) → Q true))))))) ∧ (¬ p0 < 21 → Q false)
theorem ddV_X7_stands : yX7_stands.cls = RX7 ∧ yX7_stands.cls ≠ "java/lang/invoke/MethodHandle" ∧ yX7_stands.cls ≠ "java/lang/invoke/VarHandle" ∧ (parseMethodDescriptor yX7_stands.desc).map (fun d => d.parameters.length) = some 1 := by decide +kernel
set_option maxHeartbeats 4000000 in
set_option maxRecDepth 100000 in
theorem c_X7_stands (l : Launch) (E : gE) (q_t q_t_row : Nat) (p0 : Int32) (t_count : Int32) (t_row : Nat → Int32) (Q : Bool → Prop) (hw : w_X7_stands p0 t_row Q) : Ct l E yX7_stands wsX7_stands { frames := 2, cells := 0, slots := 0, locals := 43 } [.ref q_t, .int p0] [ob 7 q_t [.ref q_t_row, .int t_count], aI E.I q_t_row 40 t_row] (S := Bool) (fun u => some (.int (bI u))) (fun u => Q u) (fun u => [ob 7 q_t [.ref q_t_row, .int t_count], aI E.I q_t_row 40 t_row]) := by
  unfold w_X7_stands at hw
  refine g_start (cc := cX7_stands) (nL := 2) (own := RX7) (ret := (some .boolean)) rfl (by decide) rfl (Nat.le_of_ble_eq_true rfl) (lv0 := [(0, .ref q_t), (1, .int p0)]) rfl (fun X C0 R1 => ?_)
  refine g_iload_n C0 dX7_stands_0 1 rfl ?_
  refine g_bipush C0 (v := 21) dX7_stands_1 (by decide) ?_
  refine g_icmp_lt C0 (tgt := 8) dX7_stands_3 (by decide) (fun c1 => ?_) (fun c1 => ?_)
  · replace hw := hw.1 c1
    refine g_iload_n C0 dX7_stands_8 1 rfl ?_
    refine g_iconst C0 (v := 5) dX7_stands_9 (by decide) ?_
    refine g_irem C0 dX7_stands_10 (by decide) ?_
    by_cases c2_0 : (p0 - p0 / 5 * 5) = 0
    · replace hw := hw.1 c2_0
      refine g_tabIn C0 (off := 29) (tgt := 40) dX7_stands_11 0 (by rw [c2_0]; rfl) (by decide) (by decide) rfl (by decide) ?_
      refine g_aload_n C0 dX7_stands_40 0 rfl ?_
      refine g_iload_n C0 dX7_stands_41 1 rfl ?_
      refine g_callV C0 (q0 := 0) (ci := 7) (c_X7_digitAt l E q_t q_t_row p0 t_count t_row _ hw) dX7_stands_42 gX7_stands_X7_digitAt rfl ddV_X7_digitAt rfl (by decide) (by decide) rfl (Nat.le_of_ble_eq_true rfl) [0, 1] [] rfl (wr := []) rfl (by decide) (by decide) (by decide) rfl rfl (fun u hw => ?_)
      obtain ⟨r3, hu_⟩ : ∃ z, z = u := ⟨_, rfl⟩
      subst hu_
      try dsimp only at hw
      show G X E 2 [ob 7 q_t [.ref q_t_row, .int t_count], aI E.I q_t_row 40 t_row] 0 0 45 [(0, .ref q_t), (1, .int p0)] [.int r3]
      refine g_iconst C0 (v := 0) dX7_stands_45 (by decide) ?_
      refine g_iconst C0 (v := 5) dX7_stands_46 (by decide) ?_
      refine g_callN C0 (c_X9_within l E r3 0 5 _ hw) dX7_stands_47 gX7_stands_X9_within_n33 rfl (List.mem_of_getElem? (i := 4) rfl) (List.mem_of_getElem? (i := 8) rfl) (List.mem_of_getElem? (i := 7) rfl) ddS_X9_within rfl (by decide) (by decide) rfl (Nat.le_of_ble_eq_true rfl) [] [0, 1] rfl (wr := [ob 7 q_t [.ref q_t_row, .int t_count], aI E.I q_t_row 40 t_row]) rfl (by decide) (by decide) (by decide) (fun u hw => ?_)
      obtain ⟨r4, hu_⟩ : ∃ z, z = u := ⟨_, rfl⟩
      subst hu_
      try dsimp only at hw
      show G X E 2 [ob 7 q_t [.ref q_t_row, .int t_count], aI E.I q_t_row 40 t_row] 0 0 50 [(0, .ref q_t), (1, .int p0)] [.int (bI r4)]
      exact g_zret C0 R1 (b := r4) dX7_stands_50 r4 rfl hw [0, 1] (by decide) rfl (by decide) (by decide)
    · replace hw := hw.2 c2_0
      by_cases c2_1 : (p0 - p0 / 5 * 5) = 1
      · replace hw := hw.1 c2_1
        refine g_tabIn C0 (off := 51) (tgt := 62) dX7_stands_11 1 (by rw [c2_1]; rfl) (by decide) (by decide) rfl (by decide) ?_
        refine g_aload_n C0 dX7_stands_62 0 rfl ?_
        refine g_iload_n C0 dX7_stands_63 1 rfl ?_
        refine g_callV C0 (q0 := 0) (ci := 7) (c_X7_digitAt l E q_t q_t_row p0 t_count t_row _ hw) dX7_stands_64 gX7_stands_X7_digitAt rfl ddV_X7_digitAt rfl (by decide) (by decide) rfl (Nat.le_of_ble_eq_true rfl) [0, 1] [] rfl (wr := []) rfl (by decide) (by decide) (by decide) rfl rfl (fun u hw => ?_)
        obtain ⟨r5, hu_⟩ : ∃ z, z = u := ⟨_, rfl⟩
        subst hu_
        try dsimp only at hw
        show G X E 2 [ob 7 q_t [.ref q_t_row, .int t_count], aI E.I q_t_row 40 t_row] 0 0 67 [(0, .ref q_t), (1, .int p0)] [.int r5]
        refine g_iconst C0 (v := (-1)) dX7_stands_67 (by decide) ?_
        refine g_icmp_ne C0 (tgt := 75) dX7_stands_68 (by decide) (fun c6 => ?_) (fun c6 => ?_)
        · replace hw := hw.1 c6
          refine g_iconst C0 (v := 0) dX7_stands_75 (by decide) ?_
          exact g_zret C0 R1 (b := false) dX7_stands_76 false rfl hw [0, 1] (by decide) rfl (by decide) (by decide)
        · replace hw := hw.2 c6
          refine g_iconst C0 (v := 1) dX7_stands_71 (by decide) ?_
          refine g_goto C0 (tgt := 76) dX7_stands_72 (by decide) ?_
          exact g_zret C0 R1 (b := true) dX7_stands_76 true rfl hw [0, 1] (by decide) rfl (by decide) (by decide)
      · replace hw := hw.2 c2_1
        by_cases c2_2 : (p0 - p0 / 5 * 5) = 2
        · replace hw := hw.1 c2_2
          refine g_tabIn C0 (off := 40) (tgt := 51) dX7_stands_11 2 (by rw [c2_2]; rfl) (by decide) (by decide) rfl (by decide) ?_
          refine g_aload_n C0 dX7_stands_51 0 rfl ?_
          refine g_iload_n C0 dX7_stands_52 1 rfl ?_
          refine g_callV C0 (q0 := 0) (ci := 7) (c_X7_digitAt l E q_t q_t_row p0 t_count t_row _ hw) dX7_stands_53 gX7_stands_X7_digitAt rfl ddV_X7_digitAt rfl (by decide) (by decide) rfl (Nat.le_of_ble_eq_true rfl) [0, 1] [] rfl (wr := []) rfl (by decide) (by decide) (by decide) rfl rfl (fun u hw => ?_)
          obtain ⟨r7, hu_⟩ : ∃ z, z = u := ⟨_, rfl⟩
          subst hu_
          try dsimp only at hw
          show G X E 2 [ob 7 q_t [.ref q_t_row, .int t_count], aI E.I q_t_row 40 t_row] 0 0 56 [(0, .ref q_t), (1, .int p0)] [.int r7]
          refine g_iconst C0 (v := 0) dX7_stands_56 (by decide) ?_
          refine g_iconst C0 (v := 3) dX7_stands_57 (by decide) ?_
          refine g_callN C0 (c_X9_within l E r7 0 3 _ hw) dX7_stands_58 gX7_stands_X9_within_n33 rfl (List.mem_of_getElem? (i := 4) rfl) (List.mem_of_getElem? (i := 8) rfl) (List.mem_of_getElem? (i := 7) rfl) ddS_X9_within rfl (by decide) (by decide) rfl (Nat.le_of_ble_eq_true rfl) [] [0, 1] rfl (wr := [ob 7 q_t [.ref q_t_row, .int t_count], aI E.I q_t_row 40 t_row]) rfl (by decide) (by decide) (by decide) (fun u hw => ?_)
          obtain ⟨r8, hu_⟩ : ∃ z, z = u := ⟨_, rfl⟩
          subst hu_
          try dsimp only at hw
          show G X E 2 [ob 7 q_t [.ref q_t_row, .int t_count], aI E.I q_t_row 40 t_row] 0 0 61 [(0, .ref q_t), (1, .int p0)] [.int (bI r8)]
          exact g_zret C0 R1 (b := r8) dX7_stands_61 r8 rfl hw [0, 1] (by decide) rfl (by decide) (by decide)
        · replace hw := hw.2 c2_2
          by_cases c2_3 : (p0 - p0 / 5 * 5) = 3
          · replace hw := hw.1 c2_3
            refine g_tabIn C0 (off := 40) (tgt := 51) dX7_stands_11 3 (by rw [c2_3]; rfl) (by decide) (by decide) rfl (by decide) ?_
            refine g_aload_n C0 dX7_stands_51 0 rfl ?_
            refine g_iload_n C0 dX7_stands_52 1 rfl ?_
            refine g_callV C0 (q0 := 0) (ci := 7) (c_X7_digitAt l E q_t q_t_row p0 t_count t_row _ hw) dX7_stands_53 gX7_stands_X7_digitAt rfl ddV_X7_digitAt rfl (by decide) (by decide) rfl (Nat.le_of_ble_eq_true rfl) [0, 1] [] rfl (wr := []) rfl (by decide) (by decide) (by decide) rfl rfl (fun u hw => ?_)
            obtain ⟨r9, hu_⟩ : ∃ z, z = u := ⟨_, rfl⟩
            subst hu_
            try dsimp only at hw
            show G X E 2 [ob 7 q_t [.ref q_t_row, .int t_count], aI E.I q_t_row 40 t_row] 0 0 56 [(0, .ref q_t), (1, .int p0)] [.int r9]
            refine g_iconst C0 (v := 0) dX7_stands_56 (by decide) ?_
            refine g_iconst C0 (v := 3) dX7_stands_57 (by decide) ?_
            refine g_callN C0 (c_X9_within l E r9 0 3 _ hw) dX7_stands_58 gX7_stands_X9_within_n33 rfl (List.mem_of_getElem? (i := 4) rfl) (List.mem_of_getElem? (i := 8) rfl) (List.mem_of_getElem? (i := 7) rfl) ddS_X9_within rfl (by decide) (by decide) rfl (Nat.le_of_ble_eq_true rfl) [] [0, 1] rfl (wr := [ob 7 q_t [.ref q_t_row, .int t_count], aI E.I q_t_row 40 t_row]) rfl (by decide) (by decide) (by decide) (fun u hw => ?_)
            obtain ⟨r10, hu_⟩ : ∃ z, z = u := ⟨_, rfl⟩
            subst hu_
            try dsimp only at hw
            show G X E 2 [ob 7 q_t [.ref q_t_row, .int t_count], aI E.I q_t_row 40 t_row] 0 0 61 [(0, .ref q_t), (1, .int p0)] [.int (bI r10)]
            exact g_zret C0 R1 (b := r10) dX7_stands_61 r10 rfl hw [0, 1] (by decide) rfl (by decide) (by decide)
          · replace hw := hw.2 c2_3
            refine g_tabOut C0 (tgt := 62) dX7_stands_11 (by have e0 := neI (z := 0) c2_0 rfl; have e1 := neI (z := 1) c2_1 rfl; have e2 := neI (z := 2) c2_2 rfl; have e3 := neI (z := 3) c2_3 rfl; omega) (by decide) ?_
            refine g_aload_n C0 dX7_stands_62 0 rfl ?_
            refine g_iload_n C0 dX7_stands_63 1 rfl ?_
            refine g_callV C0 (q0 := 0) (ci := 7) (c_X7_digitAt l E q_t q_t_row p0 t_count t_row _ hw) dX7_stands_64 gX7_stands_X7_digitAt rfl ddV_X7_digitAt rfl (by decide) (by decide) rfl (Nat.le_of_ble_eq_true rfl) [0, 1] [] rfl (wr := []) rfl (by decide) (by decide) (by decide) rfl rfl (fun u hw => ?_)
            obtain ⟨r11, hu_⟩ : ∃ z, z = u := ⟨_, rfl⟩
            subst hu_
            try dsimp only at hw
            show G X E 2 [ob 7 q_t [.ref q_t_row, .int t_count], aI E.I q_t_row 40 t_row] 0 0 67 [(0, .ref q_t), (1, .int p0)] [.int r11]
            refine g_iconst C0 (v := (-1)) dX7_stands_67 (by decide) ?_
            refine g_icmp_ne C0 (tgt := 75) dX7_stands_68 (by decide) (fun c12 => ?_) (fun c12 => ?_)
            · replace hw := hw.1 c12
              refine g_iconst C0 (v := 0) dX7_stands_75 (by decide) ?_
              exact g_zret C0 R1 (b := false) dX7_stands_76 false rfl hw [0, 1] (by decide) rfl (by decide) (by decide)
            · replace hw := hw.2 c12
              refine g_iconst C0 (v := 1) dX7_stands_71 (by decide) ?_
              refine g_goto C0 (tgt := 76) dX7_stands_72 (by decide) ?_
              exact g_zret C0 R1 (b := true) dX7_stands_76 true rfl hw [0, 1] (by decide) rfl (by decide) (by decide)
  · replace hw := hw.2 c1
    refine g_iconst C0 (v := 0) dX7_stands_6 (by decide) ?_
    exact g_zret C0 R1 (b := false) dX7_stands_7 false rfl hw [0, 1] (by decide) rfl (by decide) (by decide)
def w_X7_faultPlace (t_count : Int32) (t_row : Nat → Int32) (Q : Int32 → Prop) : Prop := ∃ n8 : Nat, wL1 (fun (K2 : Int32 → Prop) (x1_1 : Int32) => (t_count ≤ x1_1 → (¬ (t_count - t_count / 5 * 5) = 1 → Q t_count) ∧ ((t_count - t_count / 5 * 5) = 1 → Q (-6))) ∧ (¬ t_count ≤ x1_1 → w_X7_stands x1_1 t_row (fun (r5 : Bool) => (r5 = true → ∀ x1_7 : Int32, x1_7 = (x1_1 + 1) → (K2 x1_7)) ∧ (r5 = false → Q x1_1)))) n8 0
theorem ddV_X7_faultPlace : yX7_faultPlace.cls = RX7 ∧ yX7_faultPlace.cls ≠ "java/lang/invoke/MethodHandle" ∧ yX7_faultPlace.cls ≠ "java/lang/invoke/VarHandle" ∧ (parseMethodDescriptor yX7_faultPlace.desc).map (fun d => d.parameters.length) = some 0 := by decide +kernel
set_option maxHeartbeats 4000000 in
set_option maxRecDepth 100000 in
theorem c_X7_faultPlace (l : Launch) (E : gE) (q_t q_t_row : Nat) (t_count : Int32) (t_row : Nat → Int32) (Q : Int32 → Prop) (hw : w_X7_faultPlace t_count t_row Q) : Ct l E yX7_faultPlace wsX7_faultPlace { frames := 3, cells := 0, slots := 0, locals := 64 } [.ref q_t] [ob 7 q_t [.ref q_t_row, .int t_count], aI E.I q_t_row 40 t_row] (S := Int32) (fun u => some (.int u)) (fun u => Q u) (fun u => [ob 7 q_t [.ref q_t_row, .int t_count], aI E.I q_t_row 40 t_row]) := by
  unfold w_X7_faultPlace at hw
  have hinX7 : ∀ w ∈ wsX70, w ∈ wsX7_faultPlace := fun _ h => List.mem_cons_of_mem _ (List.mem_append_right _ h)
  refine g_start (cc := cX7_faultPlace) (nL := 2) (own := RX7) (ret := (some .int)) rfl (by decide) rfl (Nat.le_of_ble_eq_true rfl) (lv0 := [(0, .ref q_t)]) rfl (fun X C0 R1 => ?_)
  refine g_iconst C0 (v := 0) dX7_faultPlace_0 (by decide) ?_
  refine g_istore_n C0 (lv2 := [(1, .int 0), (0, .ref q_t)]) dX7_faultPlace_1 (by decide) rfl ?_
  refine g_lv [1, 0] (lv2 := [(0, .ref q_t), (1, .int 0)]) rfl ?_
  obtain ⟨n8, hw⟩ := hw
  refine wL1_go (P := fun (x1_1 : Int32) => G X E 2 [ob 7 q_t [.ref q_t_row, .int t_count], aI E.I q_t_row 40 t_row] 0 0 2 [(0, .ref q_t), (1, .int x1_1)] []) (fun K2 hK2 x1_1 hw => ?_) n8 _ hw
  refine g_iload_n C0 dX7_faultPlace_2 1 rfl ?_
  refine g_aload_n C0 dX7_faultPlace_3 0 rfl ?_
  refine g_get C0 dX7_faultPlace_4 0 rfl 1 rfl rfl hinX7 (by decide) (List.mem_of_getElem? (i := 1) rfl) rfl ?_
  refine g_icmp_ge C0 (tgt := 26) dX7_faultPlace_7 (by decide) (fun c3 => ?_) (fun c3 => ?_)
  · replace hw := hw.1 c3
    refine g_aload_n C0 dX7_faultPlace_26 0 rfl ?_
    refine g_get C0 dX7_faultPlace_27 0 rfl 1 rfl rfl hinX7 (by decide) (List.mem_of_getElem? (i := 1) rfl) rfl ?_
    refine g_iconst C0 (v := 5) dX7_faultPlace_30 (by decide) ?_
    refine g_irem C0 dX7_faultPlace_31 (by decide) ?_
    refine g_iconst C0 (v := 1) dX7_faultPlace_32 (by decide) ?_
    refine g_icmp_ne C0 (tgt := 41) dX7_faultPlace_33 (by decide) (fun c4 => ?_) (fun c4 => ?_)
    · replace hw := hw.1 c4
      refine g_aload_n C0 dX7_faultPlace_41 0 rfl ?_
      refine g_get C0 dX7_faultPlace_42 0 rfl 1 rfl rfl hinX7 (by decide) (List.mem_of_getElem? (i := 1) rfl) rfl ?_
      exact g_iret C0 R1 dX7_faultPlace_45 t_count rfl hw [0, 1] (by decide) rfl (by decide) (by decide)
    · replace hw := hw.2 c4
      refine g_bipush C0 (v := (-6)) dX7_faultPlace_36 (by decide) ?_
      refine g_goto C0 (tgt := 45) dX7_faultPlace_38 (by decide) ?_
      exact g_iret C0 R1 dX7_faultPlace_45 (-6) rfl hw [0, 1] (by decide) rfl (by decide) (by decide)
  · replace hw := hw.2 c3
    refine g_aload_n C0 dX7_faultPlace_10 0 rfl ?_
    refine g_iload_n C0 dX7_faultPlace_11 1 rfl ?_
    refine g_callV C0 (q0 := 0) (ci := 7) (c_X7_stands l E q_t q_t_row x1_1 t_count t_row _ hw) dX7_faultPlace_12 gX7_faultPlace_X7_stands rfl ddV_X7_stands rfl (by decide) (by decide) rfl (Nat.le_of_ble_eq_true rfl) [0, 1] [] rfl (wr := []) rfl (by decide) (by decide) (by decide) rfl rfl (fun u hw => ?_)
    obtain ⟨r5, hu_⟩ : ∃ z, z = u := ⟨_, rfl⟩
    subst hu_
    try dsimp only at hw
    show G X E 2 [ob 7 q_t [.ref q_t_row, .int t_count], aI E.I q_t_row 40 t_row] 0 0 15 [(0, .ref q_t), (1, .int x1_1)] [.int (bI r5)]
    refine g_ifb_ne C0 (tgt := 20) dX7_faultPlace_15 (by decide) (fun c6 => ?_) (fun c6 => ?_)
    · replace hw := hw.1 c6
      obtain ⟨x1_7, ex1_7⟩ : ∃ y : Int32, y = x1_1 + 1 := ⟨_, rfl⟩
      replace hw := hw x1_7 ex1_7
      refine g_iinc C0 (v := x1_7) (lv2 := [(1, .int x1_7), (0, .ref q_t)]) dX7_faultPlace_20 1 rfl (by rw [ex1_7]; rfl) (by decide) rfl ?_
      refine g_goto C0 (tgt := 2) dX7_faultPlace_23 (by decide) ?_
      refine g_lv [1, 0] (lv2 := [(0, .ref q_t), (1, .int x1_7)]) rfl ?_
      exact hK2 _ hw
    · replace hw := hw.2 c6
      refine g_iload_n C0 dX7_faultPlace_18 1 rfl ?_
      exact g_iret C0 R1 dX7_faultPlace_19 x1_1 rfl hw [0, 1] (by decide) rfl (by decide) (by decide)
