def w_X9_say (p0 : Int32) (t_signs_count : Int32) (t_signs_row : Nat → Int32) (Q : Int32 → (Nat → Int32) → Int32 → Prop) : Prop := w_X9_within p0 33 126 (fun (r1 : Bool) => (r1 = true → w_X7_append p0 t_signs_count t_signs_row (fun (r3 : Int32) (t_signs_row_4 : Nat → Int32) (t_signs_count_5 : Int32) => Q r3 t_signs_row_4 t_signs_count_5)) ∧ (r1 = false → Q (-2) t_signs_row t_signs_count))
theorem ddV_X9_say : yX9_say.cls = RX9 ∧ yX9_say.cls ≠ "java/lang/invoke/MethodHandle" ∧ yX9_say.cls ≠ "java/lang/invoke/VarHandle" ∧ (parseMethodDescriptor yX9_say.desc).map (fun d => d.parameters.length) = some 1 := by decide +kernel
set_option maxHeartbeats 4000000 in
set_option maxRecDepth 100000 in
theorem c_X9_say (l : Launch) (E : gE) (q_t q_t_signs q_t_laps q_t_breaks q_t_fraction q_t_settings q_t_rates q_t_joints q_t_tested q_t_knocks q_t_choices q_t_signs_row : Nat) (p0 : Int32) (t_signs_count : Int32) (t_signs_row : Nat → Int32) (Q : Int32 → (Nat → Int32) → Int32 → Prop) (hw : w_X9_say p0 t_signs_count t_signs_row Q) : Ct l E yX9_say wsX9_say { frames := 1, cells := 0, slots := 0, locals := 22 } [.ref q_t, .int p0] [ob 9 q_t [.ref q_t_signs, .ref q_t_laps, .ref q_t_breaks, .ref q_t_fraction, .ref q_t_settings, .ref q_t_rates, .ref q_t_joints, .ref q_t_tested, .ref q_t_knocks, .ref q_t_choices], ob 7 q_t_signs [.ref q_t_signs_row, .int t_signs_count], aI E.I q_t_signs_row 40 t_signs_row] (S := Int32 × (Nat → Int32) × Int32) (fun u => some (.int u.1)) (fun u => Q u.1 u.2.1 u.2.2) (fun u => [ob 9 q_t [.ref q_t_signs, .ref q_t_laps, .ref q_t_breaks, .ref q_t_fraction, .ref q_t_settings, .ref q_t_rates, .ref q_t_joints, .ref q_t_tested, .ref q_t_knocks, .ref q_t_choices], ob 7 q_t_signs [.ref q_t_signs_row, .int u.2.2], aI E.I q_t_signs_row 40 u.2.1]) := by
  unfold w_X9_say at hw
  have hinX9 : ∀ w ∈ wsX90, w ∈ wsX9_say := fun _ h => List.mem_cons_of_mem _ (List.mem_append_left _ (List.mem_append_right _ h))
  refine g_start (cc := cX9_say) (nL := 2) (own := RX9) (ret := (some .int)) rfl (by decide) rfl (Nat.le_of_ble_eq_true rfl) (lv0 := [(0, .ref q_t), (1, .int p0)]) rfl (fun X C0 R1 => ?_)
  refine g_iload_n C0 dX9_say_0 1 rfl ?_
  refine g_bipush C0 (v := 33) dX9_say_1 (by decide) ?_
  refine g_bipush C0 (v := 126) dX9_say_3 (by decide) ?_
  refine g_callS C0 (c_X9_within l E p0 33 126 _ hw) dX9_say_5 gX9_say_X9_within rfl ddS_X9_within rfl (by decide) (by decide) rfl (Nat.le_of_ble_eq_true rfl) [] [0, 1, 2] rfl (wr := [ob 9 q_t [.ref q_t_signs, .ref q_t_laps, .ref q_t_breaks, .ref q_t_fraction, .ref q_t_settings, .ref q_t_rates, .ref q_t_joints, .ref q_t_tested, .ref q_t_knocks, .ref q_t_choices], ob 7 q_t_signs [.ref q_t_signs_row, .int t_signs_count], aI E.I q_t_signs_row 40 t_signs_row]) rfl (by decide) (by decide) (by decide) (fun u hw => ?_)
  obtain ⟨r1, hu_⟩ : ∃ z, z = u := ⟨_, rfl⟩
  subst hu_
  try dsimp only at hw
  show G X E 2 [ob 9 q_t [.ref q_t_signs, .ref q_t_laps, .ref q_t_breaks, .ref q_t_fraction, .ref q_t_settings, .ref q_t_rates, .ref q_t_joints, .ref q_t_tested, .ref q_t_knocks, .ref q_t_choices], ob 7 q_t_signs [.ref q_t_signs_row, .int t_signs_count], aI E.I q_t_signs_row 40 t_signs_row] 0 0 8 [(0, .ref q_t), (1, .int p0)] [.int (bI r1)]
  refine g_ifb_ne C0 (tgt := 14) dX9_say_8 (by decide) (fun c2 => ?_) (fun c2 => ?_)
  · replace hw := hw.1 c2
    refine g_aload_n C0 dX9_say_14 0 rfl ?_
    refine g_get C0 dX9_say_15 0 rfl 0 rfl rfl hinX9 (by decide) (List.mem_of_getElem? (i := 1) rfl) rfl ?_
    refine g_iload_n C0 dX9_say_18 1 rfl ?_
    refine g_callV C0 (q0 := 1) (ci := 7) (c_X7_append l E q_t_signs q_t_signs_row p0 t_signs_count t_signs_row _ hw) dX9_say_19 gX9_say_X7_append rfl ddV_X7_append rfl (by decide) (by decide) rfl (Nat.le_of_ble_eq_true rfl) [1, 2] [0] rfl (wr := [ob 9 q_t [.ref q_t_signs, .ref q_t_laps, .ref q_t_breaks, .ref q_t_fraction, .ref q_t_settings, .ref q_t_rates, .ref q_t_joints, .ref q_t_tested, .ref q_t_knocks, .ref q_t_choices]]) rfl (by decide) (by decide) (by decide) rfl rfl (fun u hw => ?_)
    obtain ⟨r3, t_signs_row_4, t_signs_count_5⟩ := u
    try dsimp only at hw
    show G X E 2 [ob 9 q_t [.ref q_t_signs, .ref q_t_laps, .ref q_t_breaks, .ref q_t_fraction, .ref q_t_settings, .ref q_t_rates, .ref q_t_joints, .ref q_t_tested, .ref q_t_knocks, .ref q_t_choices], ob 7 q_t_signs [.ref q_t_signs_row, .int t_signs_count_5], aI E.I q_t_signs_row 40 t_signs_row_4] 0 0 22 [(0, .ref q_t), (1, .int p0)] [.int r3]
    exact g_iret C0 R1 dX9_say_22 (r3, t_signs_row_4, t_signs_count_5) rfl hw [0, 1, 2] (by decide) rfl (by decide) (by decide)
  · replace hw := hw.2 c2
    refine g_bipush C0 (v := (-2)) dX9_say_11 (by decide) ?_
    exact g_iret C0 R1 dX9_say_13 ((-2), t_signs_row, t_signs_count) rfl hw [0, 1, 2] (by decide) rfl (by decide) (by decide)
def w_X9_wipe (t_signs_count : Int32) (Q : Int32 → Int32 → Prop) : Prop := w_X7_clear t_signs_count (fun (r1 : Int32) (t_signs_count_2 : Int32) => Q r1 t_signs_count_2)
theorem ddV_X9_wipe : yX9_wipe.cls = RX9 ∧ yX9_wipe.cls ≠ "java/lang/invoke/MethodHandle" ∧ yX9_wipe.cls ≠ "java/lang/invoke/VarHandle" ∧ (parseMethodDescriptor yX9_wipe.desc).map (fun d => d.parameters.length) = some 0 := by decide +kernel
set_option maxHeartbeats 4000000 in
set_option maxRecDepth 100000 in
theorem c_X9_wipe (l : Launch) (E : gE) (q_t q_t_signs q_t_laps q_t_breaks q_t_fraction q_t_settings q_t_rates q_t_joints q_t_tested q_t_knocks q_t_choices q_t_signs_row : Nat) (t_signs_count : Int32) (Q : Int32 → Int32 → Prop) (hw : w_X9_wipe t_signs_count Q) : Ct l E yX9_wipe wsX9_wipe { frames := 1, cells := 0, slots := 0, locals := 21 } [.ref q_t] [ob 9 q_t [.ref q_t_signs, .ref q_t_laps, .ref q_t_breaks, .ref q_t_fraction, .ref q_t_settings, .ref q_t_rates, .ref q_t_joints, .ref q_t_tested, .ref q_t_knocks, .ref q_t_choices], ob 7 q_t_signs [.ref q_t_signs_row, .int t_signs_count]] (S := Int32 × Int32) (fun u => some (.int u.1)) (fun u => Q u.1 u.2) (fun u => [ob 9 q_t [.ref q_t_signs, .ref q_t_laps, .ref q_t_breaks, .ref q_t_fraction, .ref q_t_settings, .ref q_t_rates, .ref q_t_joints, .ref q_t_tested, .ref q_t_knocks, .ref q_t_choices], ob 7 q_t_signs [.ref q_t_signs_row, .int u.2]]) := by
  unfold w_X9_wipe at hw
  have hinX9 : ∀ w ∈ wsX90, w ∈ wsX9_wipe := fun _ h => List.mem_cons_of_mem _ (List.mem_append_left _ (List.mem_append_right _ h))
  refine g_start (cc := cX9_wipe) (nL := 1) (own := RX9) (ret := (some .int)) rfl (by decide) rfl (Nat.le_of_ble_eq_true rfl) (lv0 := [(0, .ref q_t)]) rfl (fun X C0 R1 => ?_)
  refine g_aload_n C0 dX9_wipe_0 0 rfl ?_
  refine g_get C0 dX9_wipe_1 0 rfl 0 rfl rfl hinX9 (by decide) (List.mem_of_getElem? (i := 1) rfl) rfl ?_
  refine g_callV C0 (q0 := 1) (ci := 7) (c_X7_clear l E q_t_signs q_t_signs_row t_signs_count _ hw) dX9_wipe_4 gX9_wipe_X7_clear rfl ddV_X7_clear rfl (by decide) (by decide) rfl (Nat.le_of_ble_eq_true rfl) [1] [0] rfl (wr := [ob 9 q_t [.ref q_t_signs, .ref q_t_laps, .ref q_t_breaks, .ref q_t_fraction, .ref q_t_settings, .ref q_t_rates, .ref q_t_joints, .ref q_t_tested, .ref q_t_knocks, .ref q_t_choices]]) rfl (by decide) (by decide) (by decide) rfl rfl (fun u hw => ?_)
  obtain ⟨r1, t_signs_count_2⟩ := u
  try dsimp only at hw
  show G X E 1 [ob 9 q_t [.ref q_t_signs, .ref q_t_laps, .ref q_t_breaks, .ref q_t_fraction, .ref q_t_settings, .ref q_t_rates, .ref q_t_joints, .ref q_t_tested, .ref q_t_knocks, .ref q_t_choices], ob 7 q_t_signs [.ref q_t_signs_row, .int t_signs_count_2]] 0 0 7 [(0, .ref q_t)] [.int r1]
  exact g_iret C0 R1 dX9_wipe_7 (r1, t_signs_count_2) rfl hw [0, 1] (by decide) rfl (by decide) (by decide)
def w_X9_fault (t_signs_count : Int32) (t_signs_row : Nat → Int32) (Q : Int32 → Prop) : Prop := w_X7_faultPlace t_signs_count t_signs_row (fun (r1 : Int32) => Q r1)
theorem ddV_X9_fault : yX9_fault.cls = RX9 ∧ yX9_fault.cls ≠ "java/lang/invoke/MethodHandle" ∧ yX9_fault.cls ≠ "java/lang/invoke/VarHandle" ∧ (parseMethodDescriptor yX9_fault.desc).map (fun d => d.parameters.length) = some 0 := by decide +kernel
set_option maxHeartbeats 4000000 in
set_option maxRecDepth 100000 in
theorem c_X9_fault (l : Launch) (E : gE) (q_t q_t_signs q_t_laps q_t_breaks q_t_fraction q_t_settings q_t_rates q_t_joints q_t_tested q_t_knocks q_t_choices q_t_signs_row : Nat) (t_signs_count : Int32) (t_signs_row : Nat → Int32) (Q : Int32 → Prop) (hw : w_X9_fault t_signs_count t_signs_row Q) : Ct l E yX9_fault wsX9_fault { frames := 4, cells := 0, slots := 0, locals := 85 } [.ref q_t] [ob 9 q_t [.ref q_t_signs, .ref q_t_laps, .ref q_t_breaks, .ref q_t_fraction, .ref q_t_settings, .ref q_t_rates, .ref q_t_joints, .ref q_t_tested, .ref q_t_knocks, .ref q_t_choices], ob 7 q_t_signs [.ref q_t_signs_row, .int t_signs_count], aI E.I q_t_signs_row 40 t_signs_row] (S := Int32) (fun u => some (.int u)) (fun u => Q u) (fun u => [ob 9 q_t [.ref q_t_signs, .ref q_t_laps, .ref q_t_breaks, .ref q_t_fraction, .ref q_t_settings, .ref q_t_rates, .ref q_t_joints, .ref q_t_tested, .ref q_t_knocks, .ref q_t_choices], ob 7 q_t_signs [.ref q_t_signs_row, .int t_signs_count], aI E.I q_t_signs_row 40 t_signs_row]) := by
  unfold w_X9_fault at hw
  have hinX9 : ∀ w ∈ wsX90, w ∈ wsX9_fault := fun _ h => List.mem_cons_of_mem _ (List.mem_append_left _ (List.mem_append_right _ h))
  refine g_start (cc := cX9_fault) (nL := 1) (own := RX9) (ret := (some .int)) rfl (by decide) rfl (Nat.le_of_ble_eq_true rfl) (lv0 := [(0, .ref q_t)]) rfl (fun X C0 R1 => ?_)
  refine g_aload_n C0 dX9_fault_0 0 rfl ?_
  refine g_get C0 dX9_fault_1 0 rfl 0 rfl rfl hinX9 (by decide) (List.mem_of_getElem? (i := 1) rfl) rfl ?_
  refine g_callV C0 (q0 := 1) (ci := 7) (c_X7_faultPlace l E q_t_signs q_t_signs_row t_signs_count t_signs_row _ hw) dX9_fault_4 gX9_fault_X7_faultPlace rfl ddV_X7_faultPlace rfl (by decide) (by decide) rfl (Nat.le_of_ble_eq_true rfl) [1, 2] [0] rfl (wr := [ob 9 q_t [.ref q_t_signs, .ref q_t_laps, .ref q_t_breaks, .ref q_t_fraction, .ref q_t_settings, .ref q_t_rates, .ref q_t_joints, .ref q_t_tested, .ref q_t_knocks, .ref q_t_choices]]) rfl (by decide) (by decide) (by decide) rfl rfl (fun u hw => ?_)
  obtain ⟨r1, hu_⟩ : ∃ z, z = u := ⟨_, rfl⟩
  subst hu_
  try dsimp only at hw
  show G X E 1 [ob 9 q_t [.ref q_t_signs, .ref q_t_laps, .ref q_t_breaks, .ref q_t_fraction, .ref q_t_settings, .ref q_t_rates, .ref q_t_joints, .ref q_t_tested, .ref q_t_knocks, .ref q_t_choices], ob 7 q_t_signs [.ref q_t_signs_row, .int t_signs_count], aI E.I q_t_signs_row 40 t_signs_row] 0 0 7 [(0, .ref q_t)] [.int r1]
  exact g_iret C0 R1 dX9_fault_7 r1 rfl hw [0, 1, 2] (by decide) rfl (by decide) (by decide)
def w_X9_lapAt_S (q_LAP : Nat) (p0 : Int32) (t_laps : Nat → Option Nat) (Q : Prop) : Prop := w_X9_within p0 0 5 (fun (r1 : Bool) => (r1 = false → False) ∧ (r1 = true → vp_in p0 6 ∧ (t_laps (Int32.toNatClampNeg p0) = some q_LAP ∧ (Q))))
theorem ddV_X9_lapAt : yX9_lapAt.cls = RX9 ∧ yX9_lapAt.cls ≠ "java/lang/invoke/MethodHandle" ∧ yX9_lapAt.cls ≠ "java/lang/invoke/VarHandle" ∧ (parseMethodDescriptor yX9_lapAt.desc).map (fun d => d.parameters.length) = some 1 := by decide +kernel
set_option maxHeartbeats 4000000 in
set_option maxRecDepth 100000 in
theorem c_X9_lapAt_S (l : Launch) (E : gE) (q_t q_LAP q_t_signs q_t_laps q_t_breaks q_t_fraction q_t_settings q_t_rates q_t_joints q_t_tested q_t_knocks q_t_choices : Nat) (p0 : Int32) (t_laps : Nat → Option Nat) (Q : Prop) (hw : w_X9_lapAt_S q_LAP p0 t_laps Q) : Ct l E yX9_lapAt wsX9_lapAt { frames := 1, cells := 0, slots := 0, locals := 22 } [.ref q_t, .int p0] [ob 9 q_t [.ref q_t_signs, .ref q_t_laps, .ref q_t_breaks, .ref q_t_fraction, .ref q_t_settings, .ref q_t_rates, .ref q_t_joints, .ref q_t_tested, .ref q_t_knocks, .ref q_t_choices], aO E.O q_t_laps 6 t_laps] (S := Unit) (fun _ => some (.ref q_LAP)) (fun _ => Q) (fun u => [ob 9 q_t [.ref q_t_signs, .ref q_t_laps, .ref q_t_breaks, .ref q_t_fraction, .ref q_t_settings, .ref q_t_rates, .ref q_t_joints, .ref q_t_tested, .ref q_t_knocks, .ref q_t_choices], aO E.O q_t_laps 6 t_laps]) := by
  unfold w_X9_lapAt_S at hw
  have hinX9 : ∀ w ∈ wsX90, w ∈ wsX9_lapAt := fun _ h => List.mem_cons_of_mem _ (List.mem_append_right _ h)
  refine g_start (cc := cX9_lapAt) (nL := 2) (own := RX9) (ret := (some (.object "GlueHouse$Lap"))) rfl (by decide) rfl (Nat.le_of_ble_eq_true rfl) (lv0 := [(0, .ref q_t), (1, .int p0)]) rfl (fun X C0 R1 => ?_)
  refine g_iload_n C0 dX9_lapAt_0 1 rfl ?_
  refine g_iconst C0 (v := 0) dX9_lapAt_1 (by decide) ?_
  refine g_iconst C0 (v := 5) dX9_lapAt_2 (by decide) ?_
  refine g_callS C0 (c_X9_within l E p0 0 5 _ hw) dX9_lapAt_3 gX9_lapAt_X9_within rfl ddS_X9_within rfl (by decide) (by decide) rfl (Nat.le_of_ble_eq_true rfl) [] [0, 1] rfl (wr := [ob 9 q_t [.ref q_t_signs, .ref q_t_laps, .ref q_t_breaks, .ref q_t_fraction, .ref q_t_settings, .ref q_t_rates, .ref q_t_joints, .ref q_t_tested, .ref q_t_knocks, .ref q_t_choices], aO E.O q_t_laps 6 t_laps]) rfl (by decide) (by decide) (by decide) (fun u hw => ?_)
  obtain ⟨r1, hu_⟩ : ∃ z, z = u := ⟨_, rfl⟩
  subst hu_
  try dsimp only at hw
  show G X E 2 [ob 9 q_t [.ref q_t_signs, .ref q_t_laps, .ref q_t_breaks, .ref q_t_fraction, .ref q_t_settings, .ref q_t_rates, .ref q_t_joints, .ref q_t_tested, .ref q_t_knocks, .ref q_t_choices], aO E.O q_t_laps 6 t_laps] 0 0 6 [(0, .ref q_t), (1, .int p0)] [.int (bI r1)]
  refine g_ifb_eq C0 (tgt := 18) dX9_lapAt_6 (by decide) (fun c2 => ?_) (fun c2 => ?_)
  · replace hw := hw.1 c2
    refine g_null C0 dX9_lapAt_18 ?_
    exact hw.elim
  · replace hw := hw.2 c2
    refine g_aload_n C0 dX9_lapAt_9 0 rfl ?_
    refine g_get C0 dX9_lapAt_10 0 rfl 1 rfl rfl hinX9 (by decide) (List.mem_of_getElem? (i := 1) rfl) rfl ?_
    refine g_iload_n C0 dX9_lapAt_13 1 rfl ?_
    obtain ⟨h3, hw⟩ := hw
    obtain ⟨h4, hw⟩ := hw
    refine g_aald C0 (v := .ref q_LAP) dX9_lapAt_14 1 rfl h3 (by rw [h4]; rfl) ?_
    refine g_goto C0 (tgt := 19) dX9_lapAt_15 (by decide) ?_
    exact g_aret C0 R1 dX9_lapAt_19 () rfl hw [0, 1] (by decide) rfl (by decide) (by decide) (Or.inr ⟨_, rfl⟩)
def w_X9_lapAt_N (p0 : Int32) (t_laps : Nat → Option Nat) (Q : Prop) : Prop := w_X9_within p0 0 5 (fun (r1 : Bool) => (r1 = false → Q) ∧ (r1 = true → vp_in p0 6 ∧ (t_laps (Int32.toNatClampNeg p0) = none ∧ (Q))))
set_option maxHeartbeats 4000000 in
set_option maxRecDepth 100000 in
theorem c_X9_lapAt_N (l : Launch) (E : gE) (q_t q_t_signs q_t_laps q_t_breaks q_t_fraction q_t_settings q_t_rates q_t_joints q_t_tested q_t_knocks q_t_choices : Nat) (p0 : Int32) (t_laps : Nat → Option Nat) (Q : Prop) (hw : w_X9_lapAt_N p0 t_laps Q) : Ct l E yX9_lapAt wsX9_lapAt { frames := 1, cells := 0, slots := 0, locals := 22 } [.ref q_t, .int p0] [ob 9 q_t [.ref q_t_signs, .ref q_t_laps, .ref q_t_breaks, .ref q_t_fraction, .ref q_t_settings, .ref q_t_rates, .ref q_t_joints, .ref q_t_tested, .ref q_t_knocks, .ref q_t_choices], aO E.O q_t_laps 6 t_laps] (S := Unit) (fun _ => some .null) (fun _ => Q) (fun u => [ob 9 q_t [.ref q_t_signs, .ref q_t_laps, .ref q_t_breaks, .ref q_t_fraction, .ref q_t_settings, .ref q_t_rates, .ref q_t_joints, .ref q_t_tested, .ref q_t_knocks, .ref q_t_choices], aO E.O q_t_laps 6 t_laps]) := by
  unfold w_X9_lapAt_N at hw
  have hinX9 : ∀ w ∈ wsX90, w ∈ wsX9_lapAt := fun _ h => List.mem_cons_of_mem _ (List.mem_append_right _ h)
  refine g_start (cc := cX9_lapAt) (nL := 2) (own := RX9) (ret := (some (.object "GlueHouse$Lap"))) rfl (by decide) rfl (Nat.le_of_ble_eq_true rfl) (lv0 := [(0, .ref q_t), (1, .int p0)]) rfl (fun X C0 R1 => ?_)
  refine g_iload_n C0 dX9_lapAt_0 1 rfl ?_
  refine g_iconst C0 (v := 0) dX9_lapAt_1 (by decide) ?_
  refine g_iconst C0 (v := 5) dX9_lapAt_2 (by decide) ?_
  refine g_callS C0 (c_X9_within l E p0 0 5 _ hw) dX9_lapAt_3 gX9_lapAt_X9_within rfl ddS_X9_within rfl (by decide) (by decide) rfl (Nat.le_of_ble_eq_true rfl) [] [0, 1] rfl (wr := [ob 9 q_t [.ref q_t_signs, .ref q_t_laps, .ref q_t_breaks, .ref q_t_fraction, .ref q_t_settings, .ref q_t_rates, .ref q_t_joints, .ref q_t_tested, .ref q_t_knocks, .ref q_t_choices], aO E.O q_t_laps 6 t_laps]) rfl (by decide) (by decide) (by decide) (fun u hw => ?_)
  obtain ⟨r1, hu_⟩ : ∃ z, z = u := ⟨_, rfl⟩
  subst hu_
  try dsimp only at hw
  show G X E 2 [ob 9 q_t [.ref q_t_signs, .ref q_t_laps, .ref q_t_breaks, .ref q_t_fraction, .ref q_t_settings, .ref q_t_rates, .ref q_t_joints, .ref q_t_tested, .ref q_t_knocks, .ref q_t_choices], aO E.O q_t_laps 6 t_laps] 0 0 6 [(0, .ref q_t), (1, .int p0)] [.int (bI r1)]
  refine g_ifb_eq C0 (tgt := 18) dX9_lapAt_6 (by decide) (fun c2 => ?_) (fun c2 => ?_)
  · replace hw := hw.1 c2
    refine g_null C0 dX9_lapAt_18 ?_
    exact g_aret C0 R1 dX9_lapAt_19 () rfl hw [0, 1] (by decide) rfl (by decide) (by decide) (Or.inl rfl)
  · replace hw := hw.2 c2
    refine g_aload_n C0 dX9_lapAt_9 0 rfl ?_
    refine g_get C0 dX9_lapAt_10 0 rfl 1 rfl rfl hinX9 (by decide) (List.mem_of_getElem? (i := 1) rfl) rfl ?_
    refine g_iload_n C0 dX9_lapAt_13 1 rfl ?_
    obtain ⟨h3, hw⟩ := hw
    obtain ⟨h4, hw⟩ := hw
    refine g_aald C0 (v := .null) dX9_lapAt_14 1 rfl h3 (by rw [h4]; rfl) ?_
    refine g_goto C0 (tgt := 19) dX9_lapAt_15 (by decide) ?_
    exact g_aret C0 R1 dX9_lapAt_19 () rfl hw [0, 1] (by decide) rfl (by decide) (by decide) (Or.inl rfl)
def w_X9_spot_S (q_LAP : Nat) (p0 : Int32) (p1 : Int32) (p2 : Int32) (t_laps : Nat → Option Nat) (LAP_spots : Int32) (LAP_glue : Nat → Int32) (LAP_upper : Nat → Int32) (LAP_under : Nat → Int32) (LAP_work : Nat → Int32) (LAP_wear : Nat → Int32) (Q : Int32 → Prop) : Prop := w_X9_lapAt_S q_LAP p0 t_laps (w_X5_hasSpot p1 LAP_spots (fun (r1 : Bool) => (r1 = true → (p2 = 0 → vp_in p1 5 ∧ (Q (LAP_glue (Int32.toNatClampNeg p1)))) ∧ (¬ p2 = 0 → (p2 = 1 → w_X5_isLast p1 LAP_spots (fun (r5 : Bool) => (r5 = false → vp_in p1 5 ∧ (Q (LAP_upper (Int32.toNatClampNeg p1)))) ∧ (r5 = true → Q (-6)))) ∧ (¬ p2 = 1 → (p2 = 2 → w_X5_isLast p1 LAP_spots (fun (r8 : Bool) => (r8 = false → vp_in p1 5 ∧ (Q (LAP_under (Int32.toNatClampNeg p1)))) ∧ (r8 = true → Q (-6)))) ∧ (¬ p2 = 2 → (p2 = 3 → vp_in p1 5 ∧ (Q (LAP_work (Int32.toNatClampNeg p1)))) ∧ (¬ p2 = 3 → (p2 = 4 → vp_in p1 5 ∧ (Q (LAP_wear (Int32.toNatClampNeg p1)))) ∧ (¬ p2 = 4 → Q (-2))))))) ∧ (r1 = false → Q (-1))))
theorem ddV_X9_spot : yX9_spot.cls = RX9 ∧ yX9_spot.cls ≠ "java/lang/invoke/MethodHandle" ∧ yX9_spot.cls ≠ "java/lang/invoke/VarHandle" ∧ (parseMethodDescriptor yX9_spot.desc).map (fun d => d.parameters.length) = some 3 := by decide +kernel
set_option maxHeartbeats 4000000 in
set_option maxRecDepth 100000 in
theorem c_X9_spot_S (l : Launch) (E : gE) (q_t q_LAP q_t_signs q_t_laps q_t_breaks q_t_fraction q_t_settings q_t_rates q_t_joints q_t_tested q_t_knocks q_t_choices q_LAP_glue q_LAP_upper q_LAP_under q_LAP_work q_LAP_wear q_LAP_cells : Nat) (p0 : Int32) (p1 : Int32) (p2 : Int32) (t_laps : Nat → Option Nat) (LAP_spots : Int32) (LAP_cure : Int32) (LAP_glue : Nat → Int32) (LAP_upper : Nat → Int32) (LAP_under : Nat → Int32) (LAP_work : Nat → Int32) (LAP_wear : Nat → Int32) (Q : Int32 → Prop) (hw : w_X9_spot_S q_LAP p0 p1 p2 t_laps LAP_spots LAP_glue LAP_upper LAP_under LAP_work LAP_wear Q) : Ct l E yX9_spot wsX9_spot { frames := 2, cells := 0, slots := 0, locals := 43 } [.ref q_t, .int p0, .int p1, .int p2] [ob 9 q_t [.ref q_t_signs, .ref q_t_laps, .ref q_t_breaks, .ref q_t_fraction, .ref q_t_settings, .ref q_t_rates, .ref q_t_joints, .ref q_t_tested, .ref q_t_knocks, .ref q_t_choices], aO E.O q_t_laps 6 t_laps, ob 5 q_LAP [.ref q_LAP_glue, .ref q_LAP_upper, .ref q_LAP_under, .ref q_LAP_work, .ref q_LAP_wear, .ref q_LAP_cells, .int LAP_spots, .int LAP_cure], aI E.I q_LAP_glue 5 LAP_glue, aI E.I q_LAP_upper 5 LAP_upper, aI E.I q_LAP_under 5 LAP_under, aI E.I q_LAP_work 5 LAP_work, aI E.I q_LAP_wear 5 LAP_wear] (S := Int32) (fun u => some (.int u)) (fun u => Q u) (fun u => [ob 9 q_t [.ref q_t_signs, .ref q_t_laps, .ref q_t_breaks, .ref q_t_fraction, .ref q_t_settings, .ref q_t_rates, .ref q_t_joints, .ref q_t_tested, .ref q_t_knocks, .ref q_t_choices], aO E.O q_t_laps 6 t_laps, ob 5 q_LAP [.ref q_LAP_glue, .ref q_LAP_upper, .ref q_LAP_under, .ref q_LAP_work, .ref q_LAP_wear, .ref q_LAP_cells, .int LAP_spots, .int LAP_cure], aI E.I q_LAP_glue 5 LAP_glue, aI E.I q_LAP_upper 5 LAP_upper, aI E.I q_LAP_under 5 LAP_under, aI E.I q_LAP_work 5 LAP_work, aI E.I q_LAP_wear 5 LAP_wear]) := by
  unfold w_X9_spot_S at hw
  have hinX5 : ∀ w ∈ wsX50, w ∈ wsX9_spot := fun _ h => List.mem_cons_of_mem _ (List.mem_append_left _ (List.mem_append_right _ h))
  refine g_start (cc := cX9_spot) (nL := 5) (own := RX9) (ret := (some .int)) rfl (by decide) rfl (Nat.le_of_ble_eq_true rfl) (lv0 := [(0, .ref q_t), (1, .int p0), (2, .int p1), (3, .int p2)]) rfl (fun X C0 R1 => ?_)
  refine g_aload_n C0 dX9_spot_0 0 rfl ?_
  refine g_iload_n C0 dX9_spot_1 1 rfl ?_
  refine g_callV C0 (q0 := 0) (ci := 9) (c_X9_lapAt_S l E q_t q_LAP q_t_signs q_t_laps q_t_breaks q_t_fraction q_t_settings q_t_rates q_t_joints q_t_tested q_t_knocks q_t_choices p0 t_laps _ hw) dX9_spot_2 gX9_spot_X9_lapAt rfl ddV_X9_lapAt rfl (by decide) (by decide) rfl (Nat.le_of_ble_eq_true rfl) [0, 1] [2, 3, 4, 5, 6, 7] rfl (wr := [ob 5 q_LAP [.ref q_LAP_glue, .ref q_LAP_upper, .ref q_LAP_under, .ref q_LAP_work, .ref q_LAP_wear, .ref q_LAP_cells, .int LAP_spots, .int LAP_cure], aI E.I q_LAP_glue 5 LAP_glue, aI E.I q_LAP_upper 5 LAP_upper, aI E.I q_LAP_under 5 LAP_under, aI E.I q_LAP_work 5 LAP_work, aI E.I q_LAP_wear 5 LAP_wear]) rfl (by decide) (by decide) (by decide) rfl rfl (fun u hw => ?_)
  try dsimp only at hw
  show G X E 5 [ob 5 q_LAP [.ref q_LAP_glue, .ref q_LAP_upper, .ref q_LAP_under, .ref q_LAP_work, .ref q_LAP_wear, .ref q_LAP_cells, .int LAP_spots, .int LAP_cure], aI E.I q_LAP_glue 5 LAP_glue, aI E.I q_LAP_upper 5 LAP_upper, aI E.I q_LAP_under 5 LAP_under, aI E.I q_LAP_work 5 LAP_work, aI E.I q_LAP_wear 5 LAP_wear, ob 9 q_t [.ref q_t_signs, .ref q_t_laps, .ref q_t_breaks, .ref q_t_fraction, .ref q_t_settings, .ref q_t_rates, .ref q_t_joints, .ref q_t_tested, .ref q_t_knocks, .ref q_t_choices], aO E.O q_t_laps 6 t_laps] 0 0 5 [(0, .ref q_t), (1, .int p0), (2, .int p1), (3, .int p2)] [.ref q_LAP]
  refine g_astore C0 (lv2 := [(4, .ref q_LAP), (0, .ref q_t), (1, .int p0), (2, .int p1), (3, .int p2)]) dX9_spot_5 (by decide) rfl ?_
  refine g_aload C0 dX9_spot_7 0 rfl ?_
  refine g_ifnull C0 dX9_spot_9 ?_
  refine g_aload C0 dX9_spot_12 0 rfl ?_
  refine g_iload_n C0 dX9_spot_14 3 rfl ?_
  refine g_callV C0 (q0 := 0) (ci := 5) (c_X5_hasSpot l E q_LAP q_LAP_glue q_LAP_upper q_LAP_under q_LAP_work q_LAP_wear q_LAP_cells p1 LAP_spots LAP_cure _ hw) dX9_spot_15 gX9_spot_X5_hasSpot rfl ddV_X5_hasSpot rfl (by decide) (by decide) rfl (Nat.le_of_ble_eq_true rfl) [0] [1, 2, 3, 4, 5, 6, 7] rfl (wr := [aI E.I q_LAP_glue 5 LAP_glue, aI E.I q_LAP_upper 5 LAP_upper, aI E.I q_LAP_under 5 LAP_under, aI E.I q_LAP_work 5 LAP_work, aI E.I q_LAP_wear 5 LAP_wear, ob 9 q_t [.ref q_t_signs, .ref q_t_laps, .ref q_t_breaks, .ref q_t_fraction, .ref q_t_settings, .ref q_t_rates, .ref q_t_joints, .ref q_t_tested, .ref q_t_knocks, .ref q_t_choices], aO E.O q_t_laps 6 t_laps]) rfl (by decide) (by decide) (by decide) rfl rfl (fun u hw => ?_)
  obtain ⟨r1, hu_⟩ : ∃ z, z = u := ⟨_, rfl⟩
  subst hu_
  try dsimp only at hw
  show G X E 5 [aI E.I q_LAP_glue 5 LAP_glue, aI E.I q_LAP_upper 5 LAP_upper, aI E.I q_LAP_under 5 LAP_under, aI E.I q_LAP_work 5 LAP_work, aI E.I q_LAP_wear 5 LAP_wear, ob 9 q_t [.ref q_t_signs, .ref q_t_laps, .ref q_t_breaks, .ref q_t_fraction, .ref q_t_settings, .ref q_t_rates, .ref q_t_joints, .ref q_t_tested, .ref q_t_knocks, .ref q_t_choices], aO E.O q_t_laps 6 t_laps, ob 5 q_LAP [.ref q_LAP_glue, .ref q_LAP_upper, .ref q_LAP_under, .ref q_LAP_work, .ref q_LAP_wear, .ref q_LAP_cells, .int LAP_spots, .int LAP_cure]] 0 0 18 [(4, .ref q_LAP), (0, .ref q_t), (1, .int p0), (2, .int p1), (3, .int p2)] [.int (bI r1)]
  refine g_ifb_ne C0 (tgt := 23) dX9_spot_18 (by decide) (fun c2 => ?_) (fun c2 => ?_)
  · replace hw := hw.1 c2
    refine g_iload_n C0 dX9_spot_23 4 rfl ?_
    by_cases c3_0 : p2 = 0
    · replace hw := hw.1 c3_0
      refine g_tabIn C0 (off := 36) (tgt := 60) dX9_spot_24 0 (by rw [c3_0]; rfl) (by decide) (by decide) rfl (by decide) ?_
      refine g_aload C0 dX9_spot_60 0 rfl ?_
      refine g_get C0 dX9_spot_62 7 rfl 0 rfl rfl hinX5 (by decide) (List.mem_of_getElem? (i := 1) rfl) rfl ?_
      refine g_iload_n C0 dX9_spot_65 3 rfl ?_
      obtain ⟨h4, hw⟩ := hw
      refine g_iald C0 (cA := E.I) dX9_spot_66 0 rfl h4 ?_
      exact g_iret C0 R1 dX9_spot_67 (LAP_glue (Int32.toNatClampNeg p1)) rfl hw [5, 6, 7, 0, 1, 2, 3, 4] (by decide) rfl (by decide) (by decide)
    · replace hw := hw.2 c3_0
      by_cases c3_1 : p2 = 1
      · replace hw := hw.1 c3_1
        refine g_tabIn C0 (off := 44) (tgt := 68) dX9_spot_24 1 (by rw [c3_1]; rfl) (by decide) (by decide) rfl (by decide) ?_
        refine g_aload C0 dX9_spot_68 0 rfl ?_
        refine g_iload_n C0 dX9_spot_70 3 rfl ?_
        refine g_callV C0 (q0 := 7) (ci := 5) (c_X5_isLast l E q_LAP q_LAP_glue q_LAP_upper q_LAP_under q_LAP_work q_LAP_wear q_LAP_cells p1 LAP_spots LAP_cure _ hw) dX9_spot_71 gX9_spot_X5_isLast rfl ddV_X5_isLast rfl (by decide) (by decide) rfl (Nat.le_of_ble_eq_true rfl) [7] [0, 1, 2, 3, 4, 5, 6] rfl (wr := [aI E.I q_LAP_glue 5 LAP_glue, aI E.I q_LAP_upper 5 LAP_upper, aI E.I q_LAP_under 5 LAP_under, aI E.I q_LAP_work 5 LAP_work, aI E.I q_LAP_wear 5 LAP_wear, ob 9 q_t [.ref q_t_signs, .ref q_t_laps, .ref q_t_breaks, .ref q_t_fraction, .ref q_t_settings, .ref q_t_rates, .ref q_t_joints, .ref q_t_tested, .ref q_t_knocks, .ref q_t_choices], aO E.O q_t_laps 6 t_laps]) rfl (by decide) (by decide) (by decide) rfl rfl (fun u hw => ?_)
        obtain ⟨r5, hu_⟩ : ∃ z, z = u := ⟨_, rfl⟩
        subst hu_
        try dsimp only at hw
        show G X E 5 [aI E.I q_LAP_glue 5 LAP_glue, aI E.I q_LAP_upper 5 LAP_upper, aI E.I q_LAP_under 5 LAP_under, aI E.I q_LAP_work 5 LAP_work, aI E.I q_LAP_wear 5 LAP_wear, ob 9 q_t [.ref q_t_signs, .ref q_t_laps, .ref q_t_breaks, .ref q_t_fraction, .ref q_t_settings, .ref q_t_rates, .ref q_t_joints, .ref q_t_tested, .ref q_t_knocks, .ref q_t_choices], aO E.O q_t_laps 6 t_laps, ob 5 q_LAP [.ref q_LAP_glue, .ref q_LAP_upper, .ref q_LAP_under, .ref q_LAP_work, .ref q_LAP_wear, .ref q_LAP_cells, .int LAP_spots, .int LAP_cure]] 0 0 74 [(4, .ref q_LAP), (0, .ref q_t), (1, .int p0), (2, .int p1), (3, .int p2)] [.int (bI r5)]
        refine g_ifb_eq C0 (tgt := 82) dX9_spot_74 (by decide) (fun c6 => ?_) (fun c6 => ?_)
        · replace hw := hw.1 c6
          refine g_aload C0 dX9_spot_82 0 rfl ?_
          refine g_get C0 dX9_spot_84 7 rfl 1 rfl rfl hinX5 (by decide) (List.mem_of_getElem? (i := 2) rfl) rfl ?_
          refine g_iload_n C0 dX9_spot_87 3 rfl ?_
          obtain ⟨h7, hw⟩ := hw
          refine g_iald C0 (cA := E.I) dX9_spot_88 1 rfl h7 ?_
          exact g_iret C0 R1 dX9_spot_89 (LAP_upper (Int32.toNatClampNeg p1)) rfl hw [5, 6, 7, 0, 1, 2, 3, 4] (by decide) rfl (by decide) (by decide)
        · replace hw := hw.2 c6
          refine g_bipush C0 (v := (-6)) dX9_spot_77 (by decide) ?_
          refine g_goto C0 (tgt := 89) dX9_spot_79 (by decide) ?_
          exact g_iret C0 R1 dX9_spot_89 (-6) rfl hw [5, 6, 7, 0, 1, 2, 3, 4] (by decide) rfl (by decide) (by decide)
      · replace hw := hw.2 c3_1
        by_cases c3_2 : p2 = 2
        · replace hw := hw.1 c3_2
          refine g_tabIn C0 (off := 66) (tgt := 90) dX9_spot_24 2 (by rw [c3_2]; rfl) (by decide) (by decide) rfl (by decide) ?_
          refine g_aload C0 dX9_spot_90 0 rfl ?_
          refine g_iload_n C0 dX9_spot_92 3 rfl ?_
          refine g_callV C0 (q0 := 7) (ci := 5) (c_X5_isLast l E q_LAP q_LAP_glue q_LAP_upper q_LAP_under q_LAP_work q_LAP_wear q_LAP_cells p1 LAP_spots LAP_cure _ hw) dX9_spot_93 gX9_spot_X5_isLast rfl ddV_X5_isLast rfl (by decide) (by decide) rfl (Nat.le_of_ble_eq_true rfl) [7] [0, 1, 2, 3, 4, 5, 6] rfl (wr := [aI E.I q_LAP_glue 5 LAP_glue, aI E.I q_LAP_upper 5 LAP_upper, aI E.I q_LAP_under 5 LAP_under, aI E.I q_LAP_work 5 LAP_work, aI E.I q_LAP_wear 5 LAP_wear, ob 9 q_t [.ref q_t_signs, .ref q_t_laps, .ref q_t_breaks, .ref q_t_fraction, .ref q_t_settings, .ref q_t_rates, .ref q_t_joints, .ref q_t_tested, .ref q_t_knocks, .ref q_t_choices], aO E.O q_t_laps 6 t_laps]) rfl (by decide) (by decide) (by decide) rfl rfl (fun u hw => ?_)
          obtain ⟨r8, hu_⟩ : ∃ z, z = u := ⟨_, rfl⟩
          subst hu_
          try dsimp only at hw
          show G X E 5 [aI E.I q_LAP_glue 5 LAP_glue, aI E.I q_LAP_upper 5 LAP_upper, aI E.I q_LAP_under 5 LAP_under, aI E.I q_LAP_work 5 LAP_work, aI E.I q_LAP_wear 5 LAP_wear, ob 9 q_t [.ref q_t_signs, .ref q_t_laps, .ref q_t_breaks, .ref q_t_fraction, .ref q_t_settings, .ref q_t_rates, .ref q_t_joints, .ref q_t_tested, .ref q_t_knocks, .ref q_t_choices], aO E.O q_t_laps 6 t_laps, ob 5 q_LAP [.ref q_LAP_glue, .ref q_LAP_upper, .ref q_LAP_under, .ref q_LAP_work, .ref q_LAP_wear, .ref q_LAP_cells, .int LAP_spots, .int LAP_cure]] 0 0 96 [(4, .ref q_LAP), (0, .ref q_t), (1, .int p0), (2, .int p1), (3, .int p2)] [.int (bI r8)]
          refine g_ifb_eq C0 (tgt := 104) dX9_spot_96 (by decide) (fun c9 => ?_) (fun c9 => ?_)
          · replace hw := hw.1 c9
            refine g_aload C0 dX9_spot_104 0 rfl ?_
            refine g_get C0 dX9_spot_106 7 rfl 2 rfl rfl hinX5 (by decide) (List.mem_of_getElem? (i := 3) rfl) rfl ?_
            refine g_iload_n C0 dX9_spot_109 3 rfl ?_
            obtain ⟨h10, hw⟩ := hw
            refine g_iald C0 (cA := E.I) dX9_spot_110 2 rfl h10 ?_
            exact g_iret C0 R1 dX9_spot_111 (LAP_under (Int32.toNatClampNeg p1)) rfl hw [5, 6, 7, 0, 1, 2, 3, 4] (by decide) rfl (by decide) (by decide)
          · replace hw := hw.2 c9
            refine g_bipush C0 (v := (-6)) dX9_spot_99 (by decide) ?_
            refine g_goto C0 (tgt := 111) dX9_spot_101 (by decide) ?_
            exact g_iret C0 R1 dX9_spot_111 (-6) rfl hw [5, 6, 7, 0, 1, 2, 3, 4] (by decide) rfl (by decide) (by decide)
        · replace hw := hw.2 c3_2
          by_cases c3_3 : p2 = 3
          · replace hw := hw.1 c3_3
            refine g_tabIn C0 (off := 88) (tgt := 112) dX9_spot_24 3 (by rw [c3_3]; rfl) (by decide) (by decide) rfl (by decide) ?_
            refine g_aload C0 dX9_spot_112 0 rfl ?_
            refine g_get C0 dX9_spot_114 7 rfl 3 rfl rfl hinX5 (by decide) (List.mem_of_getElem? (i := 4) rfl) rfl ?_
            refine g_iload_n C0 dX9_spot_117 3 rfl ?_
            obtain ⟨h11, hw⟩ := hw
            refine g_iald C0 (cA := E.I) dX9_spot_118 3 rfl h11 ?_
            exact g_iret C0 R1 dX9_spot_119 (LAP_work (Int32.toNatClampNeg p1)) rfl hw [5, 6, 7, 0, 1, 2, 3, 4] (by decide) rfl (by decide) (by decide)
          · replace hw := hw.2 c3_3
            by_cases c3_4 : p2 = 4
            · replace hw := hw.1 c3_4
              refine g_tabIn C0 (off := 96) (tgt := 120) dX9_spot_24 4 (by rw [c3_4]; rfl) (by decide) (by decide) rfl (by decide) ?_
              refine g_aload C0 dX9_spot_120 0 rfl ?_
              refine g_get C0 dX9_spot_122 7 rfl 4 rfl rfl hinX5 (by decide) (List.mem_of_getElem? (i := 5) rfl) rfl ?_
              refine g_iload_n C0 dX9_spot_125 3 rfl ?_
              obtain ⟨h12, hw⟩ := hw
              refine g_iald C0 (cA := E.I) dX9_spot_126 4 rfl h12 ?_
              exact g_iret C0 R1 dX9_spot_127 (LAP_wear (Int32.toNatClampNeg p1)) rfl hw [5, 6, 7, 0, 1, 2, 3, 4] (by decide) rfl (by decide) (by decide)
            · replace hw := hw.2 c3_4
              refine g_tabOut C0 (tgt := 128) dX9_spot_24 (by have e0 := neI (z := 0) c3_0 rfl; have e1 := neI (z := 1) c3_1 rfl; have e2 := neI (z := 2) c3_2 rfl; have e3 := neI (z := 3) c3_3 rfl; have e4 := neI (z := 4) c3_4 rfl; omega) (by decide) ?_
              refine g_bipush C0 (v := (-2)) dX9_spot_128 (by decide) ?_
              exact g_iret C0 R1 dX9_spot_130 (-2) rfl hw [5, 6, 7, 0, 1, 2, 3, 4] (by decide) rfl (by decide) (by decide)
  · replace hw := hw.2 c2
    refine g_iconst C0 (v := (-1)) dX9_spot_21 (by decide) ?_
    exact g_iret C0 R1 dX9_spot_22 (-1) rfl hw [5, 6, 7, 0, 1, 2, 3, 4] (by decide) rfl (by decide) (by decide)
def w_X9_spot_N (p0 : Int32) (p1 : Int32) (p2 : Int32) (t_laps : Nat → Option Nat) (Q : Int32 → Prop) : Prop := w_X9_lapAt_N p0 t_laps (Q (-1))
set_option maxHeartbeats 4000000 in
set_option maxRecDepth 100000 in
theorem c_X9_spot_N (l : Launch) (E : gE) (q_t q_t_signs q_t_laps q_t_breaks q_t_fraction q_t_settings q_t_rates q_t_joints q_t_tested q_t_knocks q_t_choices : Nat) (p0 : Int32) (p1 : Int32) (p2 : Int32) (t_laps : Nat → Option Nat) (Q : Int32 → Prop) (hw : w_X9_spot_N p0 p1 p2 t_laps Q) : Ct l E yX9_spot wsX9_spot { frames := 2, cells := 0, slots := 0, locals := 43 } [.ref q_t, .int p0, .int p1, .int p2] [ob 9 q_t [.ref q_t_signs, .ref q_t_laps, .ref q_t_breaks, .ref q_t_fraction, .ref q_t_settings, .ref q_t_rates, .ref q_t_joints, .ref q_t_tested, .ref q_t_knocks, .ref q_t_choices], aO E.O q_t_laps 6 t_laps] (S := Int32) (fun u => some (.int u)) (fun u => Q u) (fun u => [ob 9 q_t [.ref q_t_signs, .ref q_t_laps, .ref q_t_breaks, .ref q_t_fraction, .ref q_t_settings, .ref q_t_rates, .ref q_t_joints, .ref q_t_tested, .ref q_t_knocks, .ref q_t_choices], aO E.O q_t_laps 6 t_laps]) := by
  unfold w_X9_spot_N at hw
  refine g_start (cc := cX9_spot) (nL := 5) (own := RX9) (ret := (some .int)) rfl (by decide) rfl (Nat.le_of_ble_eq_true rfl) (lv0 := [(0, .ref q_t), (1, .int p0), (2, .int p1), (3, .int p2)]) rfl (fun X C0 R1 => ?_)
  refine g_aload_n C0 dX9_spot_0 0 rfl ?_
  refine g_iload_n C0 dX9_spot_1 1 rfl ?_
  refine g_callV C0 (q0 := 0) (ci := 9) (c_X9_lapAt_N l E q_t q_t_signs q_t_laps q_t_breaks q_t_fraction q_t_settings q_t_rates q_t_joints q_t_tested q_t_knocks q_t_choices p0 t_laps _ hw) dX9_spot_2 gX9_spot_X9_lapAt rfl ddV_X9_lapAt rfl (by decide) (by decide) rfl (Nat.le_of_ble_eq_true rfl) [0, 1] [] rfl (wr := []) rfl (by decide) (by decide) (by decide) rfl rfl (fun u hw => ?_)
  try dsimp only at hw
  show G X E 5 [ob 9 q_t [.ref q_t_signs, .ref q_t_laps, .ref q_t_breaks, .ref q_t_fraction, .ref q_t_settings, .ref q_t_rates, .ref q_t_joints, .ref q_t_tested, .ref q_t_knocks, .ref q_t_choices], aO E.O q_t_laps 6 t_laps] 0 0 5 [(0, .ref q_t), (1, .int p0), (2, .int p1), (3, .int p2)] [.null]
  refine g_astoreN C0 (lv2 := [(4, .null), (0, .ref q_t), (1, .int p0), (2, .int p1), (3, .int p2)]) dX9_spot_5 (by decide) rfl ?_
  refine g_aloadN C0 dX9_spot_7 0 rfl ?_
  refine g_ifnullN C0 (tgt := 21) dX9_spot_9 (by decide) ?_
  refine g_iconst C0 (v := (-1)) dX9_spot_21 (by decide) ?_
  exact g_iret C0 R1 dX9_spot_22 (-1) rfl hw [0, 1] (by decide) rfl (by decide) (by decide)
def w_X9_put (p1 : Int32) (p2 : Int32) (p3 : Int32) (p4 : Int32) (n_a0 : Nat) (a0 : Nat → Int32) (Q : Int32 → (Nat → Int32) → Prop) : Prop := w_X9_within p1 0 ((nI n_a0) - 1) (fun (r1 : Bool) => (r1 = false → Q (-2) a0) ∧ (r1 = true → w_X9_within p2 p3 p4 (fun (r3 : Bool) => (r3 = true → vp_in p1 n_a0 ∧ (∀ x5_6 : Int32, x5_6 = (a0 (Int32.toNatClampNeg p1)) → (vp_in p1 n_a0 ∧ (Q x5_6 (upd a0 (Int32.toNatClampNeg p1) p2))))) ∧ (r3 = false → Q (-2) a0))))
theorem ddS_X9_put : yX9_put.cls ≠ "java/lang/invoke/MethodHandle" ∧ yX9_put.cls ≠ "java/lang/invoke/VarHandle" ∧ (parseMethodDescriptor yX9_put.desc).map (fun d => d.parameters.length) = some 5 := by decide +kernel
set_option maxHeartbeats 4000000 in
set_option maxRecDepth 100000 in
theorem c_X9_put (l : Launch) (E : gE) (q_a0 : Nat) (p1 : Int32) (p2 : Int32) (p3 : Int32) (p4 : Int32) (n_a0 : Nat) (a0 : Nat → Int32) (Q : Int32 → (Nat → Int32) → Prop) (hw : w_X9_put p1 p2 p3 p4 n_a0 a0 Q) : Ct l E yX9_put wsX9_put { frames := 1, cells := 0, slots := 0, locals := 22 } [.ref q_a0, .int p1, .int p2, .int p3, .int p4] [aI E.I q_a0 n_a0 a0] (S := Int32 × (Nat → Int32)) (fun u => some (.int u.1)) (fun u => Q u.1 u.2) (fun u => [aI E.I q_a0 n_a0 u.2]) := by
  unfold w_X9_put at hw
  refine g_start (cc := cX9_put) (nL := 6) (own := RX9) (ret := (some .int)) rfl (by decide) rfl (Nat.le_of_ble_eq_true rfl) (lv0 := [(0, .ref q_a0), (1, .int p1), (2, .int p2), (3, .int p3), (4, .int p4)]) rfl (fun X C0 R1 => ?_)
  refine g_iload_n C0 dX9_put_0 1 rfl ?_
  refine g_iconst C0 (v := 0) dX9_put_1 (by decide) ?_
  refine g_aload_n C0 dX9_put_2 0 rfl ?_
  refine g_alen C0 (v := nI n_a0) dX9_put_3 0 0 rfl rfl rfl ?_
  refine g_iconst C0 (v := 1) dX9_put_4 (by decide) ?_
  refine g_isub C0 dX9_put_5 ?_
  refine g_callS C0 (c_X9_within l E p1 0 ((nI n_a0) - 1) _ hw) dX9_put_6 gX9_put_X9_within rfl ddS_X9_within rfl (by decide) (by decide) rfl (Nat.le_of_ble_eq_true rfl) [] [0] rfl (wr := [aI E.I q_a0 n_a0 a0]) rfl (by decide) (by decide) (by decide) (fun u hw => ?_)
  obtain ⟨r1, hu_⟩ : ∃ z, z = u := ⟨_, rfl⟩
  subst hu_
  try dsimp only at hw
  show G X E 6 [aI E.I q_a0 n_a0 a0] 0 0 9 [(0, .ref q_a0), (1, .int p1), (2, .int p2), (3, .int p3), (4, .int p4)] [.int (bI r1)]
  refine g_ifb_eq C0 (tgt := 22) dX9_put_9 (by decide) (fun c2 => ?_) (fun c2 => ?_)
  · replace hw := hw.1 c2
    refine g_bipush C0 (v := (-2)) dX9_put_22 (by decide) ?_
    exact g_iret C0 R1 dX9_put_24 ((-2), a0) rfl hw [0] (by decide) rfl (by decide) (by decide)
  · replace hw := hw.2 c2
    refine g_iload_n C0 dX9_put_12 2 rfl ?_
    refine g_iload_n C0 dX9_put_13 3 rfl ?_
    refine g_iload C0 dX9_put_14 4 rfl ?_
    refine g_callS C0 (c_X9_within l E p2 p3 p4 _ hw) dX9_put_16 gX9_put_X9_within rfl ddS_X9_within rfl (by decide) (by decide) rfl (Nat.le_of_ble_eq_true rfl) [] [0] rfl (wr := [aI E.I q_a0 n_a0 a0]) rfl (by decide) (by decide) (by decide) (fun u hw => ?_)
    obtain ⟨r3, hu_⟩ : ∃ z, z = u := ⟨_, rfl⟩
    subst hu_
    try dsimp only at hw
    show G X E 6 [aI E.I q_a0 n_a0 a0] 0 0 19 [(0, .ref q_a0), (1, .int p1), (2, .int p2), (3, .int p3), (4, .int p4)] [.int (bI r3)]
    refine g_ifb_ne C0 (tgt := 25) dX9_put_19 (by decide) (fun c4 => ?_) (fun c4 => ?_)
    · replace hw := hw.1 c4
      refine g_aload_n C0 dX9_put_25 0 rfl ?_
      refine g_iload_n C0 dX9_put_26 1 rfl ?_
      obtain ⟨h5, hw⟩ := hw
      refine g_iald C0 (cA := E.I) dX9_put_27 0 rfl h5 ?_
      refine g_topi (fun x5_6 ex5_6 => ?_)
      replace hw := hw x5_6 ex5_6
      refine g_istore C0 (lv2 := [(5, .int x5_6), (0, .ref q_a0), (1, .int p1), (2, .int p2), (3, .int p3), (4, .int p4)]) dX9_put_28 (by decide) rfl ?_
      refine g_aload_n C0 dX9_put_30 1 rfl ?_
      refine g_iload_n C0 dX9_put_31 2 rfl ?_
      refine g_iload_n C0 dX9_put_32 3 rfl ?_
      obtain ⟨h7, hw⟩ := hw
      refine g_iast C0 (ws2 := [aI E.I q_a0 n_a0 (upd a0 (Int32.toNatClampNeg p1) p2)]) dX9_put_33 0 rfl h7 rfl ?_
      refine g_iload C0 dX9_put_34 0 rfl ?_
      exact g_iret C0 R1 dX9_put_36 (x5_6, upd a0 (Int32.toNatClampNeg p1) p2) rfl hw [0] (by decide) rfl (by decide) (by decide)
    · replace hw := hw.2 c4
      refine g_bipush C0 (v := (-2)) dX9_put_22 (by decide) ?_
      exact g_iret C0 R1 dX9_put_24 ((-2), a0) rfl hw [0] (by decide) rfl (by decide) (by decide)
def w_X9_glue_S (q_LAP : Nat) (p0 : Int32) (p1 : Int32) (p2 : Int32) (t_laps : Nat → Option Nat) (LAP_spots : Int32) (LAP_glue : Nat → Int32) (Q : Int32 → (Nat → Int32) → Prop) : Prop := w_X9_lapAt_S q_LAP p0 t_laps (w_X5_hasSpot p1 LAP_spots (fun (r1 : Bool) => (r1 = true → w_X9_put p1 p2 0 5 5 LAP_glue (fun (r3 : Int32) (LAP_glue_4 : Nat → Int32) => Q r3 LAP_glue_4)) ∧ (r1 = false → Q (-1) LAP_glue)))
theorem ddV_X9_glue : yX9_glue.cls = RX9 ∧ yX9_glue.cls ≠ "java/lang/invoke/MethodHandle" ∧ yX9_glue.cls ≠ "java/lang/invoke/VarHandle" ∧ (parseMethodDescriptor yX9_glue.desc).map (fun d => d.parameters.length) = some 3 := by decide +kernel
set_option maxHeartbeats 4000000 in
set_option maxRecDepth 100000 in
theorem c_X9_glue_S (l : Launch) (E : gE) (q_t q_LAP q_t_signs q_t_laps q_t_breaks q_t_fraction q_t_settings q_t_rates q_t_joints q_t_tested q_t_knocks q_t_choices q_LAP_glue q_LAP_upper q_LAP_under q_LAP_work q_LAP_wear q_LAP_cells : Nat) (p0 : Int32) (p1 : Int32) (p2 : Int32) (t_laps : Nat → Option Nat) (LAP_spots : Int32) (LAP_cure : Int32) (LAP_glue : Nat → Int32) (Q : Int32 → (Nat → Int32) → Prop) (hw : w_X9_glue_S q_LAP p0 p1 p2 t_laps LAP_spots LAP_glue Q) : Ct l E yX9_glue wsX9_glue { frames := 2, cells := 0, slots := 0, locals := 47 } [.ref q_t, .int p0, .int p1, .int p2] [ob 9 q_t [.ref q_t_signs, .ref q_t_laps, .ref q_t_breaks, .ref q_t_fraction, .ref q_t_settings, .ref q_t_rates, .ref q_t_joints, .ref q_t_tested, .ref q_t_knocks, .ref q_t_choices], aO E.O q_t_laps 6 t_laps, ob 5 q_LAP [.ref q_LAP_glue, .ref q_LAP_upper, .ref q_LAP_under, .ref q_LAP_work, .ref q_LAP_wear, .ref q_LAP_cells, .int LAP_spots, .int LAP_cure], aI E.I q_LAP_glue 5 LAP_glue] (S := Int32 × (Nat → Int32)) (fun u => some (.int u.1)) (fun u => Q u.1 u.2) (fun u => [ob 9 q_t [.ref q_t_signs, .ref q_t_laps, .ref q_t_breaks, .ref q_t_fraction, .ref q_t_settings, .ref q_t_rates, .ref q_t_joints, .ref q_t_tested, .ref q_t_knocks, .ref q_t_choices], aO E.O q_t_laps 6 t_laps, ob 5 q_LAP [.ref q_LAP_glue, .ref q_LAP_upper, .ref q_LAP_under, .ref q_LAP_work, .ref q_LAP_wear, .ref q_LAP_cells, .int LAP_spots, .int LAP_cure], aI E.I q_LAP_glue 5 u.2]) := by
  unfold w_X9_glue_S at hw
  have hinX5 : ∀ w ∈ wsX50, w ∈ wsX9_glue := fun _ h => List.mem_cons_of_mem _ (List.mem_append_left _ (List.mem_append_right _ h))
  refine g_start (cc := cX9_glue) (nL := 5) (own := RX9) (ret := (some .int)) rfl (by decide) rfl (Nat.le_of_ble_eq_true rfl) (lv0 := [(0, .ref q_t), (1, .int p0), (2, .int p1), (3, .int p2)]) rfl (fun X C0 R1 => ?_)
  refine g_aload_n C0 dX9_glue_0 0 rfl ?_
  refine g_iload_n C0 dX9_glue_1 1 rfl ?_
  refine g_callV C0 (q0 := 0) (ci := 9) (c_X9_lapAt_S l E q_t q_LAP q_t_signs q_t_laps q_t_breaks q_t_fraction q_t_settings q_t_rates q_t_joints q_t_tested q_t_knocks q_t_choices p0 t_laps _ hw) dX9_glue_2 gX9_glue_X9_lapAt rfl ddV_X9_lapAt rfl (by decide) (by decide) rfl (Nat.le_of_ble_eq_true rfl) [0, 1] [2, 3] rfl (wr := [ob 5 q_LAP [.ref q_LAP_glue, .ref q_LAP_upper, .ref q_LAP_under, .ref q_LAP_work, .ref q_LAP_wear, .ref q_LAP_cells, .int LAP_spots, .int LAP_cure], aI E.I q_LAP_glue 5 LAP_glue]) rfl (by decide) (by decide) (by decide) rfl rfl (fun u hw => ?_)
  try dsimp only at hw
  show G X E 5 [ob 5 q_LAP [.ref q_LAP_glue, .ref q_LAP_upper, .ref q_LAP_under, .ref q_LAP_work, .ref q_LAP_wear, .ref q_LAP_cells, .int LAP_spots, .int LAP_cure], aI E.I q_LAP_glue 5 LAP_glue, ob 9 q_t [.ref q_t_signs, .ref q_t_laps, .ref q_t_breaks, .ref q_t_fraction, .ref q_t_settings, .ref q_t_rates, .ref q_t_joints, .ref q_t_tested, .ref q_t_knocks, .ref q_t_choices], aO E.O q_t_laps 6 t_laps] 0 0 5 [(0, .ref q_t), (1, .int p0), (2, .int p1), (3, .int p2)] [.ref q_LAP]
  refine g_astore C0 (lv2 := [(4, .ref q_LAP), (0, .ref q_t), (1, .int p0), (2, .int p1), (3, .int p2)]) dX9_glue_5 (by decide) rfl ?_
  refine g_aload C0 dX9_glue_7 0 rfl ?_
  refine g_ifnull C0 dX9_glue_9 ?_
  refine g_aload C0 dX9_glue_12 0 rfl ?_
  refine g_iload_n C0 dX9_glue_14 3 rfl ?_
  refine g_callV C0 (q0 := 0) (ci := 5) (c_X5_hasSpot l E q_LAP q_LAP_glue q_LAP_upper q_LAP_under q_LAP_work q_LAP_wear q_LAP_cells p1 LAP_spots LAP_cure _ hw) dX9_glue_15 gX9_glue_X5_hasSpot rfl ddV_X5_hasSpot rfl (by decide) (by decide) rfl (Nat.le_of_ble_eq_true rfl) [0] [1, 2, 3] rfl (wr := [aI E.I q_LAP_glue 5 LAP_glue, ob 9 q_t [.ref q_t_signs, .ref q_t_laps, .ref q_t_breaks, .ref q_t_fraction, .ref q_t_settings, .ref q_t_rates, .ref q_t_joints, .ref q_t_tested, .ref q_t_knocks, .ref q_t_choices], aO E.O q_t_laps 6 t_laps]) rfl (by decide) (by decide) (by decide) rfl rfl (fun u hw => ?_)
  obtain ⟨r1, hu_⟩ : ∃ z, z = u := ⟨_, rfl⟩
  subst hu_
  try dsimp only at hw
  show G X E 5 [aI E.I q_LAP_glue 5 LAP_glue, ob 9 q_t [.ref q_t_signs, .ref q_t_laps, .ref q_t_breaks, .ref q_t_fraction, .ref q_t_settings, .ref q_t_rates, .ref q_t_joints, .ref q_t_tested, .ref q_t_knocks, .ref q_t_choices], aO E.O q_t_laps 6 t_laps, ob 5 q_LAP [.ref q_LAP_glue, .ref q_LAP_upper, .ref q_LAP_under, .ref q_LAP_work, .ref q_LAP_wear, .ref q_LAP_cells, .int LAP_spots, .int LAP_cure]] 0 0 18 [(4, .ref q_LAP), (0, .ref q_t), (1, .int p0), (2, .int p1), (3, .int p2)] [.int (bI r1)]
  refine g_ifb_ne C0 (tgt := 23) dX9_glue_18 (by decide) (fun c2 => ?_) (fun c2 => ?_)
  · replace hw := hw.1 c2
    refine g_aload C0 dX9_glue_23 0 rfl ?_
    refine g_get C0 dX9_glue_25 3 rfl 0 rfl rfl hinX5 (by decide) (List.mem_of_getElem? (i := 1) rfl) rfl ?_
    refine g_iload_n C0 dX9_glue_28 3 rfl ?_
    refine g_iload_n C0 dX9_glue_29 4 rfl ?_
    refine g_iconst C0 (v := 0) dX9_glue_30 (by decide) ?_
    refine g_iconst C0 (v := 5) dX9_glue_31 (by decide) ?_
    refine g_callS C0 (c_X9_put l E q_LAP_glue p1 p2 0 5 5 LAP_glue _ hw) dX9_glue_32 gX9_glue_X9_put rfl ddS_X9_put rfl (by decide) (by decide) rfl (Nat.le_of_ble_eq_true rfl) [0] [1, 2, 3] rfl (wr := [ob 9 q_t [.ref q_t_signs, .ref q_t_laps, .ref q_t_breaks, .ref q_t_fraction, .ref q_t_settings, .ref q_t_rates, .ref q_t_joints, .ref q_t_tested, .ref q_t_knocks, .ref q_t_choices], aO E.O q_t_laps 6 t_laps, ob 5 q_LAP [.ref q_LAP_glue, .ref q_LAP_upper, .ref q_LAP_under, .ref q_LAP_work, .ref q_LAP_wear, .ref q_LAP_cells, .int LAP_spots, .int LAP_cure]]) rfl (by decide) (by decide) (by decide) (fun u hw => ?_)
    obtain ⟨r3, LAP_glue_4⟩ := u
    try dsimp only at hw
    show G X E 5 [ob 9 q_t [.ref q_t_signs, .ref q_t_laps, .ref q_t_breaks, .ref q_t_fraction, .ref q_t_settings, .ref q_t_rates, .ref q_t_joints, .ref q_t_tested, .ref q_t_knocks, .ref q_t_choices], aO E.O q_t_laps 6 t_laps, ob 5 q_LAP [.ref q_LAP_glue, .ref q_LAP_upper, .ref q_LAP_under, .ref q_LAP_work, .ref q_LAP_wear, .ref q_LAP_cells, .int LAP_spots, .int LAP_cure], aI E.I q_LAP_glue 5 LAP_glue_4] 0 0 35 [(4, .ref q_LAP), (0, .ref q_t), (1, .int p0), (2, .int p1), (3, .int p2)] [.int r3]
    exact g_iret C0 R1 dX9_glue_35 (r3, LAP_glue_4) rfl hw [0, 1, 2, 3] (by decide) rfl (by decide) (by decide)
  · replace hw := hw.2 c2
    refine g_iconst C0 (v := (-1)) dX9_glue_21 (by decide) ?_
    exact g_iret C0 R1 dX9_glue_22 ((-1), LAP_glue) rfl hw [1, 2, 3, 0] (by decide) rfl (by decide) (by decide)
def w_X9_glue_N (p0 : Int32) (p1 : Int32) (p2 : Int32) (t_laps : Nat → Option Nat) (Q : Int32 → Prop) : Prop := w_X9_lapAt_N p0 t_laps (Q (-1))
set_option maxHeartbeats 4000000 in
set_option maxRecDepth 100000 in
theorem c_X9_glue_N (l : Launch) (E : gE) (q_t q_t_signs q_t_laps q_t_breaks q_t_fraction q_t_settings q_t_rates q_t_joints q_t_tested q_t_knocks q_t_choices : Nat) (p0 : Int32) (p1 : Int32) (p2 : Int32) (t_laps : Nat → Option Nat) (Q : Int32 → Prop) (hw : w_X9_glue_N p0 p1 p2 t_laps Q) : Ct l E yX9_glue wsX9_glue { frames := 2, cells := 0, slots := 0, locals := 43 } [.ref q_t, .int p0, .int p1, .int p2] [ob 9 q_t [.ref q_t_signs, .ref q_t_laps, .ref q_t_breaks, .ref q_t_fraction, .ref q_t_settings, .ref q_t_rates, .ref q_t_joints, .ref q_t_tested, .ref q_t_knocks, .ref q_t_choices], aO E.O q_t_laps 6 t_laps] (S := Int32) (fun u => some (.int u)) (fun u => Q u) (fun u => [ob 9 q_t [.ref q_t_signs, .ref q_t_laps, .ref q_t_breaks, .ref q_t_fraction, .ref q_t_settings, .ref q_t_rates, .ref q_t_joints, .ref q_t_tested, .ref q_t_knocks, .ref q_t_choices], aO E.O q_t_laps 6 t_laps]) := by
  unfold w_X9_glue_N at hw
  refine g_start (cc := cX9_glue) (nL := 5) (own := RX9) (ret := (some .int)) rfl (by decide) rfl (Nat.le_of_ble_eq_true rfl) (lv0 := [(0, .ref q_t), (1, .int p0), (2, .int p1), (3, .int p2)]) rfl (fun X C0 R1 => ?_)
  refine g_aload_n C0 dX9_glue_0 0 rfl ?_
  refine g_iload_n C0 dX9_glue_1 1 rfl ?_
  refine g_callV C0 (q0 := 0) (ci := 9) (c_X9_lapAt_N l E q_t q_t_signs q_t_laps q_t_breaks q_t_fraction q_t_settings q_t_rates q_t_joints q_t_tested q_t_knocks q_t_choices p0 t_laps _ hw) dX9_glue_2 gX9_glue_X9_lapAt rfl ddV_X9_lapAt rfl (by decide) (by decide) rfl (Nat.le_of_ble_eq_true rfl) [0, 1] [] rfl (wr := []) rfl (by decide) (by decide) (by decide) rfl rfl (fun u hw => ?_)
  try dsimp only at hw
  show G X E 5 [ob 9 q_t [.ref q_t_signs, .ref q_t_laps, .ref q_t_breaks, .ref q_t_fraction, .ref q_t_settings, .ref q_t_rates, .ref q_t_joints, .ref q_t_tested, .ref q_t_knocks, .ref q_t_choices], aO E.O q_t_laps 6 t_laps] 0 0 5 [(0, .ref q_t), (1, .int p0), (2, .int p1), (3, .int p2)] [.null]
  refine g_astoreN C0 (lv2 := [(4, .null), (0, .ref q_t), (1, .int p0), (2, .int p1), (3, .int p2)]) dX9_glue_5 (by decide) rfl ?_
  refine g_aloadN C0 dX9_glue_7 0 rfl ?_
  refine g_ifnullN C0 (tgt := 21) dX9_glue_9 (by decide) ?_
  refine g_iconst C0 (v := (-1)) dX9_glue_21 (by decide) ?_
  exact g_iret C0 R1 dX9_glue_22 (-1) rfl hw [0, 1] (by decide) rfl (by decide) (by decide)
def w_X9_work_S (q_LAP : Nat) (p0 : Int32) (p1 : Int32) (p2 : Int32) (t_laps : Nat → Option Nat) (LAP_spots : Int32) (LAP_work : Nat → Int32) (Q : Int32 → (Nat → Int32) → Prop) : Prop := w_X9_lapAt_S q_LAP p0 t_laps (w_X5_hasSpot p1 LAP_spots (fun (r1 : Bool) => (r1 = true → w_X9_put p1 p2 0 1000 5 LAP_work (fun (r3 : Int32) (LAP_work_4 : Nat → Int32) => Q r3 LAP_work_4)) ∧ (r1 = false → Q (-1) LAP_work)))
theorem ddV_X9_work : yX9_work.cls = RX9 ∧ yX9_work.cls ≠ "java/lang/invoke/MethodHandle" ∧ yX9_work.cls ≠ "java/lang/invoke/VarHandle" ∧ (parseMethodDescriptor yX9_work.desc).map (fun d => d.parameters.length) = some 3 := by decide +kernel
set_option maxHeartbeats 4000000 in
set_option maxRecDepth 100000 in
theorem c_X9_work_S (l : Launch) (E : gE) (q_t q_LAP q_t_signs q_t_laps q_t_breaks q_t_fraction q_t_settings q_t_rates q_t_joints q_t_tested q_t_knocks q_t_choices q_LAP_glue q_LAP_upper q_LAP_under q_LAP_work q_LAP_wear q_LAP_cells : Nat) (p0 : Int32) (p1 : Int32) (p2 : Int32) (t_laps : Nat → Option Nat) (LAP_spots : Int32) (LAP_cure : Int32) (LAP_work : Nat → Int32) (Q : Int32 → (Nat → Int32) → Prop) (hw : w_X9_work_S q_LAP p0 p1 p2 t_laps LAP_spots LAP_work Q) : Ct l E yX9_work wsX9_work { frames := 2, cells := 0, slots := 0, locals := 47 } [.ref q_t, .int p0, .int p1, .int p2] [ob 9 q_t [.ref q_t_signs, .ref q_t_laps, .ref q_t_breaks, .ref q_t_fraction, .ref q_t_settings, .ref q_t_rates, .ref q_t_joints, .ref q_t_tested, .ref q_t_knocks, .ref q_t_choices], aO E.O q_t_laps 6 t_laps, ob 5 q_LAP [.ref q_LAP_glue, .ref q_LAP_upper, .ref q_LAP_under, .ref q_LAP_work, .ref q_LAP_wear, .ref q_LAP_cells, .int LAP_spots, .int LAP_cure], aI E.I q_LAP_work 5 LAP_work] (S := Int32 × (Nat → Int32)) (fun u => some (.int u.1)) (fun u => Q u.1 u.2) (fun u => [ob 9 q_t [.ref q_t_signs, .ref q_t_laps, .ref q_t_breaks, .ref q_t_fraction, .ref q_t_settings, .ref q_t_rates, .ref q_t_joints, .ref q_t_tested, .ref q_t_knocks, .ref q_t_choices], aO E.O q_t_laps 6 t_laps, ob 5 q_LAP [.ref q_LAP_glue, .ref q_LAP_upper, .ref q_LAP_under, .ref q_LAP_work, .ref q_LAP_wear, .ref q_LAP_cells, .int LAP_spots, .int LAP_cure], aI E.I q_LAP_work 5 u.2]) := by
  unfold w_X9_work_S at hw
  have hinX5 : ∀ w ∈ wsX50, w ∈ wsX9_work := fun _ h => List.mem_cons_of_mem _ (List.mem_append_left _ (List.mem_append_right _ h))
  refine g_start (cc := cX9_work) (nL := 5) (own := RX9) (ret := (some .int)) rfl (by decide) rfl (Nat.le_of_ble_eq_true rfl) (lv0 := [(0, .ref q_t), (1, .int p0), (2, .int p1), (3, .int p2)]) rfl (fun X C0 R1 => ?_)
  refine g_aload_n C0 dX9_work_0 0 rfl ?_
  refine g_iload_n C0 dX9_work_1 1 rfl ?_
  refine g_callV C0 (q0 := 0) (ci := 9) (c_X9_lapAt_S l E q_t q_LAP q_t_signs q_t_laps q_t_breaks q_t_fraction q_t_settings q_t_rates q_t_joints q_t_tested q_t_knocks q_t_choices p0 t_laps _ hw) dX9_work_2 gX9_work_X9_lapAt rfl ddV_X9_lapAt rfl (by decide) (by decide) rfl (Nat.le_of_ble_eq_true rfl) [0, 1] [2, 3] rfl (wr := [ob 5 q_LAP [.ref q_LAP_glue, .ref q_LAP_upper, .ref q_LAP_under, .ref q_LAP_work, .ref q_LAP_wear, .ref q_LAP_cells, .int LAP_spots, .int LAP_cure], aI E.I q_LAP_work 5 LAP_work]) rfl (by decide) (by decide) (by decide) rfl rfl (fun u hw => ?_)
  try dsimp only at hw
  show G X E 5 [ob 5 q_LAP [.ref q_LAP_glue, .ref q_LAP_upper, .ref q_LAP_under, .ref q_LAP_work, .ref q_LAP_wear, .ref q_LAP_cells, .int LAP_spots, .int LAP_cure], aI E.I q_LAP_work 5 LAP_work, ob 9 q_t [.ref q_t_signs, .ref q_t_laps, .ref q_t_breaks, .ref q_t_fraction, .ref q_t_settings, .ref q_t_rates, .ref q_t_joints, .ref q_t_tested, .ref q_t_knocks, .ref q_t_choices], aO E.O q_t_laps 6 t_laps] 0 0 5 [(0, .ref q_t), (1, .int p0), (2, .int p1), (3, .int p2)] [.ref q_LAP]
  refine g_astore C0 (lv2 := [(4, .ref q_LAP), (0, .ref q_t), (1, .int p0), (2, .int p1), (3, .int p2)]) dX9_work_5 (by decide) rfl ?_
  refine g_aload C0 dX9_work_7 0 rfl ?_
  refine g_ifnull C0 dX9_work_9 ?_
  refine g_aload C0 dX9_work_12 0 rfl ?_
  refine g_iload_n C0 dX9_work_14 3 rfl ?_
  refine g_callV C0 (q0 := 0) (ci := 5) (c_X5_hasSpot l E q_LAP q_LAP_glue q_LAP_upper q_LAP_under q_LAP_work q_LAP_wear q_LAP_cells p1 LAP_spots LAP_cure _ hw) dX9_work_15 gX9_work_X5_hasSpot rfl ddV_X5_hasSpot rfl (by decide) (by decide) rfl (Nat.le_of_ble_eq_true rfl) [0] [1, 2, 3] rfl (wr := [aI E.I q_LAP_work 5 LAP_work, ob 9 q_t [.ref q_t_signs, .ref q_t_laps, .ref q_t_breaks, .ref q_t_fraction, .ref q_t_settings, .ref q_t_rates, .ref q_t_joints, .ref q_t_tested, .ref q_t_knocks, .ref q_t_choices], aO E.O q_t_laps 6 t_laps]) rfl (by decide) (by decide) (by decide) rfl rfl (fun u hw => ?_)
  obtain ⟨r1, hu_⟩ : ∃ z, z = u := ⟨_, rfl⟩
  subst hu_
  try dsimp only at hw
  show G X E 5 [aI E.I q_LAP_work 5 LAP_work, ob 9 q_t [.ref q_t_signs, .ref q_t_laps, .ref q_t_breaks, .ref q_t_fraction, .ref q_t_settings, .ref q_t_rates, .ref q_t_joints, .ref q_t_tested, .ref q_t_knocks, .ref q_t_choices], aO E.O q_t_laps 6 t_laps, ob 5 q_LAP [.ref q_LAP_glue, .ref q_LAP_upper, .ref q_LAP_under, .ref q_LAP_work, .ref q_LAP_wear, .ref q_LAP_cells, .int LAP_spots, .int LAP_cure]] 0 0 18 [(4, .ref q_LAP), (0, .ref q_t), (1, .int p0), (2, .int p1), (3, .int p2)] [.int (bI r1)]
  refine g_ifb_ne C0 (tgt := 23) dX9_work_18 (by decide) (fun c2 => ?_) (fun c2 => ?_)
  · replace hw := hw.1 c2
    refine g_aload C0 dX9_work_23 0 rfl ?_
    refine g_get C0 dX9_work_25 3 rfl 3 rfl rfl hinX5 (by decide) (List.mem_of_getElem? (i := 1) rfl) rfl ?_
    refine g_iload_n C0 dX9_work_28 3 rfl ?_
    refine g_iload_n C0 dX9_work_29 4 rfl ?_
    refine g_iconst C0 (v := 0) dX9_work_30 (by decide) ?_
    refine g_sipush C0 (v := 1000) dX9_work_31 (by decide) ?_
    refine g_callS C0 (c_X9_put l E q_LAP_work p1 p2 0 1000 5 LAP_work _ hw) dX9_work_34 gX9_work_X9_put rfl ddS_X9_put rfl (by decide) (by decide) rfl (Nat.le_of_ble_eq_true rfl) [0] [1, 2, 3] rfl (wr := [ob 9 q_t [.ref q_t_signs, .ref q_t_laps, .ref q_t_breaks, .ref q_t_fraction, .ref q_t_settings, .ref q_t_rates, .ref q_t_joints, .ref q_t_tested, .ref q_t_knocks, .ref q_t_choices], aO E.O q_t_laps 6 t_laps, ob 5 q_LAP [.ref q_LAP_glue, .ref q_LAP_upper, .ref q_LAP_under, .ref q_LAP_work, .ref q_LAP_wear, .ref q_LAP_cells, .int LAP_spots, .int LAP_cure]]) rfl (by decide) (by decide) (by decide) (fun u hw => ?_)
    obtain ⟨r3, LAP_work_4⟩ := u
    try dsimp only at hw
    show G X E 5 [ob 9 q_t [.ref q_t_signs, .ref q_t_laps, .ref q_t_breaks, .ref q_t_fraction, .ref q_t_settings, .ref q_t_rates, .ref q_t_joints, .ref q_t_tested, .ref q_t_knocks, .ref q_t_choices], aO E.O q_t_laps 6 t_laps, ob 5 q_LAP [.ref q_LAP_glue, .ref q_LAP_upper, .ref q_LAP_under, .ref q_LAP_work, .ref q_LAP_wear, .ref q_LAP_cells, .int LAP_spots, .int LAP_cure], aI E.I q_LAP_work 5 LAP_work_4] 0 0 37 [(4, .ref q_LAP), (0, .ref q_t), (1, .int p0), (2, .int p1), (3, .int p2)] [.int r3]
    exact g_iret C0 R1 dX9_work_37 (r3, LAP_work_4) rfl hw [0, 1, 2, 3] (by decide) rfl (by decide) (by decide)
  · replace hw := hw.2 c2
    refine g_iconst C0 (v := (-1)) dX9_work_21 (by decide) ?_
    exact g_iret C0 R1 dX9_work_22 ((-1), LAP_work) rfl hw [1, 2, 3, 0] (by decide) rfl (by decide) (by decide)
def w_X9_work_N (p0 : Int32) (p1 : Int32) (p2 : Int32) (t_laps : Nat → Option Nat) (Q : Int32 → Prop) : Prop := w_X9_lapAt_N p0 t_laps (Q (-1))
set_option maxHeartbeats 4000000 in
set_option maxRecDepth 100000 in
theorem c_X9_work_N (l : Launch) (E : gE) (q_t q_t_signs q_t_laps q_t_breaks q_t_fraction q_t_settings q_t_rates q_t_joints q_t_tested q_t_knocks q_t_choices : Nat) (p0 : Int32) (p1 : Int32) (p2 : Int32) (t_laps : Nat → Option Nat) (Q : Int32 → Prop) (hw : w_X9_work_N p0 p1 p2 t_laps Q) : Ct l E yX9_work wsX9_work { frames := 2, cells := 0, slots := 0, locals := 43 } [.ref q_t, .int p0, .int p1, .int p2] [ob 9 q_t [.ref q_t_signs, .ref q_t_laps, .ref q_t_breaks, .ref q_t_fraction, .ref q_t_settings, .ref q_t_rates, .ref q_t_joints, .ref q_t_tested, .ref q_t_knocks, .ref q_t_choices], aO E.O q_t_laps 6 t_laps] (S := Int32) (fun u => some (.int u)) (fun u => Q u) (fun u => [ob 9 q_t [.ref q_t_signs, .ref q_t_laps, .ref q_t_breaks, .ref q_t_fraction, .ref q_t_settings, .ref q_t_rates, .ref q_t_joints, .ref q_t_tested, .ref q_t_knocks, .ref q_t_choices], aO E.O q_t_laps 6 t_laps]) := by
  unfold w_X9_work_N at hw
  refine g_start (cc := cX9_work) (nL := 5) (own := RX9) (ret := (some .int)) rfl (by decide) rfl (Nat.le_of_ble_eq_true rfl) (lv0 := [(0, .ref q_t), (1, .int p0), (2, .int p1), (3, .int p2)]) rfl (fun X C0 R1 => ?_)
  refine g_aload_n C0 dX9_work_0 0 rfl ?_
  refine g_iload_n C0 dX9_work_1 1 rfl ?_
  refine g_callV C0 (q0 := 0) (ci := 9) (c_X9_lapAt_N l E q_t q_t_signs q_t_laps q_t_breaks q_t_fraction q_t_settings q_t_rates q_t_joints q_t_tested q_t_knocks q_t_choices p0 t_laps _ hw) dX9_work_2 gX9_work_X9_lapAt rfl ddV_X9_lapAt rfl (by decide) (by decide) rfl (Nat.le_of_ble_eq_true rfl) [0, 1] [] rfl (wr := []) rfl (by decide) (by decide) (by decide) rfl rfl (fun u hw => ?_)
  try dsimp only at hw
  show G X E 5 [ob 9 q_t [.ref q_t_signs, .ref q_t_laps, .ref q_t_breaks, .ref q_t_fraction, .ref q_t_settings, .ref q_t_rates, .ref q_t_joints, .ref q_t_tested, .ref q_t_knocks, .ref q_t_choices], aO E.O q_t_laps 6 t_laps] 0 0 5 [(0, .ref q_t), (1, .int p0), (2, .int p1), (3, .int p2)] [.null]
  refine g_astoreN C0 (lv2 := [(4, .null), (0, .ref q_t), (1, .int p0), (2, .int p1), (3, .int p2)]) dX9_work_5 (by decide) rfl ?_
  refine g_aloadN C0 dX9_work_7 0 rfl ?_
  refine g_ifnullN C0 (tgt := 21) dX9_work_9 (by decide) ?_
  refine g_iconst C0 (v := (-1)) dX9_work_21 (by decide) ?_
  exact g_iret C0 R1 dX9_work_22 (-1) rfl hw [0, 1] (by decide) rfl (by decide) (by decide)
def w_X9_isPart (p0 : Int32) (Q : Bool → Prop) : Prop := w_X9_within p0 0 1 (fun (r1 : Bool) => Q r1)
theorem ddS_X9_isPart : yX9_isPart.cls ≠ "java/lang/invoke/MethodHandle" ∧ yX9_isPart.cls ≠ "java/lang/invoke/VarHandle" ∧ (parseMethodDescriptor yX9_isPart.desc).map (fun d => d.parameters.length) = some 1 := by decide +kernel
set_option maxHeartbeats 4000000 in
set_option maxRecDepth 100000 in
theorem c_X9_isPart (l : Launch) (E : gE) (p0 : Int32) (Q : Bool → Prop) (hw : w_X9_isPart p0 Q) : Ct l E yX9_isPart wsX9_isPart { frames := 1, cells := 0, slots := 0, locals := 22 } [.int p0] [] (S := Bool) (fun u => some (.int (bI u))) (fun u => Q u) (fun u => []) := by
  unfold w_X9_isPart at hw
  refine g_start (cc := cX9_isPart) (nL := 1) (own := RX9) (ret := (some .boolean)) rfl (by decide) rfl (Nat.le_of_ble_eq_true rfl) (lv0 := [(0, .int p0)]) rfl (fun X C0 R1 => ?_)
  refine g_iload_n C0 dX9_isPart_0 0 rfl ?_
  refine g_iconst C0 (v := 0) dX9_isPart_1 (by decide) ?_
  refine g_iconst C0 (v := 1) dX9_isPart_2 (by decide) ?_
  refine g_callS C0 (c_X9_within l E p0 0 1 _ hw) dX9_isPart_3 gX9_isPart_X9_within rfl ddS_X9_within rfl (by decide) (by decide) rfl (Nat.le_of_ble_eq_true rfl) [] [] rfl (wr := []) rfl (by decide) (by decide) (by decide) (fun u hw => ?_)
  obtain ⟨r1, hu_⟩ : ∃ z, z = u := ⟨_, rfl⟩
  subst hu_
  try dsimp only at hw
  show G X E 1 [] 0 0 6 [(0, .int p0)] [.int (bI r1)]
  exact g_zret C0 R1 (b := r1) dX9_isPart_6 r1 rfl hw [] (by decide) rfl (by decide) (by decide)
def w_X9_pull_S (q_LAP : Nat) (p0 : Int32) (p1 : Int32) (p2 : Int32) (p3 : Int32) (t_laps : Nat → Option Nat) (LAP_spots : Int32) (LAP_glue : Nat → Int32) (t_breaks_pulled_lower : Int64) (t_breaks_pulled_way : Int64) (t_breaks_pulled_firstSlip : Int64) (LAP_upper : Nat → Int32) (LAP_under : Nat → Int32) (t_breaks_pulled_slip : Nat → Int64) (t_breaks_pulled_shear : Nat → Int64) (t_breaks_pulled_ahead : Nat → Int64) (t_fraction_upper : Int64) (t_fraction_lower : Int64) (Q : Int64 → Int64 → Int64 → Int64 → (Nat → Int64) → (Nat → Int64) → (Nat → Int64) → Int64 → Int64 → Prop) : Prop := w_X9_lapAt_S q_LAP p0 t_laps (w_X5_hasSpot p1 LAP_spots (fun (r1 : Bool) => (r1 = true → w_X9_within p2 0 2 (fun (r3 : Bool) => (r3 = false → Q (-1000000000000000002) t_breaks_pulled_lower t_breaks_pulled_firstSlip t_breaks_pulled_way t_breaks_pulled_slip t_breaks_pulled_shear t_breaks_pulled_ahead t_fraction_upper t_fraction_lower) ∧ (r3 = true → w_X9_isPart p3 (fun (r5 : Bool) => (r5 = true → w_X5_isLoose LAP_glue (fun (r7 : Bool) => (r7 = false → w_X0_tellPull p1 p2 t_breaks_pulled_way LAP_glue LAP_upper LAP_under t_breaks_pulled_slip t_breaks_pulled_shear t_breaks_pulled_ahead t_fraction_upper t_fraction_lower (fun (t_breaks_pulled_lower_9 : Int64) (t_breaks_pulled_firstSlip_10 : Int64) (t_breaks_pulled_way_11 : Int64) (t_breaks_pulled_slip_12 : Nat → Int64) (t_breaks_pulled_shear_13 : Nat → Int64) (t_breaks_pulled_ahead_14 : Nat → Int64) (t_fraction_upper_15 : Int64) (t_fraction_lower_16 : Int64) => w_X2_number p3 t_fraction_upper_15 t_fraction_lower_16 (fun (r17 : Int64) => Q r17 t_breaks_pulled_lower_9 t_breaks_pulled_firstSlip_10 t_breaks_pulled_way_11 t_breaks_pulled_slip_12 t_breaks_pulled_shear_13 t_breaks_pulled_ahead_14 t_fraction_upper_15 t_fraction_lower_16))) ∧ (r7 = true → Q (-1000000000000000003) t_breaks_pulled_lower t_breaks_pulled_firstSlip t_breaks_pulled_way t_breaks_pulled_slip t_breaks_pulled_shear t_breaks_pulled_ahead t_fraction_upper t_fraction_lower))) ∧ (r5 = false → Q (-1000000000000000002) t_breaks_pulled_lower t_breaks_pulled_firstSlip t_breaks_pulled_way t_breaks_pulled_slip t_breaks_pulled_shear t_breaks_pulled_ahead t_fraction_upper t_fraction_lower))))) ∧ (r1 = false → Q (-1000000000000000001) t_breaks_pulled_lower t_breaks_pulled_firstSlip t_breaks_pulled_way t_breaks_pulled_slip t_breaks_pulled_shear t_breaks_pulled_ahead t_fraction_upper t_fraction_lower)))
theorem ddV_X9_pull : yX9_pull.cls = RX9 ∧ yX9_pull.cls ≠ "java/lang/invoke/MethodHandle" ∧ yX9_pull.cls ≠ "java/lang/invoke/VarHandle" ∧ (parseMethodDescriptor yX9_pull.desc).map (fun d => d.parameters.length) = some 4 := by decide +kernel
set_option maxHeartbeats 4000000 in
set_option maxRecDepth 100000 in
theorem c_X9_pull_S (l : Launch) (E : gE) (q_t q_LAP q_t_signs q_t_laps q_t_breaks q_t_fraction q_t_settings q_t_rates q_t_joints q_t_tested q_t_knocks q_t_choices q_LAP_glue q_LAP_upper q_LAP_under q_LAP_work q_LAP_wear q_LAP_cells q_t_breaks_pulled q_t_breaks_moreWear q_t_breaks_pulled_slip q_t_breaks_pulled_shear q_t_breaks_pulled_ahead : Nat) (p0 : Int32) (p1 : Int32) (p2 : Int32) (p3 : Int32) (t_laps : Nat → Option Nat) (LAP_spots : Int32) (LAP_cure : Int32) (LAP_glue : Nat → Int32) (t_breaks_backUpper : Int64) (t_breaks_backLower : Int64) (t_breaks_pulled_lower : Int64) (t_breaks_pulled_way : Int64) (t_breaks_pulled_firstSlip : Int64) (LAP_upper : Nat → Int32) (LAP_under : Nat → Int32) (t_breaks_pulled_slip : Nat → Int64) (t_breaks_pulled_shear : Nat → Int64) (t_breaks_pulled_ahead : Nat → Int64) (t_fraction_upper : Int64) (t_fraction_lower : Int64) (Q : Int64 → Int64 → Int64 → Int64 → (Nat → Int64) → (Nat → Int64) → (Nat → Int64) → Int64 → Int64 → Prop) (hw : w_X9_pull_S q_LAP p0 p1 p2 p3 t_laps LAP_spots LAP_glue t_breaks_pulled_lower t_breaks_pulled_way t_breaks_pulled_firstSlip LAP_upper LAP_under t_breaks_pulled_slip t_breaks_pulled_shear t_breaks_pulled_ahead t_fraction_upper t_fraction_lower Q) : Ct l E yX9_pull wsX9_pull { frames := 3, cells := 0, slots := 0, locals := 83 } [.ref q_t, .int p0, .int p1, .int p2, .int p3] [ob 9 q_t [.ref q_t_signs, .ref q_t_laps, .ref q_t_breaks, .ref q_t_fraction, .ref q_t_settings, .ref q_t_rates, .ref q_t_joints, .ref q_t_tested, .ref q_t_knocks, .ref q_t_choices], aO E.O q_t_laps 6 t_laps, ob 5 q_LAP [.ref q_LAP_glue, .ref q_LAP_upper, .ref q_LAP_under, .ref q_LAP_work, .ref q_LAP_wear, .ref q_LAP_cells, .int LAP_spots, .int LAP_cure], aI E.I q_LAP_glue 5 LAP_glue, ob 0 q_t_breaks [.ref q_t_breaks_pulled, .ref q_t_breaks_moreWear, .long t_breaks_backUpper, .long t_breaks_backLower], ob 6 q_t_breaks_pulled [.ref q_t_breaks_pulled_slip, .ref q_t_breaks_pulled_shear, .ref q_t_breaks_pulled_ahead, .long t_breaks_pulled_lower, .long t_breaks_pulled_way, .long t_breaks_pulled_firstSlip], aI E.I q_LAP_upper 5 LAP_upper, aI E.I q_LAP_under 5 LAP_under, aJ E.J q_t_breaks_pulled_slip 5 t_breaks_pulled_slip, aJ E.J q_t_breaks_pulled_shear 5 t_breaks_pulled_shear, aJ E.J q_t_breaks_pulled_ahead 5 t_breaks_pulled_ahead, ob 2 q_t_fraction [.long t_fraction_upper, .long t_fraction_lower]] (S := Int64 × Int64 × Int64 × Int64 × (Nat → Int64) × (Nat → Int64) × (Nat → Int64) × Int64 × Int64) (fun u => some (.long u.1)) (fun u => Q u.1 u.2.1 u.2.2.1 u.2.2.2.1 u.2.2.2.2.1 u.2.2.2.2.2.1 u.2.2.2.2.2.2.1 u.2.2.2.2.2.2.2.1 u.2.2.2.2.2.2.2.2) (fun u => [ob 9 q_t [.ref q_t_signs, .ref q_t_laps, .ref q_t_breaks, .ref q_t_fraction, .ref q_t_settings, .ref q_t_rates, .ref q_t_joints, .ref q_t_tested, .ref q_t_knocks, .ref q_t_choices], aO E.O q_t_laps 6 t_laps, ob 5 q_LAP [.ref q_LAP_glue, .ref q_LAP_upper, .ref q_LAP_under, .ref q_LAP_work, .ref q_LAP_wear, .ref q_LAP_cells, .int LAP_spots, .int LAP_cure], aI E.I q_LAP_glue 5 LAP_glue, ob 0 q_t_breaks [.ref q_t_breaks_pulled, .ref q_t_breaks_moreWear, .long t_breaks_backUpper, .long t_breaks_backLower], ob 6 q_t_breaks_pulled [.ref q_t_breaks_pulled_slip, .ref q_t_breaks_pulled_shear, .ref q_t_breaks_pulled_ahead, .long u.2.1, .long u.2.2.2.1, .long u.2.2.1], aI E.I q_LAP_upper 5 LAP_upper, aI E.I q_LAP_under 5 LAP_under, aJ E.J q_t_breaks_pulled_slip 5 u.2.2.2.2.1, aJ E.J q_t_breaks_pulled_shear 5 u.2.2.2.2.2.1, aJ E.J q_t_breaks_pulled_ahead 5 u.2.2.2.2.2.2.1, ob 2 q_t_fraction [.long u.2.2.2.2.2.2.2.1, .long u.2.2.2.2.2.2.2.2]]) := by
  unfold w_X9_pull_S at hw
  have hinX9 : ∀ w ∈ wsX90, w ∈ wsX9_pull := fun _ h => List.mem_cons_of_mem _ (List.mem_append_left _ (List.mem_append_left _ (List.mem_append_left _ (List.mem_append_left _ (List.mem_append_right _ h)))))
  refine g_start (cc := cX9_pull) (nL := 6) (own := RX9) (ret := (some .long)) rfl (by decide) rfl (Nat.le_of_ble_eq_true rfl) (lv0 := [(0, .ref q_t), (1, .int p0), (2, .int p1), (3, .int p2), (4, .int p3)]) rfl (fun X C0 R1 => ?_)
  refine g_aload_n C0 dX9_pull_0 0 rfl ?_
  refine g_iload_n C0 dX9_pull_1 1 rfl ?_
  refine g_callV C0 (q0 := 0) (ci := 9) (c_X9_lapAt_S l E q_t q_LAP q_t_signs q_t_laps q_t_breaks q_t_fraction q_t_settings q_t_rates q_t_joints q_t_tested q_t_knocks q_t_choices p0 t_laps _ hw) dX9_pull_2 gX9_pull_X9_lapAt rfl ddV_X9_lapAt rfl (by decide) (by decide) rfl (Nat.le_of_ble_eq_true rfl) [0, 1] [2, 3, 4, 5, 6, 7, 8, 9, 10, 11] rfl (wr := [ob 5 q_LAP [.ref q_LAP_glue, .ref q_LAP_upper, .ref q_LAP_under, .ref q_LAP_work, .ref q_LAP_wear, .ref q_LAP_cells, .int LAP_spots, .int LAP_cure], aI E.I q_LAP_glue 5 LAP_glue, ob 0 q_t_breaks [.ref q_t_breaks_pulled, .ref q_t_breaks_moreWear, .long t_breaks_backUpper, .long t_breaks_backLower], ob 6 q_t_breaks_pulled [.ref q_t_breaks_pulled_slip, .ref q_t_breaks_pulled_shear, .ref q_t_breaks_pulled_ahead, .long t_breaks_pulled_lower, .long t_breaks_pulled_way, .long t_breaks_pulled_firstSlip], aI E.I q_LAP_upper 5 LAP_upper, aI E.I q_LAP_under 5 LAP_under, aJ E.J q_t_breaks_pulled_slip 5 t_breaks_pulled_slip, aJ E.J q_t_breaks_pulled_shear 5 t_breaks_pulled_shear, aJ E.J q_t_breaks_pulled_ahead 5 t_breaks_pulled_ahead, ob 2 q_t_fraction [.long t_fraction_upper, .long t_fraction_lower]]) rfl (by decide) (by decide) (by decide) rfl rfl (fun u hw => ?_)
  try dsimp only at hw
  show G X E 6 [ob 5 q_LAP [.ref q_LAP_glue, .ref q_LAP_upper, .ref q_LAP_under, .ref q_LAP_work, .ref q_LAP_wear, .ref q_LAP_cells, .int LAP_spots, .int LAP_cure], aI E.I q_LAP_glue 5 LAP_glue, ob 0 q_t_breaks [.ref q_t_breaks_pulled, .ref q_t_breaks_moreWear, .long t_breaks_backUpper, .long t_breaks_backLower], ob 6 q_t_breaks_pulled [.ref q_t_breaks_pulled_slip, .ref q_t_breaks_pulled_shear, .ref q_t_breaks_pulled_ahead, .long t_breaks_pulled_lower, .long t_breaks_pulled_way, .long t_breaks_pulled_firstSlip], aI E.I q_LAP_upper 5 LAP_upper, aI E.I q_LAP_under 5 LAP_under, aJ E.J q_t_breaks_pulled_slip 5 t_breaks_pulled_slip, aJ E.J q_t_breaks_pulled_shear 5 t_breaks_pulled_shear, aJ E.J q_t_breaks_pulled_ahead 5 t_breaks_pulled_ahead, ob 2 q_t_fraction [.long t_fraction_upper, .long t_fraction_lower], ob 9 q_t [.ref q_t_signs, .ref q_t_laps, .ref q_t_breaks, .ref q_t_fraction, .ref q_t_settings, .ref q_t_rates, .ref q_t_joints, .ref q_t_tested, .ref q_t_knocks, .ref q_t_choices], aO E.O q_t_laps 6 t_laps] 0 0 5 [(0, .ref q_t), (1, .int p0), (2, .int p1), (3, .int p2), (4, .int p3)] [.ref q_LAP]
  refine g_astore C0 (lv2 := [(5, .ref q_LAP), (0, .ref q_t), (1, .int p0), (2, .int p1), (3, .int p2), (4, .int p3)]) dX9_pull_5 (by decide) rfl ?_
  refine g_aload C0 dX9_pull_7 0 rfl ?_
  refine g_ifnull C0 dX9_pull_9 ?_
  refine g_aload C0 dX9_pull_12 0 rfl ?_
  refine g_iload_n C0 dX9_pull_14 3 rfl ?_
  refine g_callV C0 (q0 := 0) (ci := 5) (c_X5_hasSpot l E q_LAP q_LAP_glue q_LAP_upper q_LAP_under q_LAP_work q_LAP_wear q_LAP_cells p1 LAP_spots LAP_cure _ hw) dX9_pull_15 gX9_pull_X5_hasSpot rfl ddV_X5_hasSpot rfl (by decide) (by decide) rfl (Nat.le_of_ble_eq_true rfl) [0] [1, 2, 3, 4, 5, 6, 7, 8, 9, 10, 11] rfl (wr := [aI E.I q_LAP_glue 5 LAP_glue, ob 0 q_t_breaks [.ref q_t_breaks_pulled, .ref q_t_breaks_moreWear, .long t_breaks_backUpper, .long t_breaks_backLower], ob 6 q_t_breaks_pulled [.ref q_t_breaks_pulled_slip, .ref q_t_breaks_pulled_shear, .ref q_t_breaks_pulled_ahead, .long t_breaks_pulled_lower, .long t_breaks_pulled_way, .long t_breaks_pulled_firstSlip], aI E.I q_LAP_upper 5 LAP_upper, aI E.I q_LAP_under 5 LAP_under, aJ E.J q_t_breaks_pulled_slip 5 t_breaks_pulled_slip, aJ E.J q_t_breaks_pulled_shear 5 t_breaks_pulled_shear, aJ E.J q_t_breaks_pulled_ahead 5 t_breaks_pulled_ahead, ob 2 q_t_fraction [.long t_fraction_upper, .long t_fraction_lower], ob 9 q_t [.ref q_t_signs, .ref q_t_laps, .ref q_t_breaks, .ref q_t_fraction, .ref q_t_settings, .ref q_t_rates, .ref q_t_joints, .ref q_t_tested, .ref q_t_knocks, .ref q_t_choices], aO E.O q_t_laps 6 t_laps]) rfl (by decide) (by decide) (by decide) rfl rfl (fun u hw => ?_)
  obtain ⟨r1, hu_⟩ : ∃ z, z = u := ⟨_, rfl⟩
  subst hu_
  try dsimp only at hw
  show G X E 6 [aI E.I q_LAP_glue 5 LAP_glue, ob 0 q_t_breaks [.ref q_t_breaks_pulled, .ref q_t_breaks_moreWear, .long t_breaks_backUpper, .long t_breaks_backLower], ob 6 q_t_breaks_pulled [.ref q_t_breaks_pulled_slip, .ref q_t_breaks_pulled_shear, .ref q_t_breaks_pulled_ahead, .long t_breaks_pulled_lower, .long t_breaks_pulled_way, .long t_breaks_pulled_firstSlip], aI E.I q_LAP_upper 5 LAP_upper, aI E.I q_LAP_under 5 LAP_under, aJ E.J q_t_breaks_pulled_slip 5 t_breaks_pulled_slip, aJ E.J q_t_breaks_pulled_shear 5 t_breaks_pulled_shear, aJ E.J q_t_breaks_pulled_ahead 5 t_breaks_pulled_ahead, ob 2 q_t_fraction [.long t_fraction_upper, .long t_fraction_lower], ob 9 q_t [.ref q_t_signs, .ref q_t_laps, .ref q_t_breaks, .ref q_t_fraction, .ref q_t_settings, .ref q_t_rates, .ref q_t_joints, .ref q_t_tested, .ref q_t_knocks, .ref q_t_choices], aO E.O q_t_laps 6 t_laps, ob 5 q_LAP [.ref q_LAP_glue, .ref q_LAP_upper, .ref q_LAP_under, .ref q_LAP_work, .ref q_LAP_wear, .ref q_LAP_cells, .int LAP_spots, .int LAP_cure]] 0 0 18 [(5, .ref q_LAP), (0, .ref q_t), (1, .int p0), (2, .int p1), (3, .int p2), (4, .int p3)] [.int (bI r1)]
  refine g_ifb_ne C0 (tgt := 25) dX9_pull_18 (by decide) (fun c2 => ?_) (fun c2 => ?_)
  · replace hw := hw.1 c2
    refine g_iload_n C0 dX9_pull_25 4 rfl ?_
    refine g_iconst C0 (v := 0) dX9_pull_26 (by decide) ?_
    refine g_iconst C0 (v := 2) dX9_pull_27 (by decide) ?_
    refine g_callS C0 (c_X9_within l E p2 0 2 _ hw) dX9_pull_28 gX9_pull_X9_within rfl ddS_X9_within rfl (by decide) (by decide) rfl (Nat.le_of_ble_eq_true rfl) [] [0, 1, 2, 3, 4, 5, 6, 7, 8, 9, 10, 11] rfl (wr := [aI E.I q_LAP_glue 5 LAP_glue, ob 0 q_t_breaks [.ref q_t_breaks_pulled, .ref q_t_breaks_moreWear, .long t_breaks_backUpper, .long t_breaks_backLower], ob 6 q_t_breaks_pulled [.ref q_t_breaks_pulled_slip, .ref q_t_breaks_pulled_shear, .ref q_t_breaks_pulled_ahead, .long t_breaks_pulled_lower, .long t_breaks_pulled_way, .long t_breaks_pulled_firstSlip], aI E.I q_LAP_upper 5 LAP_upper, aI E.I q_LAP_under 5 LAP_under, aJ E.J q_t_breaks_pulled_slip 5 t_breaks_pulled_slip, aJ E.J q_t_breaks_pulled_shear 5 t_breaks_pulled_shear, aJ E.J q_t_breaks_pulled_ahead 5 t_breaks_pulled_ahead, ob 2 q_t_fraction [.long t_fraction_upper, .long t_fraction_lower], ob 9 q_t [.ref q_t_signs, .ref q_t_laps, .ref q_t_breaks, .ref q_t_fraction, .ref q_t_settings, .ref q_t_rates, .ref q_t_joints, .ref q_t_tested, .ref q_t_knocks, .ref q_t_choices], aO E.O q_t_laps 6 t_laps, ob 5 q_LAP [.ref q_LAP_glue, .ref q_LAP_upper, .ref q_LAP_under, .ref q_LAP_work, .ref q_LAP_wear, .ref q_LAP_cells, .int LAP_spots, .int LAP_cure]]) rfl (by decide) (by decide) (by decide) (fun u hw => ?_)
    obtain ⟨r3, hu_⟩ : ∃ z, z = u := ⟨_, rfl⟩
    subst hu_
    try dsimp only at hw
    show G X E 6 [aI E.I q_LAP_glue 5 LAP_glue, ob 0 q_t_breaks [.ref q_t_breaks_pulled, .ref q_t_breaks_moreWear, .long t_breaks_backUpper, .long t_breaks_backLower], ob 6 q_t_breaks_pulled [.ref q_t_breaks_pulled_slip, .ref q_t_breaks_pulled_shear, .ref q_t_breaks_pulled_ahead, .long t_breaks_pulled_lower, .long t_breaks_pulled_way, .long t_breaks_pulled_firstSlip], aI E.I q_LAP_upper 5 LAP_upper, aI E.I q_LAP_under 5 LAP_under, aJ E.J q_t_breaks_pulled_slip 5 t_breaks_pulled_slip, aJ E.J q_t_breaks_pulled_shear 5 t_breaks_pulled_shear, aJ E.J q_t_breaks_pulled_ahead 5 t_breaks_pulled_ahead, ob 2 q_t_fraction [.long t_fraction_upper, .long t_fraction_lower], ob 9 q_t [.ref q_t_signs, .ref q_t_laps, .ref q_t_breaks, .ref q_t_fraction, .ref q_t_settings, .ref q_t_rates, .ref q_t_joints, .ref q_t_tested, .ref q_t_knocks, .ref q_t_choices], aO E.O q_t_laps 6 t_laps, ob 5 q_LAP [.ref q_LAP_glue, .ref q_LAP_upper, .ref q_LAP_under, .ref q_LAP_work, .ref q_LAP_wear, .ref q_LAP_cells, .int LAP_spots, .int LAP_cure]] 0 0 31 [(5, .ref q_LAP), (0, .ref q_t), (1, .int p0), (2, .int p1), (3, .int p2), (4, .int p3)] [.int (bI r3)]
    refine g_ifb_eq C0 (tgt := 42) dX9_pull_31 (by decide) (fun c4 => ?_) (fun c4 => ?_)
    · replace hw := hw.1 c4
      refine g_ldc2 C0 (v := (-1000000000000000002)) dX9_pull_42 (List.mem_of_getElem? (i := 2) rfl) ?_
      exact g_lret C0 R1 dX9_pull_45 ((-1000000000000000002), t_breaks_pulled_lower, t_breaks_pulled_firstSlip, t_breaks_pulled_way, t_breaks_pulled_slip, t_breaks_pulled_shear, t_breaks_pulled_ahead, t_fraction_upper, t_fraction_lower) rfl hw [9, 10, 11, 0, 1, 2, 3, 4, 5, 6, 7, 8] (by decide) rfl (by decide) (by decide)
    · replace hw := hw.2 c4
      refine g_iload C0 dX9_pull_34 5 rfl ?_
      refine g_callS C0 (c_X9_isPart l E p3 _ hw) dX9_pull_36 gX9_pull_X9_isPart rfl ddS_X9_isPart rfl (by decide) (by decide) rfl (Nat.le_of_ble_eq_true rfl) [] [0, 1, 2, 3, 4, 5, 6, 7, 8, 9, 10, 11] rfl (wr := [aI E.I q_LAP_glue 5 LAP_glue, ob 0 q_t_breaks [.ref q_t_breaks_pulled, .ref q_t_breaks_moreWear, .long t_breaks_backUpper, .long t_breaks_backLower], ob 6 q_t_breaks_pulled [.ref q_t_breaks_pulled_slip, .ref q_t_breaks_pulled_shear, .ref q_t_breaks_pulled_ahead, .long t_breaks_pulled_lower, .long t_breaks_pulled_way, .long t_breaks_pulled_firstSlip], aI E.I q_LAP_upper 5 LAP_upper, aI E.I q_LAP_under 5 LAP_under, aJ E.J q_t_breaks_pulled_slip 5 t_breaks_pulled_slip, aJ E.J q_t_breaks_pulled_shear 5 t_breaks_pulled_shear, aJ E.J q_t_breaks_pulled_ahead 5 t_breaks_pulled_ahead, ob 2 q_t_fraction [.long t_fraction_upper, .long t_fraction_lower], ob 9 q_t [.ref q_t_signs, .ref q_t_laps, .ref q_t_breaks, .ref q_t_fraction, .ref q_t_settings, .ref q_t_rates, .ref q_t_joints, .ref q_t_tested, .ref q_t_knocks, .ref q_t_choices], aO E.O q_t_laps 6 t_laps, ob 5 q_LAP [.ref q_LAP_glue, .ref q_LAP_upper, .ref q_LAP_under, .ref q_LAP_work, .ref q_LAP_wear, .ref q_LAP_cells, .int LAP_spots, .int LAP_cure]]) rfl (by decide) (by decide) (by decide) (fun u hw => ?_)
      obtain ⟨r5, hu_⟩ : ∃ z, z = u := ⟨_, rfl⟩
      subst hu_
      try dsimp only at hw
      show G X E 6 [aI E.I q_LAP_glue 5 LAP_glue, ob 0 q_t_breaks [.ref q_t_breaks_pulled, .ref q_t_breaks_moreWear, .long t_breaks_backUpper, .long t_breaks_backLower], ob 6 q_t_breaks_pulled [.ref q_t_breaks_pulled_slip, .ref q_t_breaks_pulled_shear, .ref q_t_breaks_pulled_ahead, .long t_breaks_pulled_lower, .long t_breaks_pulled_way, .long t_breaks_pulled_firstSlip], aI E.I q_LAP_upper 5 LAP_upper, aI E.I q_LAP_under 5 LAP_under, aJ E.J q_t_breaks_pulled_slip 5 t_breaks_pulled_slip, aJ E.J q_t_breaks_pulled_shear 5 t_breaks_pulled_shear, aJ E.J q_t_breaks_pulled_ahead 5 t_breaks_pulled_ahead, ob 2 q_t_fraction [.long t_fraction_upper, .long t_fraction_lower], ob 9 q_t [.ref q_t_signs, .ref q_t_laps, .ref q_t_breaks, .ref q_t_fraction, .ref q_t_settings, .ref q_t_rates, .ref q_t_joints, .ref q_t_tested, .ref q_t_knocks, .ref q_t_choices], aO E.O q_t_laps 6 t_laps, ob 5 q_LAP [.ref q_LAP_glue, .ref q_LAP_upper, .ref q_LAP_under, .ref q_LAP_work, .ref q_LAP_wear, .ref q_LAP_cells, .int LAP_spots, .int LAP_cure]] 0 0 39 [(5, .ref q_LAP), (0, .ref q_t), (1, .int p0), (2, .int p1), (3, .int p2), (4, .int p3)] [.int (bI r5)]
      refine g_ifb_ne C0 (tgt := 46) dX9_pull_39 (by decide) (fun c6 => ?_) (fun c6 => ?_)
      · replace hw := hw.1 c6
        refine g_aload C0 dX9_pull_46 0 rfl ?_
        refine g_callV C0 (q0 := 11) (ci := 5) (c_X5_isLoose l E q_LAP q_LAP_glue q_LAP_upper q_LAP_under q_LAP_work q_LAP_wear q_LAP_cells LAP_spots LAP_cure LAP_glue _ hw) dX9_pull_48 gX9_pull_X5_isLoose rfl ddV_X5_isLoose rfl (by decide) (by decide) rfl (Nat.le_of_ble_eq_true rfl) [11, 0] [1, 2, 3, 4, 5, 6, 7, 8, 9, 10] rfl (wr := [ob 0 q_t_breaks [.ref q_t_breaks_pulled, .ref q_t_breaks_moreWear, .long t_breaks_backUpper, .long t_breaks_backLower], ob 6 q_t_breaks_pulled [.ref q_t_breaks_pulled_slip, .ref q_t_breaks_pulled_shear, .ref q_t_breaks_pulled_ahead, .long t_breaks_pulled_lower, .long t_breaks_pulled_way, .long t_breaks_pulled_firstSlip], aI E.I q_LAP_upper 5 LAP_upper, aI E.I q_LAP_under 5 LAP_under, aJ E.J q_t_breaks_pulled_slip 5 t_breaks_pulled_slip, aJ E.J q_t_breaks_pulled_shear 5 t_breaks_pulled_shear, aJ E.J q_t_breaks_pulled_ahead 5 t_breaks_pulled_ahead, ob 2 q_t_fraction [.long t_fraction_upper, .long t_fraction_lower], ob 9 q_t [.ref q_t_signs, .ref q_t_laps, .ref q_t_breaks, .ref q_t_fraction, .ref q_t_settings, .ref q_t_rates, .ref q_t_joints, .ref q_t_tested, .ref q_t_knocks, .ref q_t_choices], aO E.O q_t_laps 6 t_laps]) rfl (by decide) (by decide) (by decide) rfl rfl (fun u hw => ?_)
        obtain ⟨r7, hu_⟩ : ∃ z, z = u := ⟨_, rfl⟩
        subst hu_
        try dsimp only at hw
        show G X E 6 [ob 0 q_t_breaks [.ref q_t_breaks_pulled, .ref q_t_breaks_moreWear, .long t_breaks_backUpper, .long t_breaks_backLower], ob 6 q_t_breaks_pulled [.ref q_t_breaks_pulled_slip, .ref q_t_breaks_pulled_shear, .ref q_t_breaks_pulled_ahead, .long t_breaks_pulled_lower, .long t_breaks_pulled_way, .long t_breaks_pulled_firstSlip], aI E.I q_LAP_upper 5 LAP_upper, aI E.I q_LAP_under 5 LAP_under, aJ E.J q_t_breaks_pulled_slip 5 t_breaks_pulled_slip, aJ E.J q_t_breaks_pulled_shear 5 t_breaks_pulled_shear, aJ E.J q_t_breaks_pulled_ahead 5 t_breaks_pulled_ahead, ob 2 q_t_fraction [.long t_fraction_upper, .long t_fraction_lower], ob 9 q_t [.ref q_t_signs, .ref q_t_laps, .ref q_t_breaks, .ref q_t_fraction, .ref q_t_settings, .ref q_t_rates, .ref q_t_joints, .ref q_t_tested, .ref q_t_knocks, .ref q_t_choices], aO E.O q_t_laps 6 t_laps, ob 5 q_LAP [.ref q_LAP_glue, .ref q_LAP_upper, .ref q_LAP_under, .ref q_LAP_work, .ref q_LAP_wear, .ref q_LAP_cells, .int LAP_spots, .int LAP_cure], aI E.I q_LAP_glue 5 LAP_glue] 0 0 51 [(5, .ref q_LAP), (0, .ref q_t), (1, .int p0), (2, .int p1), (3, .int p2), (4, .int p3)] [.int (bI r7)]
        refine g_ifb_eq C0 (tgt := 58) dX9_pull_51 (by decide) (fun c8 => ?_) (fun c8 => ?_)
        · replace hw := hw.1 c8
          refine g_aload_n C0 dX9_pull_58 1 rfl ?_
          refine g_get C0 dX9_pull_59 8 rfl 2 rfl rfl hinX9 (by decide) (List.mem_of_getElem? (i := 4) rfl) rfl ?_
          refine g_aload C0 dX9_pull_62 0 rfl ?_
          refine g_iload_n C0 dX9_pull_64 3 rfl ?_
          refine g_iload_n C0 dX9_pull_65 4 rfl ?_
          refine g_aload_n C0 dX9_pull_66 1 rfl ?_
          refine g_get C0 dX9_pull_67 8 rfl 3 rfl rfl hinX9 (by decide) (List.mem_of_getElem? (i := 5) rfl) rfl ?_
          refine g_callV C0 (q0 := 0) (ci := 0) (c_X0_tellPull l E q_t_breaks q_LAP q_t_fraction q_t_breaks_pulled q_t_breaks_moreWear q_t_breaks_pulled_slip q_t_breaks_pulled_shear q_t_breaks_pulled_ahead q_LAP_glue q_LAP_upper q_LAP_under q_LAP_work q_LAP_wear q_LAP_cells p1 p2 t_breaks_backUpper t_breaks_backLower t_breaks_pulled_lower t_breaks_pulled_way t_breaks_pulled_firstSlip LAP_spots LAP_cure LAP_glue LAP_upper LAP_under t_breaks_pulled_slip t_breaks_pulled_shear t_breaks_pulled_ahead t_fraction_upper t_fraction_lower _ hw) dX9_pull_70 gX9_pull_X0_tellPull rfl ddV_X0_tellPull rfl (by decide) (by decide) rfl (Nat.le_of_ble_eq_true rfl) [0, 1, 10, 11, 2, 3, 4, 5, 6, 7] [8, 9] rfl (wr := [ob 9 q_t [.ref q_t_signs, .ref q_t_laps, .ref q_t_breaks, .ref q_t_fraction, .ref q_t_settings, .ref q_t_rates, .ref q_t_joints, .ref q_t_tested, .ref q_t_knocks, .ref q_t_choices], aO E.O q_t_laps 6 t_laps]) rfl (by decide) (by decide) (by decide) rfl rfl (fun u hw => ?_)
          obtain ⟨t_breaks_pulled_lower_9, t_breaks_pulled_firstSlip_10, t_breaks_pulled_way_11, t_breaks_pulled_slip_12, t_breaks_pulled_shear_13, t_breaks_pulled_ahead_14, t_fraction_upper_15, t_fraction_lower_16⟩ := u
          try dsimp only at hw
          show G X E 6 [ob 9 q_t [.ref q_t_signs, .ref q_t_laps, .ref q_t_breaks, .ref q_t_fraction, .ref q_t_settings, .ref q_t_rates, .ref q_t_joints, .ref q_t_tested, .ref q_t_knocks, .ref q_t_choices], aO E.O q_t_laps 6 t_laps, ob 0 q_t_breaks [.ref q_t_breaks_pulled, .ref q_t_breaks_moreWear, .long t_breaks_backUpper, .long t_breaks_backLower], ob 6 q_t_breaks_pulled [.ref q_t_breaks_pulled_slip, .ref q_t_breaks_pulled_shear, .ref q_t_breaks_pulled_ahead, .long t_breaks_pulled_lower_9, .long t_breaks_pulled_way_11, .long t_breaks_pulled_firstSlip_10], ob 5 q_LAP [.ref q_LAP_glue, .ref q_LAP_upper, .ref q_LAP_under, .ref q_LAP_work, .ref q_LAP_wear, .ref q_LAP_cells, .int LAP_spots, .int LAP_cure], aI E.I q_LAP_glue 5 LAP_glue, aI E.I q_LAP_upper 5 LAP_upper, aI E.I q_LAP_under 5 LAP_under, aJ E.J q_t_breaks_pulled_slip 5 t_breaks_pulled_slip_12, aJ E.J q_t_breaks_pulled_shear 5 t_breaks_pulled_shear_13, aJ E.J q_t_breaks_pulled_ahead 5 t_breaks_pulled_ahead_14, ob 2 q_t_fraction [.long t_fraction_upper_15, .long t_fraction_lower_16]] 0 0 73 [(5, .ref q_LAP), (0, .ref q_t), (1, .int p0), (2, .int p1), (3, .int p2), (4, .int p3)] []
          refine g_aload_n C0 dX9_pull_73 1 rfl ?_
          refine g_get C0 dX9_pull_74 0 rfl 3 rfl rfl hinX9 (by decide) (List.mem_of_getElem? (i := 5) rfl) rfl ?_
          refine g_iload C0 dX9_pull_77 5 rfl ?_
          refine g_callV C0 (q0 := 11) (ci := 2) (c_X2_number l E q_t_fraction p3 t_fraction_upper_15 t_fraction_lower_16 _ hw) dX9_pull_79 gX9_pull_X2_number rfl ddV_X2_number rfl (by decide) (by decide) rfl (Nat.le_of_ble_eq_true rfl) [11] [0, 1, 2, 3, 4, 5, 6, 7, 8, 9, 10] rfl (wr := [ob 9 q_t [.ref q_t_signs, .ref q_t_laps, .ref q_t_breaks, .ref q_t_fraction, .ref q_t_settings, .ref q_t_rates, .ref q_t_joints, .ref q_t_tested, .ref q_t_knocks, .ref q_t_choices], aO E.O q_t_laps 6 t_laps, ob 0 q_t_breaks [.ref q_t_breaks_pulled, .ref q_t_breaks_moreWear, .long t_breaks_backUpper, .long t_breaks_backLower], ob 6 q_t_breaks_pulled [.ref q_t_breaks_pulled_slip, .ref q_t_breaks_pulled_shear, .ref q_t_breaks_pulled_ahead, .long t_breaks_pulled_lower_9, .long t_breaks_pulled_way_11, .long t_breaks_pulled_firstSlip_10], ob 5 q_LAP [.ref q_LAP_glue, .ref q_LAP_upper, .ref q_LAP_under, .ref q_LAP_work, .ref q_LAP_wear, .ref q_LAP_cells, .int LAP_spots, .int LAP_cure], aI E.I q_LAP_glue 5 LAP_glue, aI E.I q_LAP_upper 5 LAP_upper, aI E.I q_LAP_under 5 LAP_under, aJ E.J q_t_breaks_pulled_slip 5 t_breaks_pulled_slip_12, aJ E.J q_t_breaks_pulled_shear 5 t_breaks_pulled_shear_13, aJ E.J q_t_breaks_pulled_ahead 5 t_breaks_pulled_ahead_14]) rfl (by decide) (by decide) (by decide) rfl rfl (fun u hw => ?_)
          obtain ⟨r17, hu_⟩ : ∃ z, z = u := ⟨_, rfl⟩
          subst hu_
          try dsimp only at hw
          show G X E 6 [ob 9 q_t [.ref q_t_signs, .ref q_t_laps, .ref q_t_breaks, .ref q_t_fraction, .ref q_t_settings, .ref q_t_rates, .ref q_t_joints, .ref q_t_tested, .ref q_t_knocks, .ref q_t_choices], aO E.O q_t_laps 6 t_laps, ob 0 q_t_breaks [.ref q_t_breaks_pulled, .ref q_t_breaks_moreWear, .long t_breaks_backUpper, .long t_breaks_backLower], ob 6 q_t_breaks_pulled [.ref q_t_breaks_pulled_slip, .ref q_t_breaks_pulled_shear, .ref q_t_breaks_pulled_ahead, .long t_breaks_pulled_lower_9, .long t_breaks_pulled_way_11, .long t_breaks_pulled_firstSlip_10], ob 5 q_LAP [.ref q_LAP_glue, .ref q_LAP_upper, .ref q_LAP_under, .ref q_LAP_work, .ref q_LAP_wear, .ref q_LAP_cells, .int LAP_spots, .int LAP_cure], aI E.I q_LAP_glue 5 LAP_glue, aI E.I q_LAP_upper 5 LAP_upper, aI E.I q_LAP_under 5 LAP_under, aJ E.J q_t_breaks_pulled_slip 5 t_breaks_pulled_slip_12, aJ E.J q_t_breaks_pulled_shear 5 t_breaks_pulled_shear_13, aJ E.J q_t_breaks_pulled_ahead 5 t_breaks_pulled_ahead_14, ob 2 q_t_fraction [.long t_fraction_upper_15, .long t_fraction_lower_16]] 0 0 82 [(5, .ref q_LAP), (0, .ref q_t), (1, .int p0), (2, .int p1), (3, .int p2), (4, .int p3)] [.long r17]
          exact g_lret C0 R1 dX9_pull_82 (r17, t_breaks_pulled_lower_9, t_breaks_pulled_firstSlip_10, t_breaks_pulled_way_11, t_breaks_pulled_slip_12, t_breaks_pulled_shear_13, t_breaks_pulled_ahead_14, t_fraction_upper_15, t_fraction_lower_16) rfl hw [0, 1, 4, 5, 2, 3, 6, 7, 8, 9, 10, 11] (by decide) rfl (by decide) (by decide)
        · replace hw := hw.2 c8
          refine g_ldc2 C0 (v := (-1000000000000000003)) dX9_pull_54 (List.mem_of_getElem? (i := 3) rfl) ?_
          exact g_lret C0 R1 dX9_pull_57 ((-1000000000000000003), t_breaks_pulled_lower, t_breaks_pulled_firstSlip, t_breaks_pulled_way, t_breaks_pulled_slip, t_breaks_pulled_shear, t_breaks_pulled_ahead, t_fraction_upper, t_fraction_lower) rfl hw [8, 9, 10, 11, 0, 1, 2, 3, 4, 5, 6, 7] (by decide) rfl (by decide) (by decide)
      · replace hw := hw.2 c6
        refine g_ldc2 C0 (v := (-1000000000000000002)) dX9_pull_42 (List.mem_of_getElem? (i := 2) rfl) ?_
        exact g_lret C0 R1 dX9_pull_45 ((-1000000000000000002), t_breaks_pulled_lower, t_breaks_pulled_firstSlip, t_breaks_pulled_way, t_breaks_pulled_slip, t_breaks_pulled_shear, t_breaks_pulled_ahead, t_fraction_upper, t_fraction_lower) rfl hw [9, 10, 11, 0, 1, 2, 3, 4, 5, 6, 7, 8] (by decide) rfl (by decide) (by decide)
  · replace hw := hw.2 c2
    refine g_ldc2 C0 (v := (-1000000000000000001)) dX9_pull_21 (List.mem_of_getElem? (i := 1) rfl) ?_
    exact g_lret C0 R1 dX9_pull_24 ((-1000000000000000001), t_breaks_pulled_lower, t_breaks_pulled_firstSlip, t_breaks_pulled_way, t_breaks_pulled_slip, t_breaks_pulled_shear, t_breaks_pulled_ahead, t_fraction_upper, t_fraction_lower) rfl hw [9, 10, 11, 0, 1, 2, 3, 4, 5, 6, 7, 8] (by decide) rfl (by decide) (by decide)
def w_X9_pull_N (p0 : Int32) (p1 : Int32) (p2 : Int32) (p3 : Int32) (t_laps : Nat → Option Nat) (Q : Int64 → Prop) : Prop := w_X9_lapAt_N p0 t_laps (Q (-1000000000000000001))
set_option maxHeartbeats 4000000 in
set_option maxRecDepth 100000 in
theorem c_X9_pull_N (l : Launch) (E : gE) (q_t q_t_signs q_t_laps q_t_breaks q_t_fraction q_t_settings q_t_rates q_t_joints q_t_tested q_t_knocks q_t_choices : Nat) (p0 : Int32) (p1 : Int32) (p2 : Int32) (p3 : Int32) (t_laps : Nat → Option Nat) (Q : Int64 → Prop) (hw : w_X9_pull_N p0 p1 p2 p3 t_laps Q) : Ct l E yX9_pull wsX9_pull { frames := 2, cells := 0, slots := 0, locals := 43 } [.ref q_t, .int p0, .int p1, .int p2, .int p3] [ob 9 q_t [.ref q_t_signs, .ref q_t_laps, .ref q_t_breaks, .ref q_t_fraction, .ref q_t_settings, .ref q_t_rates, .ref q_t_joints, .ref q_t_tested, .ref q_t_knocks, .ref q_t_choices], aO E.O q_t_laps 6 t_laps] (S := Int64) (fun u => some (.long u)) (fun u => Q u) (fun u => [ob 9 q_t [.ref q_t_signs, .ref q_t_laps, .ref q_t_breaks, .ref q_t_fraction, .ref q_t_settings, .ref q_t_rates, .ref q_t_joints, .ref q_t_tested, .ref q_t_knocks, .ref q_t_choices], aO E.O q_t_laps 6 t_laps]) := by
  unfold w_X9_pull_N at hw
  refine g_start (cc := cX9_pull) (nL := 6) (own := RX9) (ret := (some .long)) rfl (by decide) rfl (Nat.le_of_ble_eq_true rfl) (lv0 := [(0, .ref q_t), (1, .int p0), (2, .int p1), (3, .int p2), (4, .int p3)]) rfl (fun X C0 R1 => ?_)
  refine g_aload_n C0 dX9_pull_0 0 rfl ?_
  refine g_iload_n C0 dX9_pull_1 1 rfl ?_
  refine g_callV C0 (q0 := 0) (ci := 9) (c_X9_lapAt_N l E q_t q_t_signs q_t_laps q_t_breaks q_t_fraction q_t_settings q_t_rates q_t_joints q_t_tested q_t_knocks q_t_choices p0 t_laps _ hw) dX9_pull_2 gX9_pull_X9_lapAt rfl ddV_X9_lapAt rfl (by decide) (by decide) rfl (Nat.le_of_ble_eq_true rfl) [0, 1] [] rfl (wr := []) rfl (by decide) (by decide) (by decide) rfl rfl (fun u hw => ?_)
  try dsimp only at hw
  show G X E 6 [ob 9 q_t [.ref q_t_signs, .ref q_t_laps, .ref q_t_breaks, .ref q_t_fraction, .ref q_t_settings, .ref q_t_rates, .ref q_t_joints, .ref q_t_tested, .ref q_t_knocks, .ref q_t_choices], aO E.O q_t_laps 6 t_laps] 0 0 5 [(0, .ref q_t), (1, .int p0), (2, .int p1), (3, .int p2), (4, .int p3)] [.null]
  refine g_astoreN C0 (lv2 := [(5, .null), (0, .ref q_t), (1, .int p0), (2, .int p1), (3, .int p2), (4, .int p3)]) dX9_pull_5 (by decide) rfl ?_
  refine g_aloadN C0 dX9_pull_7 0 rfl ?_
  refine g_ifnullN C0 (tgt := 21) dX9_pull_9 (by decide) ?_
  refine g_ldc2 C0 (v := (-1000000000000000001)) dX9_pull_21 (List.mem_of_getElem? (i := 1) rfl) ?_
  exact g_lret C0 R1 dX9_pull_24 (-1000000000000000001) rfl hw [0, 1] (by decide) rfl (by decide) (by decide)
def w_X9_give_S (q_LAP : Nat) (p0 : Int32) (p1 : Int32) (t_laps : Nat → Option Nat) (LAP_glue : Nat → Int32) (t_breaks_pulled_lower : Int64) (t_breaks_pulled_way : Int64) (t_breaks_pulled_firstSlip : Int64) (LAP_upper : Nat → Int32) (LAP_under : Nat → Int32) (t_breaks_pulled_slip : Nat → Int64) (t_breaks_pulled_shear : Nat → Int64) (t_breaks_pulled_ahead : Nat → Int64) (t_fraction_upper : Int64) (t_fraction_lower : Int64) (Q : Int64 → Int64 → Int64 → Int64 → (Nat → Int64) → (Nat → Int64) → (Nat → Int64) → Int64 → Int64 → Prop) : Prop := w_X9_lapAt_S q_LAP p0 t_laps (w_X9_isPart p1 (fun (r1 : Bool) => (r1 = true → w_X5_isLoose LAP_glue (fun (r3 : Bool) => (r3 = false → w_X0_tellGive t_breaks_pulled_way LAP_glue LAP_upper LAP_under t_breaks_pulled_slip t_breaks_pulled_shear t_breaks_pulled_ahead t_fraction_upper t_fraction_lower (fun (t_breaks_pulled_lower_5 : Int64) (t_breaks_pulled_firstSlip_6 : Int64) (t_breaks_pulled_way_7 : Int64) (t_breaks_pulled_slip_8 : Nat → Int64) (t_breaks_pulled_shear_9 : Nat → Int64) (t_breaks_pulled_ahead_10 : Nat → Int64) (t_fraction_upper_11 : Int64) (t_fraction_lower_12 : Int64) => w_X2_number p1 t_fraction_upper_11 t_fraction_lower_12 (fun (r13 : Int64) => Q r13 t_breaks_pulled_lower_5 t_breaks_pulled_firstSlip_6 t_breaks_pulled_way_7 t_breaks_pulled_slip_8 t_breaks_pulled_shear_9 t_breaks_pulled_ahead_10 t_fraction_upper_11 t_fraction_lower_12))) ∧ (r3 = true → Q (-1000000000000000003) t_breaks_pulled_lower t_breaks_pulled_firstSlip t_breaks_pulled_way t_breaks_pulled_slip t_breaks_pulled_shear t_breaks_pulled_ahead t_fraction_upper t_fraction_lower))) ∧ (r1 = false → Q (-1000000000000000002) t_breaks_pulled_lower t_breaks_pulled_firstSlip t_breaks_pulled_way t_breaks_pulled_slip t_breaks_pulled_shear t_breaks_pulled_ahead t_fraction_upper t_fraction_lower)))
theorem ddV_X9_give : yX9_give.cls = RX9 ∧ yX9_give.cls ≠ "java/lang/invoke/MethodHandle" ∧ yX9_give.cls ≠ "java/lang/invoke/VarHandle" ∧ (parseMethodDescriptor yX9_give.desc).map (fun d => d.parameters.length) = some 2 := by decide +kernel
set_option maxHeartbeats 4000000 in
set_option maxRecDepth 100000 in
theorem c_X9_give_S (l : Launch) (E : gE) (q_t q_LAP q_t_signs q_t_laps q_t_breaks q_t_fraction q_t_settings q_t_rates q_t_joints q_t_tested q_t_knocks q_t_choices q_LAP_glue q_LAP_upper q_LAP_under q_LAP_work q_LAP_wear q_LAP_cells q_t_breaks_pulled q_t_breaks_moreWear q_t_breaks_pulled_slip q_t_breaks_pulled_shear q_t_breaks_pulled_ahead : Nat) (p0 : Int32) (p1 : Int32) (t_laps : Nat → Option Nat) (LAP_spots : Int32) (LAP_cure : Int32) (LAP_glue : Nat → Int32) (t_breaks_backUpper : Int64) (t_breaks_backLower : Int64) (t_breaks_pulled_lower : Int64) (t_breaks_pulled_way : Int64) (t_breaks_pulled_firstSlip : Int64) (LAP_upper : Nat → Int32) (LAP_under : Nat → Int32) (t_breaks_pulled_slip : Nat → Int64) (t_breaks_pulled_shear : Nat → Int64) (t_breaks_pulled_ahead : Nat → Int64) (t_fraction_upper : Int64) (t_fraction_lower : Int64) (Q : Int64 → Int64 → Int64 → Int64 → (Nat → Int64) → (Nat → Int64) → (Nat → Int64) → Int64 → Int64 → Prop) (hw : w_X9_give_S q_LAP p0 p1 t_laps LAP_glue t_breaks_pulled_lower t_breaks_pulled_way t_breaks_pulled_firstSlip LAP_upper LAP_under t_breaks_pulled_slip t_breaks_pulled_shear t_breaks_pulled_ahead t_fraction_upper t_fraction_lower Q) : Ct l E yX9_give wsX9_give { frames := 3, cells := 0, slots := 0, locals := 79 } [.ref q_t, .int p0, .int p1] [ob 9 q_t [.ref q_t_signs, .ref q_t_laps, .ref q_t_breaks, .ref q_t_fraction, .ref q_t_settings, .ref q_t_rates, .ref q_t_joints, .ref q_t_tested, .ref q_t_knocks, .ref q_t_choices], aO E.O q_t_laps 6 t_laps, ob 5 q_LAP [.ref q_LAP_glue, .ref q_LAP_upper, .ref q_LAP_under, .ref q_LAP_work, .ref q_LAP_wear, .ref q_LAP_cells, .int LAP_spots, .int LAP_cure], aI E.I q_LAP_glue 5 LAP_glue, ob 0 q_t_breaks [.ref q_t_breaks_pulled, .ref q_t_breaks_moreWear, .long t_breaks_backUpper, .long t_breaks_backLower], ob 6 q_t_breaks_pulled [.ref q_t_breaks_pulled_slip, .ref q_t_breaks_pulled_shear, .ref q_t_breaks_pulled_ahead, .long t_breaks_pulled_lower, .long t_breaks_pulled_way, .long t_breaks_pulled_firstSlip], aI E.I q_LAP_upper 5 LAP_upper, aI E.I q_LAP_under 5 LAP_under, aJ E.J q_t_breaks_pulled_slip 5 t_breaks_pulled_slip, aJ E.J q_t_breaks_pulled_shear 5 t_breaks_pulled_shear, aJ E.J q_t_breaks_pulled_ahead 5 t_breaks_pulled_ahead, ob 2 q_t_fraction [.long t_fraction_upper, .long t_fraction_lower]] (S := Int64 × Int64 × Int64 × Int64 × (Nat → Int64) × (Nat → Int64) × (Nat → Int64) × Int64 × Int64) (fun u => some (.long u.1)) (fun u => Q u.1 u.2.1 u.2.2.1 u.2.2.2.1 u.2.2.2.2.1 u.2.2.2.2.2.1 u.2.2.2.2.2.2.1 u.2.2.2.2.2.2.2.1 u.2.2.2.2.2.2.2.2) (fun u => [ob 9 q_t [.ref q_t_signs, .ref q_t_laps, .ref q_t_breaks, .ref q_t_fraction, .ref q_t_settings, .ref q_t_rates, .ref q_t_joints, .ref q_t_tested, .ref q_t_knocks, .ref q_t_choices], aO E.O q_t_laps 6 t_laps, ob 5 q_LAP [.ref q_LAP_glue, .ref q_LAP_upper, .ref q_LAP_under, .ref q_LAP_work, .ref q_LAP_wear, .ref q_LAP_cells, .int LAP_spots, .int LAP_cure], aI E.I q_LAP_glue 5 LAP_glue, ob 0 q_t_breaks [.ref q_t_breaks_pulled, .ref q_t_breaks_moreWear, .long t_breaks_backUpper, .long t_breaks_backLower], ob 6 q_t_breaks_pulled [.ref q_t_breaks_pulled_slip, .ref q_t_breaks_pulled_shear, .ref q_t_breaks_pulled_ahead, .long u.2.1, .long u.2.2.2.1, .long u.2.2.1], aI E.I q_LAP_upper 5 LAP_upper, aI E.I q_LAP_under 5 LAP_under, aJ E.J q_t_breaks_pulled_slip 5 u.2.2.2.2.1, aJ E.J q_t_breaks_pulled_shear 5 u.2.2.2.2.2.1, aJ E.J q_t_breaks_pulled_ahead 5 u.2.2.2.2.2.2.1, ob 2 q_t_fraction [.long u.2.2.2.2.2.2.2.1, .long u.2.2.2.2.2.2.2.2]]) := by
  unfold w_X9_give_S at hw
  have hinX9 : ∀ w ∈ wsX90, w ∈ wsX9_give := fun _ h => List.mem_cons_of_mem _ (List.mem_append_left _ (List.mem_append_left _ (List.mem_append_left _ (List.mem_append_left _ (List.mem_append_right _ h)))))
  refine g_start (cc := cX9_give) (nL := 4) (own := RX9) (ret := (some .long)) rfl (by decide) rfl (Nat.le_of_ble_eq_true rfl) (lv0 := [(0, .ref q_t), (1, .int p0), (2, .int p1)]) rfl (fun X C0 R1 => ?_)
  refine g_aload_n C0 dX9_give_0 0 rfl ?_
  refine g_iload_n C0 dX9_give_1 1 rfl ?_
  refine g_callV C0 (q0 := 0) (ci := 9) (c_X9_lapAt_S l E q_t q_LAP q_t_signs q_t_laps q_t_breaks q_t_fraction q_t_settings q_t_rates q_t_joints q_t_tested q_t_knocks q_t_choices p0 t_laps _ hw) dX9_give_2 gX9_give_X9_lapAt rfl ddV_X9_lapAt rfl (by decide) (by decide) rfl (Nat.le_of_ble_eq_true rfl) [0, 1] [2, 3, 4, 5, 6, 7, 8, 9, 10, 11] rfl (wr := [ob 5 q_LAP [.ref q_LAP_glue, .ref q_LAP_upper, .ref q_LAP_under, .ref q_LAP_work, .ref q_LAP_wear, .ref q_LAP_cells, .int LAP_spots, .int LAP_cure], aI E.I q_LAP_glue 5 LAP_glue, ob 0 q_t_breaks [.ref q_t_breaks_pulled, .ref q_t_breaks_moreWear, .long t_breaks_backUpper, .long t_breaks_backLower], ob 6 q_t_breaks_pulled [.ref q_t_breaks_pulled_slip, .ref q_t_breaks_pulled_shear, .ref q_t_breaks_pulled_ahead, .long t_breaks_pulled_lower, .long t_breaks_pulled_way, .long t_breaks_pulled_firstSlip], aI E.I q_LAP_upper 5 LAP_upper, aI E.I q_LAP_under 5 LAP_under, aJ E.J q_t_breaks_pulled_slip 5 t_breaks_pulled_slip, aJ E.J q_t_breaks_pulled_shear 5 t_breaks_pulled_shear, aJ E.J q_t_breaks_pulled_ahead 5 t_breaks_pulled_ahead, ob 2 q_t_fraction [.long t_fraction_upper, .long t_fraction_lower]]) rfl (by decide) (by decide) (by decide) rfl rfl (fun u hw => ?_)
  try dsimp only at hw
  show G X E 4 [ob 5 q_LAP [.ref q_LAP_glue, .ref q_LAP_upper, .ref q_LAP_under, .ref q_LAP_work, .ref q_LAP_wear, .ref q_LAP_cells, .int LAP_spots, .int LAP_cure], aI E.I q_LAP_glue 5 LAP_glue, ob 0 q_t_breaks [.ref q_t_breaks_pulled, .ref q_t_breaks_moreWear, .long t_breaks_backUpper, .long t_breaks_backLower], ob 6 q_t_breaks_pulled [.ref q_t_breaks_pulled_slip, .ref q_t_breaks_pulled_shear, .ref q_t_breaks_pulled_ahead, .long t_breaks_pulled_lower, .long t_breaks_pulled_way, .long t_breaks_pulled_firstSlip], aI E.I q_LAP_upper 5 LAP_upper, aI E.I q_LAP_under 5 LAP_under, aJ E.J q_t_breaks_pulled_slip 5 t_breaks_pulled_slip, aJ E.J q_t_breaks_pulled_shear 5 t_breaks_pulled_shear, aJ E.J q_t_breaks_pulled_ahead 5 t_breaks_pulled_ahead, ob 2 q_t_fraction [.long t_fraction_upper, .long t_fraction_lower], ob 9 q_t [.ref q_t_signs, .ref q_t_laps, .ref q_t_breaks, .ref q_t_fraction, .ref q_t_settings, .ref q_t_rates, .ref q_t_joints, .ref q_t_tested, .ref q_t_knocks, .ref q_t_choices], aO E.O q_t_laps 6 t_laps] 0 0 5 [(0, .ref q_t), (1, .int p0), (2, .int p1)] [.ref q_LAP]
  refine g_astore_n C0 (lv2 := [(3, .ref q_LAP), (0, .ref q_t), (1, .int p0), (2, .int p1)]) dX9_give_5 (by decide) rfl ?_
  refine g_aload_n C0 dX9_give_6 0 rfl ?_
  refine g_ifnonnull C0 (tgt := 14) dX9_give_7 (by decide) ?_
  refine g_iload_n C0 dX9_give_14 3 rfl ?_
  refine g_callS C0 (c_X9_isPart l E p1 _ hw) dX9_give_15 gX9_give_X9_isPart rfl ddS_X9_isPart rfl (by decide) (by decide) rfl (Nat.le_of_ble_eq_true rfl) [] [0, 1, 2, 3, 4, 5, 6, 7, 8, 9, 10, 11] rfl (wr := [ob 5 q_LAP [.ref q_LAP_glue, .ref q_LAP_upper, .ref q_LAP_under, .ref q_LAP_work, .ref q_LAP_wear, .ref q_LAP_cells, .int LAP_spots, .int LAP_cure], aI E.I q_LAP_glue 5 LAP_glue, ob 0 q_t_breaks [.ref q_t_breaks_pulled, .ref q_t_breaks_moreWear, .long t_breaks_backUpper, .long t_breaks_backLower], ob 6 q_t_breaks_pulled [.ref q_t_breaks_pulled_slip, .ref q_t_breaks_pulled_shear, .ref q_t_breaks_pulled_ahead, .long t_breaks_pulled_lower, .long t_breaks_pulled_way, .long t_breaks_pulled_firstSlip], aI E.I q_LAP_upper 5 LAP_upper, aI E.I q_LAP_under 5 LAP_under, aJ E.J q_t_breaks_pulled_slip 5 t_breaks_pulled_slip, aJ E.J q_t_breaks_pulled_shear 5 t_breaks_pulled_shear, aJ E.J q_t_breaks_pulled_ahead 5 t_breaks_pulled_ahead, ob 2 q_t_fraction [.long t_fraction_upper, .long t_fraction_lower], ob 9 q_t [.ref q_t_signs, .ref q_t_laps, .ref q_t_breaks, .ref q_t_fraction, .ref q_t_settings, .ref q_t_rates, .ref q_t_joints, .ref q_t_tested, .ref q_t_knocks, .ref q_t_choices], aO E.O q_t_laps 6 t_laps]) rfl (by decide) (by decide) (by decide) (fun u hw => ?_)
  obtain ⟨r1, hu_⟩ : ∃ z, z = u := ⟨_, rfl⟩
  subst hu_
  try dsimp only at hw
  show G X E 4 [ob 5 q_LAP [.ref q_LAP_glue, .ref q_LAP_upper, .ref q_LAP_under, .ref q_LAP_work, .ref q_LAP_wear, .ref q_LAP_cells, .int LAP_spots, .int LAP_cure], aI E.I q_LAP_glue 5 LAP_glue, ob 0 q_t_breaks [.ref q_t_breaks_pulled, .ref q_t_breaks_moreWear, .long t_breaks_backUpper, .long t_breaks_backLower], ob 6 q_t_breaks_pulled [.ref q_t_breaks_pulled_slip, .ref q_t_breaks_pulled_shear, .ref q_t_breaks_pulled_ahead, .long t_breaks_pulled_lower, .long t_breaks_pulled_way, .long t_breaks_pulled_firstSlip], aI E.I q_LAP_upper 5 LAP_upper, aI E.I q_LAP_under 5 LAP_under, aJ E.J q_t_breaks_pulled_slip 5 t_breaks_pulled_slip, aJ E.J q_t_breaks_pulled_shear 5 t_breaks_pulled_shear, aJ E.J q_t_breaks_pulled_ahead 5 t_breaks_pulled_ahead, ob 2 q_t_fraction [.long t_fraction_upper, .long t_fraction_lower], ob 9 q_t [.ref q_t_signs, .ref q_t_laps, .ref q_t_breaks, .ref q_t_fraction, .ref q_t_settings, .ref q_t_rates, .ref q_t_joints, .ref q_t_tested, .ref q_t_knocks, .ref q_t_choices], aO E.O q_t_laps 6 t_laps] 0 0 18 [(3, .ref q_LAP), (0, .ref q_t), (1, .int p0), (2, .int p1)] [.int (bI r1)]
  refine g_ifb_ne C0 (tgt := 25) dX9_give_18 (by decide) (fun c2 => ?_) (fun c2 => ?_)
  · replace hw := hw.1 c2
    refine g_aload_n C0 dX9_give_25 0 rfl ?_
    refine g_callV C0 (q0 := 0) (ci := 5) (c_X5_isLoose l E q_LAP q_LAP_glue q_LAP_upper q_LAP_under q_LAP_work q_LAP_wear q_LAP_cells LAP_spots LAP_cure LAP_glue _ hw) dX9_give_26 gX9_give_X5_isLoose rfl ddV_X5_isLoose rfl (by decide) (by decide) rfl (Nat.le_of_ble_eq_true rfl) [0, 1] [2, 3, 4, 5, 6, 7, 8, 9, 10, 11] rfl (wr := [ob 0 q_t_breaks [.ref q_t_breaks_pulled, .ref q_t_breaks_moreWear, .long t_breaks_backUpper, .long t_breaks_backLower], ob 6 q_t_breaks_pulled [.ref q_t_breaks_pulled_slip, .ref q_t_breaks_pulled_shear, .ref q_t_breaks_pulled_ahead, .long t_breaks_pulled_lower, .long t_breaks_pulled_way, .long t_breaks_pulled_firstSlip], aI E.I q_LAP_upper 5 LAP_upper, aI E.I q_LAP_under 5 LAP_under, aJ E.J q_t_breaks_pulled_slip 5 t_breaks_pulled_slip, aJ E.J q_t_breaks_pulled_shear 5 t_breaks_pulled_shear, aJ E.J q_t_breaks_pulled_ahead 5 t_breaks_pulled_ahead, ob 2 q_t_fraction [.long t_fraction_upper, .long t_fraction_lower], ob 9 q_t [.ref q_t_signs, .ref q_t_laps, .ref q_t_breaks, .ref q_t_fraction, .ref q_t_settings, .ref q_t_rates, .ref q_t_joints, .ref q_t_tested, .ref q_t_knocks, .ref q_t_choices], aO E.O q_t_laps 6 t_laps]) rfl (by decide) (by decide) (by decide) rfl rfl (fun u hw => ?_)
    obtain ⟨r3, hu_⟩ : ∃ z, z = u := ⟨_, rfl⟩
    subst hu_
    try dsimp only at hw
    show G X E 4 [ob 0 q_t_breaks [.ref q_t_breaks_pulled, .ref q_t_breaks_moreWear, .long t_breaks_backUpper, .long t_breaks_backLower], ob 6 q_t_breaks_pulled [.ref q_t_breaks_pulled_slip, .ref q_t_breaks_pulled_shear, .ref q_t_breaks_pulled_ahead, .long t_breaks_pulled_lower, .long t_breaks_pulled_way, .long t_breaks_pulled_firstSlip], aI E.I q_LAP_upper 5 LAP_upper, aI E.I q_LAP_under 5 LAP_under, aJ E.J q_t_breaks_pulled_slip 5 t_breaks_pulled_slip, aJ E.J q_t_breaks_pulled_shear 5 t_breaks_pulled_shear, aJ E.J q_t_breaks_pulled_ahead 5 t_breaks_pulled_ahead, ob 2 q_t_fraction [.long t_fraction_upper, .long t_fraction_lower], ob 9 q_t [.ref q_t_signs, .ref q_t_laps, .ref q_t_breaks, .ref q_t_fraction, .ref q_t_settings, .ref q_t_rates, .ref q_t_joints, .ref q_t_tested, .ref q_t_knocks, .ref q_t_choices], aO E.O q_t_laps 6 t_laps, ob 5 q_LAP [.ref q_LAP_glue, .ref q_LAP_upper, .ref q_LAP_under, .ref q_LAP_work, .ref q_LAP_wear, .ref q_LAP_cells, .int LAP_spots, .int LAP_cure], aI E.I q_LAP_glue 5 LAP_glue] 0 0 29 [(3, .ref q_LAP), (0, .ref q_t), (1, .int p0), (2, .int p1)] [.int (bI r3)]
    refine g_ifb_eq C0 (tgt := 36) dX9_give_29 (by decide) (fun c4 => ?_) (fun c4 => ?_)
    · replace hw := hw.1 c4
      refine g_aload_n C0 dX9_give_36 1 rfl ?_
      refine g_get C0 dX9_give_37 8 rfl 2 rfl rfl hinX9 (by decide) (List.mem_of_getElem? (i := 4) rfl) rfl ?_
      refine g_aload_n C0 dX9_give_40 0 rfl ?_
      refine g_aload_n C0 dX9_give_41 1 rfl ?_
      refine g_get C0 dX9_give_42 8 rfl 3 rfl rfl hinX9 (by decide) (List.mem_of_getElem? (i := 5) rfl) rfl ?_
      refine g_callV C0 (q0 := 0) (ci := 0) (c_X0_tellGive l E q_t_breaks q_LAP q_t_fraction q_t_breaks_pulled q_t_breaks_moreWear q_t_breaks_pulled_slip q_t_breaks_pulled_shear q_t_breaks_pulled_ahead q_LAP_glue q_LAP_upper q_LAP_under q_LAP_work q_LAP_wear q_LAP_cells t_breaks_backUpper t_breaks_backLower t_breaks_pulled_lower t_breaks_pulled_way t_breaks_pulled_firstSlip LAP_spots LAP_cure LAP_glue LAP_upper LAP_under t_breaks_pulled_slip t_breaks_pulled_shear t_breaks_pulled_ahead t_fraction_upper t_fraction_lower _ hw) dX9_give_45 gX9_give_X0_tellGive rfl ddV_X0_tellGive rfl (by decide) (by decide) rfl (Nat.le_of_ble_eq_true rfl) [0, 1, 10, 11, 2, 3, 4, 5, 6, 7] [8, 9] rfl (wr := [ob 9 q_t [.ref q_t_signs, .ref q_t_laps, .ref q_t_breaks, .ref q_t_fraction, .ref q_t_settings, .ref q_t_rates, .ref q_t_joints, .ref q_t_tested, .ref q_t_knocks, .ref q_t_choices], aO E.O q_t_laps 6 t_laps]) rfl (by decide) (by decide) (by decide) rfl rfl (fun u hw => ?_)
      obtain ⟨t_breaks_pulled_lower_5, t_breaks_pulled_firstSlip_6, t_breaks_pulled_way_7, t_breaks_pulled_slip_8, t_breaks_pulled_shear_9, t_breaks_pulled_ahead_10, t_fraction_upper_11, t_fraction_lower_12⟩ := u
      try dsimp only at hw
      show G X E 4 [ob 9 q_t [.ref q_t_signs, .ref q_t_laps, .ref q_t_breaks, .ref q_t_fraction, .ref q_t_settings, .ref q_t_rates, .ref q_t_joints, .ref q_t_tested, .ref q_t_knocks, .ref q_t_choices], aO E.O q_t_laps 6 t_laps, ob 0 q_t_breaks [.ref q_t_breaks_pulled, .ref q_t_breaks_moreWear, .long t_breaks_backUpper, .long t_breaks_backLower], ob 6 q_t_breaks_pulled [.ref q_t_breaks_pulled_slip, .ref q_t_breaks_pulled_shear, .ref q_t_breaks_pulled_ahead, .long t_breaks_pulled_lower_5, .long t_breaks_pulled_way_7, .long t_breaks_pulled_firstSlip_6], ob 5 q_LAP [.ref q_LAP_glue, .ref q_LAP_upper, .ref q_LAP_under, .ref q_LAP_work, .ref q_LAP_wear, .ref q_LAP_cells, .int LAP_spots, .int LAP_cure], aI E.I q_LAP_glue 5 LAP_glue, aI E.I q_LAP_upper 5 LAP_upper, aI E.I q_LAP_under 5 LAP_under, aJ E.J q_t_breaks_pulled_slip 5 t_breaks_pulled_slip_8, aJ E.J q_t_breaks_pulled_shear 5 t_breaks_pulled_shear_9, aJ E.J q_t_breaks_pulled_ahead 5 t_breaks_pulled_ahead_10, ob 2 q_t_fraction [.long t_fraction_upper_11, .long t_fraction_lower_12]] 0 0 48 [(3, .ref q_LAP), (0, .ref q_t), (1, .int p0), (2, .int p1)] []
      refine g_aload_n C0 dX9_give_48 1 rfl ?_
      refine g_get C0 dX9_give_49 0 rfl 3 rfl rfl hinX9 (by decide) (List.mem_of_getElem? (i := 5) rfl) rfl ?_
      refine g_iload_n C0 dX9_give_52 3 rfl ?_
      refine g_callV C0 (q0 := 11) (ci := 2) (c_X2_number l E q_t_fraction p1 t_fraction_upper_11 t_fraction_lower_12 _ hw) dX9_give_53 gX9_give_X2_number rfl ddV_X2_number rfl (by decide) (by decide) rfl (Nat.le_of_ble_eq_true rfl) [11] [0, 1, 2, 3, 4, 5, 6, 7, 8, 9, 10] rfl (wr := [ob 9 q_t [.ref q_t_signs, .ref q_t_laps, .ref q_t_breaks, .ref q_t_fraction, .ref q_t_settings, .ref q_t_rates, .ref q_t_joints, .ref q_t_tested, .ref q_t_knocks, .ref q_t_choices], aO E.O q_t_laps 6 t_laps, ob 0 q_t_breaks [.ref q_t_breaks_pulled, .ref q_t_breaks_moreWear, .long t_breaks_backUpper, .long t_breaks_backLower], ob 6 q_t_breaks_pulled [.ref q_t_breaks_pulled_slip, .ref q_t_breaks_pulled_shear, .ref q_t_breaks_pulled_ahead, .long t_breaks_pulled_lower_5, .long t_breaks_pulled_way_7, .long t_breaks_pulled_firstSlip_6], ob 5 q_LAP [.ref q_LAP_glue, .ref q_LAP_upper, .ref q_LAP_under, .ref q_LAP_work, .ref q_LAP_wear, .ref q_LAP_cells, .int LAP_spots, .int LAP_cure], aI E.I q_LAP_glue 5 LAP_glue, aI E.I q_LAP_upper 5 LAP_upper, aI E.I q_LAP_under 5 LAP_under, aJ E.J q_t_breaks_pulled_slip 5 t_breaks_pulled_slip_8, aJ E.J q_t_breaks_pulled_shear 5 t_breaks_pulled_shear_9, aJ E.J q_t_breaks_pulled_ahead 5 t_breaks_pulled_ahead_10]) rfl (by decide) (by decide) (by decide) rfl rfl (fun u hw => ?_)
      obtain ⟨r13, hu_⟩ : ∃ z, z = u := ⟨_, rfl⟩
      subst hu_
      try dsimp only at hw
      show G X E 4 [ob 9 q_t [.ref q_t_signs, .ref q_t_laps, .ref q_t_breaks, .ref q_t_fraction, .ref q_t_settings, .ref q_t_rates, .ref q_t_joints, .ref q_t_tested, .ref q_t_knocks, .ref q_t_choices], aO E.O q_t_laps 6 t_laps, ob 0 q_t_breaks [.ref q_t_breaks_pulled, .ref q_t_breaks_moreWear, .long t_breaks_backUpper, .long t_breaks_backLower], ob 6 q_t_breaks_pulled [.ref q_t_breaks_pulled_slip, .ref q_t_breaks_pulled_shear, .ref q_t_breaks_pulled_ahead, .long t_breaks_pulled_lower_5, .long t_breaks_pulled_way_7, .long t_breaks_pulled_firstSlip_6], ob 5 q_LAP [.ref q_LAP_glue, .ref q_LAP_upper, .ref q_LAP_under, .ref q_LAP_work, .ref q_LAP_wear, .ref q_LAP_cells, .int LAP_spots, .int LAP_cure], aI E.I q_LAP_glue 5 LAP_glue, aI E.I q_LAP_upper 5 LAP_upper, aI E.I q_LAP_under 5 LAP_under, aJ E.J q_t_breaks_pulled_slip 5 t_breaks_pulled_slip_8, aJ E.J q_t_breaks_pulled_shear 5 t_breaks_pulled_shear_9, aJ E.J q_t_breaks_pulled_ahead 5 t_breaks_pulled_ahead_10, ob 2 q_t_fraction [.long t_fraction_upper_11, .long t_fraction_lower_12]] 0 0 56 [(3, .ref q_LAP), (0, .ref q_t), (1, .int p0), (2, .int p1)] [.long r13]
      exact g_lret C0 R1 dX9_give_56 (r13, t_breaks_pulled_lower_5, t_breaks_pulled_firstSlip_6, t_breaks_pulled_way_7, t_breaks_pulled_slip_8, t_breaks_pulled_shear_9, t_breaks_pulled_ahead_10, t_fraction_upper_11, t_fraction_lower_12) rfl hw [0, 1, 4, 5, 2, 3, 6, 7, 8, 9, 10, 11] (by decide) rfl (by decide) (by decide)
    · replace hw := hw.2 c4
      refine g_ldc2 C0 (v := (-1000000000000000003)) dX9_give_32 (List.mem_of_getElem? (i := 3) rfl) ?_
      exact g_lret C0 R1 dX9_give_35 ((-1000000000000000003), t_breaks_pulled_lower, t_breaks_pulled_firstSlip, t_breaks_pulled_way, t_breaks_pulled_slip, t_breaks_pulled_shear, t_breaks_pulled_ahead, t_fraction_upper, t_fraction_lower) rfl hw [8, 9, 10, 11, 0, 1, 2, 3, 4, 5, 6, 7] (by decide) rfl (by decide) (by decide)
  · replace hw := hw.2 c2
    refine g_ldc2 C0 (v := (-1000000000000000002)) dX9_give_21 (List.mem_of_getElem? (i := 2) rfl) ?_
    exact g_lret C0 R1 dX9_give_24 ((-1000000000000000002), t_breaks_pulled_lower, t_breaks_pulled_firstSlip, t_breaks_pulled_way, t_breaks_pulled_slip, t_breaks_pulled_shear, t_breaks_pulled_ahead, t_fraction_upper, t_fraction_lower) rfl hw [10, 11, 0, 1, 2, 3, 4, 5, 6, 7, 8, 9] (by decide) rfl (by decide) (by decide)
def w_X9_give_N (p0 : Int32) (p1 : Int32) (t_laps : Nat → Option Nat) (Q : Int64 → Prop) : Prop := w_X9_lapAt_N p0 t_laps (Q (-1000000000000000001))
set_option maxHeartbeats 4000000 in
set_option maxRecDepth 100000 in
theorem c_X9_give_N (l : Launch) (E : gE) (q_t q_t_signs q_t_laps q_t_breaks q_t_fraction q_t_settings q_t_rates q_t_joints q_t_tested q_t_knocks q_t_choices : Nat) (p0 : Int32) (p1 : Int32) (t_laps : Nat → Option Nat) (Q : Int64 → Prop) (hw : w_X9_give_N p0 p1 t_laps Q) : Ct l E yX9_give wsX9_give { frames := 2, cells := 0, slots := 0, locals := 43 } [.ref q_t, .int p0, .int p1] [ob 9 q_t [.ref q_t_signs, .ref q_t_laps, .ref q_t_breaks, .ref q_t_fraction, .ref q_t_settings, .ref q_t_rates, .ref q_t_joints, .ref q_t_tested, .ref q_t_knocks, .ref q_t_choices], aO E.O q_t_laps 6 t_laps] (S := Int64) (fun u => some (.long u)) (fun u => Q u) (fun u => [ob 9 q_t [.ref q_t_signs, .ref q_t_laps, .ref q_t_breaks, .ref q_t_fraction, .ref q_t_settings, .ref q_t_rates, .ref q_t_joints, .ref q_t_tested, .ref q_t_knocks, .ref q_t_choices], aO E.O q_t_laps 6 t_laps]) := by
  unfold w_X9_give_N at hw
  refine g_start (cc := cX9_give) (nL := 4) (own := RX9) (ret := (some .long)) rfl (by decide) rfl (Nat.le_of_ble_eq_true rfl) (lv0 := [(0, .ref q_t), (1, .int p0), (2, .int p1)]) rfl (fun X C0 R1 => ?_)
  refine g_aload_n C0 dX9_give_0 0 rfl ?_
  refine g_iload_n C0 dX9_give_1 1 rfl ?_
  refine g_callV C0 (q0 := 0) (ci := 9) (c_X9_lapAt_N l E q_t q_t_signs q_t_laps q_t_breaks q_t_fraction q_t_settings q_t_rates q_t_joints q_t_tested q_t_knocks q_t_choices p0 t_laps _ hw) dX9_give_2 gX9_give_X9_lapAt rfl ddV_X9_lapAt rfl (by decide) (by decide) rfl (Nat.le_of_ble_eq_true rfl) [0, 1] [] rfl (wr := []) rfl (by decide) (by decide) (by decide) rfl rfl (fun u hw => ?_)
  try dsimp only at hw
  show G X E 4 [ob 9 q_t [.ref q_t_signs, .ref q_t_laps, .ref q_t_breaks, .ref q_t_fraction, .ref q_t_settings, .ref q_t_rates, .ref q_t_joints, .ref q_t_tested, .ref q_t_knocks, .ref q_t_choices], aO E.O q_t_laps 6 t_laps] 0 0 5 [(0, .ref q_t), (1, .int p0), (2, .int p1)] [.null]
  refine g_astore_nN C0 (lv2 := [(3, .null), (0, .ref q_t), (1, .int p0), (2, .int p1)]) dX9_give_5 (by decide) rfl ?_
  refine g_aload_nN C0 dX9_give_6 0 rfl ?_
  refine g_ifnonnullN C0 dX9_give_7 ?_
  refine g_ldc2 C0 (v := (-1000000000000000001)) dX9_give_10 (List.mem_of_getElem? (i := 1) rfl) ?_
  exact g_lret C0 R1 dX9_give_13 (-1000000000000000001) rfl hw [0, 1] (by decide) rfl (by decide) (by decide)
def w_X9_hardest_S (q_LAP : Nat) (p0 : Int32) (t_laps : Nat → Option Nat) (LAP_glue : Nat → Int32) (t_breaks_pulled_lower : Int64) (t_breaks_pulled_way : Int64) (t_breaks_pulled_firstSlip : Int64) (LAP_upper : Nat → Int32) (LAP_under : Nat → Int32) (t_breaks_pulled_slip : Nat → Int64) (t_breaks_pulled_shear : Nat → Int64) (t_breaks_pulled_ahead : Nat → Int64) (Q : Int32 → Int64 → Int64 → Int64 → (Nat → Int64) → (Nat → Int64) → (Nat → Int64) → Prop) : Prop := w_X9_lapAt_S q_LAP p0 t_laps (w_X5_isLoose LAP_glue (fun (r1 : Bool) => (r1 = false → w_X0_hardestSpot t_breaks_pulled_way LAP_glue LAP_upper LAP_under t_breaks_pulled_slip t_breaks_pulled_shear t_breaks_pulled_ahead (fun (r3 : Int32) (t_breaks_pulled_lower_4 : Int64) (t_breaks_pulled_firstSlip_5 : Int64) (t_breaks_pulled_way_6 : Int64) (t_breaks_pulled_slip_7 : Nat → Int64) (t_breaks_pulled_shear_8 : Nat → Int64) (t_breaks_pulled_ahead_9 : Nat → Int64) => Q r3 t_breaks_pulled_lower_4 t_breaks_pulled_firstSlip_5 t_breaks_pulled_way_6 t_breaks_pulled_slip_7 t_breaks_pulled_shear_8 t_breaks_pulled_ahead_9)) ∧ (r1 = true → Q (-3) t_breaks_pulled_lower t_breaks_pulled_firstSlip t_breaks_pulled_way t_breaks_pulled_slip t_breaks_pulled_shear t_breaks_pulled_ahead)))
theorem ddV_X9_hardest : yX9_hardest.cls = RX9 ∧ yX9_hardest.cls ≠ "java/lang/invoke/MethodHandle" ∧ yX9_hardest.cls ≠ "java/lang/invoke/VarHandle" ∧ (parseMethodDescriptor yX9_hardest.desc).map (fun d => d.parameters.length) = some 1 := by decide +kernel
set_option maxHeartbeats 4000000 in
set_option maxRecDepth 100000 in
theorem c_X9_hardest_S (l : Launch) (E : gE) (q_t q_LAP q_t_signs q_t_laps q_t_breaks q_t_fraction q_t_settings q_t_rates q_t_joints q_t_tested q_t_knocks q_t_choices q_LAP_glue q_LAP_upper q_LAP_under q_LAP_work q_LAP_wear q_LAP_cells q_t_breaks_pulled q_t_breaks_moreWear q_t_breaks_pulled_slip q_t_breaks_pulled_shear q_t_breaks_pulled_ahead : Nat) (p0 : Int32) (t_laps : Nat → Option Nat) (LAP_spots : Int32) (LAP_cure : Int32) (LAP_glue : Nat → Int32) (t_breaks_backUpper : Int64) (t_breaks_backLower : Int64) (t_breaks_pulled_lower : Int64) (t_breaks_pulled_way : Int64) (t_breaks_pulled_firstSlip : Int64) (LAP_upper : Nat → Int32) (LAP_under : Nat → Int32) (t_breaks_pulled_slip : Nat → Int64) (t_breaks_pulled_shear : Nat → Int64) (t_breaks_pulled_ahead : Nat → Int64) (Q : Int32 → Int64 → Int64 → Int64 → (Nat → Int64) → (Nat → Int64) → (Nat → Int64) → Prop) (hw : w_X9_hardest_S q_LAP p0 t_laps LAP_glue t_breaks_pulled_lower t_breaks_pulled_way t_breaks_pulled_firstSlip LAP_upper LAP_under t_breaks_pulled_slip t_breaks_pulled_shear t_breaks_pulled_ahead Q) : Ct l E yX9_hardest wsX9_hardest { frames := 3, cells := 0, slots := 0, locals := 84 } [.ref q_t, .int p0] [ob 9 q_t [.ref q_t_signs, .ref q_t_laps, .ref q_t_breaks, .ref q_t_fraction, .ref q_t_settings, .ref q_t_rates, .ref q_t_joints, .ref q_t_tested, .ref q_t_knocks, .ref q_t_choices], aO E.O q_t_laps 6 t_laps, ob 5 q_LAP [.ref q_LAP_glue, .ref q_LAP_upper, .ref q_LAP_under, .ref q_LAP_work, .ref q_LAP_wear, .ref q_LAP_cells, .int LAP_spots, .int LAP_cure], aI E.I q_LAP_glue 5 LAP_glue, ob 0 q_t_breaks [.ref q_t_breaks_pulled, .ref q_t_breaks_moreWear, .long t_breaks_backUpper, .long t_breaks_backLower], ob 6 q_t_breaks_pulled [.ref q_t_breaks_pulled_slip, .ref q_t_breaks_pulled_shear, .ref q_t_breaks_pulled_ahead, .long t_breaks_pulled_lower, .long t_breaks_pulled_way, .long t_breaks_pulled_firstSlip], aI E.I q_LAP_upper 5 LAP_upper, aI E.I q_LAP_under 5 LAP_under, aJ E.J q_t_breaks_pulled_slip 5 t_breaks_pulled_slip, aJ E.J q_t_breaks_pulled_shear 5 t_breaks_pulled_shear, aJ E.J q_t_breaks_pulled_ahead 5 t_breaks_pulled_ahead] (S := Int32 × Int64 × Int64 × Int64 × (Nat → Int64) × (Nat → Int64) × (Nat → Int64)) (fun u => some (.int u.1)) (fun u => Q u.1 u.2.1 u.2.2.1 u.2.2.2.1 u.2.2.2.2.1 u.2.2.2.2.2.1 u.2.2.2.2.2.2) (fun u => [ob 9 q_t [.ref q_t_signs, .ref q_t_laps, .ref q_t_breaks, .ref q_t_fraction, .ref q_t_settings, .ref q_t_rates, .ref q_t_joints, .ref q_t_tested, .ref q_t_knocks, .ref q_t_choices], aO E.O q_t_laps 6 t_laps, ob 5 q_LAP [.ref q_LAP_glue, .ref q_LAP_upper, .ref q_LAP_under, .ref q_LAP_work, .ref q_LAP_wear, .ref q_LAP_cells, .int LAP_spots, .int LAP_cure], aI E.I q_LAP_glue 5 LAP_glue, ob 0 q_t_breaks [.ref q_t_breaks_pulled, .ref q_t_breaks_moreWear, .long t_breaks_backUpper, .long t_breaks_backLower], ob 6 q_t_breaks_pulled [.ref q_t_breaks_pulled_slip, .ref q_t_breaks_pulled_shear, .ref q_t_breaks_pulled_ahead, .long u.2.1, .long u.2.2.2.1, .long u.2.2.1], aI E.I q_LAP_upper 5 LAP_upper, aI E.I q_LAP_under 5 LAP_under, aJ E.J q_t_breaks_pulled_slip 5 u.2.2.2.2.1, aJ E.J q_t_breaks_pulled_shear 5 u.2.2.2.2.2.1, aJ E.J q_t_breaks_pulled_ahead 5 u.2.2.2.2.2.2]) := by
  unfold w_X9_hardest_S at hw
  have hinX9 : ∀ w ∈ wsX90, w ∈ wsX9_hardest := fun _ h => List.mem_cons_of_mem _ (List.mem_append_left _ (List.mem_append_left _ (List.mem_append_left _ (List.mem_append_right _ h))))
  refine g_start (cc := cX9_hardest) (nL := 3) (own := RX9) (ret := (some .int)) rfl (by decide) rfl (Nat.le_of_ble_eq_true rfl) (lv0 := [(0, .ref q_t), (1, .int p0)]) rfl (fun X C0 R1 => ?_)
  refine g_aload_n C0 dX9_hardest_0 0 rfl ?_
  refine g_iload_n C0 dX9_hardest_1 1 rfl ?_
  refine g_callV C0 (q0 := 0) (ci := 9) (c_X9_lapAt_S l E q_t q_LAP q_t_signs q_t_laps q_t_breaks q_t_fraction q_t_settings q_t_rates q_t_joints q_t_tested q_t_knocks q_t_choices p0 t_laps _ hw) dX9_hardest_2 gX9_hardest_X9_lapAt rfl ddV_X9_lapAt rfl (by decide) (by decide) rfl (Nat.le_of_ble_eq_true rfl) [0, 1] [2, 3, 4, 5, 6, 7, 8, 9, 10] rfl (wr := [ob 5 q_LAP [.ref q_LAP_glue, .ref q_LAP_upper, .ref q_LAP_under, .ref q_LAP_work, .ref q_LAP_wear, .ref q_LAP_cells, .int LAP_spots, .int LAP_cure], aI E.I q_LAP_glue 5 LAP_glue, ob 0 q_t_breaks [.ref q_t_breaks_pulled, .ref q_t_breaks_moreWear, .long t_breaks_backUpper, .long t_breaks_backLower], ob 6 q_t_breaks_pulled [.ref q_t_breaks_pulled_slip, .ref q_t_breaks_pulled_shear, .ref q_t_breaks_pulled_ahead, .long t_breaks_pulled_lower, .long t_breaks_pulled_way, .long t_breaks_pulled_firstSlip], aI E.I q_LAP_upper 5 LAP_upper, aI E.I q_LAP_under 5 LAP_under, aJ E.J q_t_breaks_pulled_slip 5 t_breaks_pulled_slip, aJ E.J q_t_breaks_pulled_shear 5 t_breaks_pulled_shear, aJ E.J q_t_breaks_pulled_ahead 5 t_breaks_pulled_ahead]) rfl (by decide) (by decide) (by decide) rfl rfl (fun u hw => ?_)
  try dsimp only at hw
  show G X E 3 [ob 5 q_LAP [.ref q_LAP_glue, .ref q_LAP_upper, .ref q_LAP_under, .ref q_LAP_work, .ref q_LAP_wear, .ref q_LAP_cells, .int LAP_spots, .int LAP_cure], aI E.I q_LAP_glue 5 LAP_glue, ob 0 q_t_breaks [.ref q_t_breaks_pulled, .ref q_t_breaks_moreWear, .long t_breaks_backUpper, .long t_breaks_backLower], ob 6 q_t_breaks_pulled [.ref q_t_breaks_pulled_slip, .ref q_t_breaks_pulled_shear, .ref q_t_breaks_pulled_ahead, .long t_breaks_pulled_lower, .long t_breaks_pulled_way, .long t_breaks_pulled_firstSlip], aI E.I q_LAP_upper 5 LAP_upper, aI E.I q_LAP_under 5 LAP_under, aJ E.J q_t_breaks_pulled_slip 5 t_breaks_pulled_slip, aJ E.J q_t_breaks_pulled_shear 5 t_breaks_pulled_shear, aJ E.J q_t_breaks_pulled_ahead 5 t_breaks_pulled_ahead, ob 9 q_t [.ref q_t_signs, .ref q_t_laps, .ref q_t_breaks, .ref q_t_fraction, .ref q_t_settings, .ref q_t_rates, .ref q_t_joints, .ref q_t_tested, .ref q_t_knocks, .ref q_t_choices], aO E.O q_t_laps 6 t_laps] 0 0 5 [(0, .ref q_t), (1, .int p0)] [.ref q_LAP]
  refine g_astore_n C0 (lv2 := [(2, .ref q_LAP), (0, .ref q_t), (1, .int p0)]) dX9_hardest_5 (by decide) rfl ?_
  refine g_aload_n C0 dX9_hardest_6 0 rfl ?_
  refine g_ifnonnull C0 (tgt := 12) dX9_hardest_7 (by decide) ?_
  refine g_aload_n C0 dX9_hardest_12 0 rfl ?_
  refine g_callV C0 (q0 := 0) (ci := 5) (c_X5_isLoose l E q_LAP q_LAP_glue q_LAP_upper q_LAP_under q_LAP_work q_LAP_wear q_LAP_cells LAP_spots LAP_cure LAP_glue _ hw) dX9_hardest_13 gX9_hardest_X5_isLoose rfl ddV_X5_isLoose rfl (by decide) (by decide) rfl (Nat.le_of_ble_eq_true rfl) [0, 1] [2, 3, 4, 5, 6, 7, 8, 9, 10] rfl (wr := [ob 0 q_t_breaks [.ref q_t_breaks_pulled, .ref q_t_breaks_moreWear, .long t_breaks_backUpper, .long t_breaks_backLower], ob 6 q_t_breaks_pulled [.ref q_t_breaks_pulled_slip, .ref q_t_breaks_pulled_shear, .ref q_t_breaks_pulled_ahead, .long t_breaks_pulled_lower, .long t_breaks_pulled_way, .long t_breaks_pulled_firstSlip], aI E.I q_LAP_upper 5 LAP_upper, aI E.I q_LAP_under 5 LAP_under, aJ E.J q_t_breaks_pulled_slip 5 t_breaks_pulled_slip, aJ E.J q_t_breaks_pulled_shear 5 t_breaks_pulled_shear, aJ E.J q_t_breaks_pulled_ahead 5 t_breaks_pulled_ahead, ob 9 q_t [.ref q_t_signs, .ref q_t_laps, .ref q_t_breaks, .ref q_t_fraction, .ref q_t_settings, .ref q_t_rates, .ref q_t_joints, .ref q_t_tested, .ref q_t_knocks, .ref q_t_choices], aO E.O q_t_laps 6 t_laps]) rfl (by decide) (by decide) (by decide) rfl rfl (fun u hw => ?_)
  obtain ⟨r1, hu_⟩ : ∃ z, z = u := ⟨_, rfl⟩
  subst hu_
  try dsimp only at hw
  show G X E 3 [ob 0 q_t_breaks [.ref q_t_breaks_pulled, .ref q_t_breaks_moreWear, .long t_breaks_backUpper, .long t_breaks_backLower], ob 6 q_t_breaks_pulled [.ref q_t_breaks_pulled_slip, .ref q_t_breaks_pulled_shear, .ref q_t_breaks_pulled_ahead, .long t_breaks_pulled_lower, .long t_breaks_pulled_way, .long t_breaks_pulled_firstSlip], aI E.I q_LAP_upper 5 LAP_upper, aI E.I q_LAP_under 5 LAP_under, aJ E.J q_t_breaks_pulled_slip 5 t_breaks_pulled_slip, aJ E.J q_t_breaks_pulled_shear 5 t_breaks_pulled_shear, aJ E.J q_t_breaks_pulled_ahead 5 t_breaks_pulled_ahead, ob 9 q_t [.ref q_t_signs, .ref q_t_laps, .ref q_t_breaks, .ref q_t_fraction, .ref q_t_settings, .ref q_t_rates, .ref q_t_joints, .ref q_t_tested, .ref q_t_knocks, .ref q_t_choices], aO E.O q_t_laps 6 t_laps, ob 5 q_LAP [.ref q_LAP_glue, .ref q_LAP_upper, .ref q_LAP_under, .ref q_LAP_work, .ref q_LAP_wear, .ref q_LAP_cells, .int LAP_spots, .int LAP_cure], aI E.I q_LAP_glue 5 LAP_glue] 0 0 16 [(2, .ref q_LAP), (0, .ref q_t), (1, .int p0)] [.int (bI r1)]
  refine g_ifb_eq C0 (tgt := 24) dX9_hardest_16 (by decide) (fun c2 => ?_) (fun c2 => ?_)
  · replace hw := hw.1 c2
    refine g_aload_n C0 dX9_hardest_24 1 rfl ?_
    refine g_get C0 dX9_hardest_25 7 rfl 2 rfl rfl hinX9 (by decide) (List.mem_of_getElem? (i := 1) rfl) rfl ?_
    refine g_aload_n C0 dX9_hardest_28 0 rfl ?_
    refine g_callV C0 (q0 := 0) (ci := 0) (c_X0_hardestSpot l E q_t_breaks q_LAP q_t_breaks_pulled q_t_breaks_moreWear q_t_breaks_pulled_slip q_t_breaks_pulled_shear q_t_breaks_pulled_ahead q_LAP_glue q_LAP_upper q_LAP_under q_LAP_work q_LAP_wear q_LAP_cells t_breaks_backUpper t_breaks_backLower t_breaks_pulled_lower t_breaks_pulled_way t_breaks_pulled_firstSlip LAP_spots LAP_cure LAP_glue LAP_upper LAP_under t_breaks_pulled_slip t_breaks_pulled_shear t_breaks_pulled_ahead _ hw) dX9_hardest_29 gX9_hardest_X0_hardestSpot rfl ddV_X0_hardestSpot rfl (by decide) (by decide) rfl (Nat.le_of_ble_eq_true rfl) [0, 1, 9, 10, 2, 3, 4, 5, 6] [7, 8] rfl (wr := [ob 9 q_t [.ref q_t_signs, .ref q_t_laps, .ref q_t_breaks, .ref q_t_fraction, .ref q_t_settings, .ref q_t_rates, .ref q_t_joints, .ref q_t_tested, .ref q_t_knocks, .ref q_t_choices], aO E.O q_t_laps 6 t_laps]) rfl (by decide) (by decide) (by decide) rfl rfl (fun u hw => ?_)
    obtain ⟨r3, t_breaks_pulled_lower_4, t_breaks_pulled_firstSlip_5, t_breaks_pulled_way_6, t_breaks_pulled_slip_7, t_breaks_pulled_shear_8, t_breaks_pulled_ahead_9⟩ := u
    try dsimp only at hw
    show G X E 3 [ob 9 q_t [.ref q_t_signs, .ref q_t_laps, .ref q_t_breaks, .ref q_t_fraction, .ref q_t_settings, .ref q_t_rates, .ref q_t_joints, .ref q_t_tested, .ref q_t_knocks, .ref q_t_choices], aO E.O q_t_laps 6 t_laps, ob 0 q_t_breaks [.ref q_t_breaks_pulled, .ref q_t_breaks_moreWear, .long t_breaks_backUpper, .long t_breaks_backLower], ob 6 q_t_breaks_pulled [.ref q_t_breaks_pulled_slip, .ref q_t_breaks_pulled_shear, .ref q_t_breaks_pulled_ahead, .long t_breaks_pulled_lower_4, .long t_breaks_pulled_way_6, .long t_breaks_pulled_firstSlip_5], ob 5 q_LAP [.ref q_LAP_glue, .ref q_LAP_upper, .ref q_LAP_under, .ref q_LAP_work, .ref q_LAP_wear, .ref q_LAP_cells, .int LAP_spots, .int LAP_cure], aI E.I q_LAP_glue 5 LAP_glue, aI E.I q_LAP_upper 5 LAP_upper, aI E.I q_LAP_under 5 LAP_under, aJ E.J q_t_breaks_pulled_slip 5 t_breaks_pulled_slip_7, aJ E.J q_t_breaks_pulled_shear 5 t_breaks_pulled_shear_8, aJ E.J q_t_breaks_pulled_ahead 5 t_breaks_pulled_ahead_9] 0 0 32 [(2, .ref q_LAP), (0, .ref q_t), (1, .int p0)] [.int r3]
    exact g_iret C0 R1 dX9_hardest_32 (r3, t_breaks_pulled_lower_4, t_breaks_pulled_firstSlip_5, t_breaks_pulled_way_6, t_breaks_pulled_slip_7, t_breaks_pulled_shear_8, t_breaks_pulled_ahead_9) rfl hw [0, 1, 4, 5, 2, 3, 6, 7, 8, 9, 10] (by decide) rfl (by decide) (by decide)
  · replace hw := hw.2 c2
    refine g_bipush C0 (v := (-3)) dX9_hardest_19 (by decide) ?_
    refine g_goto C0 (tgt := 32) dX9_hardest_21 (by decide) ?_
    exact g_iret C0 R1 dX9_hardest_32 ((-3), t_breaks_pulled_lower, t_breaks_pulled_firstSlip, t_breaks_pulled_way, t_breaks_pulled_slip, t_breaks_pulled_shear, t_breaks_pulled_ahead) rfl hw [7, 8, 9, 10, 0, 1, 2, 3, 4, 5, 6] (by decide) rfl (by decide) (by decide)
def w_X9_hardest_N (p0 : Int32) (t_laps : Nat → Option Nat) (Q : Int32 → Prop) : Prop := w_X9_lapAt_N p0 t_laps (Q (-1))
set_option maxHeartbeats 4000000 in
set_option maxRecDepth 100000 in
theorem c_X9_hardest_N (l : Launch) (E : gE) (q_t q_t_signs q_t_laps q_t_breaks q_t_fraction q_t_settings q_t_rates q_t_joints q_t_tested q_t_knocks q_t_choices : Nat) (p0 : Int32) (t_laps : Nat → Option Nat) (Q : Int32 → Prop) (hw : w_X9_hardest_N p0 t_laps Q) : Ct l E yX9_hardest wsX9_hardest { frames := 2, cells := 0, slots := 0, locals := 43 } [.ref q_t, .int p0] [ob 9 q_t [.ref q_t_signs, .ref q_t_laps, .ref q_t_breaks, .ref q_t_fraction, .ref q_t_settings, .ref q_t_rates, .ref q_t_joints, .ref q_t_tested, .ref q_t_knocks, .ref q_t_choices], aO E.O q_t_laps 6 t_laps] (S := Int32) (fun u => some (.int u)) (fun u => Q u) (fun u => [ob 9 q_t [.ref q_t_signs, .ref q_t_laps, .ref q_t_breaks, .ref q_t_fraction, .ref q_t_settings, .ref q_t_rates, .ref q_t_joints, .ref q_t_tested, .ref q_t_knocks, .ref q_t_choices], aO E.O q_t_laps 6 t_laps]) := by
  unfold w_X9_hardest_N at hw
  refine g_start (cc := cX9_hardest) (nL := 3) (own := RX9) (ret := (some .int)) rfl (by decide) rfl (Nat.le_of_ble_eq_true rfl) (lv0 := [(0, .ref q_t), (1, .int p0)]) rfl (fun X C0 R1 => ?_)
  refine g_aload_n C0 dX9_hardest_0 0 rfl ?_
  refine g_iload_n C0 dX9_hardest_1 1 rfl ?_
  refine g_callV C0 (q0 := 0) (ci := 9) (c_X9_lapAt_N l E q_t q_t_signs q_t_laps q_t_breaks q_t_fraction q_t_settings q_t_rates q_t_joints q_t_tested q_t_knocks q_t_choices p0 t_laps _ hw) dX9_hardest_2 gX9_hardest_X9_lapAt rfl ddV_X9_lapAt rfl (by decide) (by decide) rfl (Nat.le_of_ble_eq_true rfl) [0, 1] [] rfl (wr := []) rfl (by decide) (by decide) (by decide) rfl rfl (fun u hw => ?_)
  try dsimp only at hw
  show G X E 3 [ob 9 q_t [.ref q_t_signs, .ref q_t_laps, .ref q_t_breaks, .ref q_t_fraction, .ref q_t_settings, .ref q_t_rates, .ref q_t_joints, .ref q_t_tested, .ref q_t_knocks, .ref q_t_choices], aO E.O q_t_laps 6 t_laps] 0 0 5 [(0, .ref q_t), (1, .int p0)] [.null]
  refine g_astore_nN C0 (lv2 := [(2, .null), (0, .ref q_t), (1, .int p0)]) dX9_hardest_5 (by decide) rfl ?_
  refine g_aload_nN C0 dX9_hardest_6 0 rfl ?_
  refine g_ifnonnullN C0 dX9_hardest_7 ?_
  refine g_iconst C0 (v := (-1)) dX9_hardest_10 (by decide) ?_
  exact g_iret C0 R1 dX9_hardest_11 (-1) rfl hw [0, 1] (by decide) rfl (by decide) (by decide)
def w_X9_isPull (p0 : Int32) (Q : Bool → Prop) : Prop := w_X9_within p0 1 100 (fun (r1 : Bool) => Q r1)
theorem ddS_X9_isPull : yX9_isPull.cls ≠ "java/lang/invoke/MethodHandle" ∧ yX9_isPull.cls ≠ "java/lang/invoke/VarHandle" ∧ (parseMethodDescriptor yX9_isPull.desc).map (fun d => d.parameters.length) = some 1 := by decide +kernel
set_option maxHeartbeats 4000000 in
set_option maxRecDepth 100000 in
theorem c_X9_isPull (l : Launch) (E : gE) (p0 : Int32) (Q : Bool → Prop) (hw : w_X9_isPull p0 Q) : Ct l E yX9_isPull wsX9_isPull { frames := 1, cells := 0, slots := 0, locals := 22 } [.int p0] [] (S := Bool) (fun u => some (.int (bI u))) (fun u => Q u) (fun u => []) := by
  unfold w_X9_isPull at hw
  refine g_start (cc := cX9_isPull) (nL := 1) (own := RX9) (ret := (some .boolean)) rfl (by decide) rfl (Nat.le_of_ble_eq_true rfl) (lv0 := [(0, .int p0)]) rfl (fun X C0 R1 => ?_)
  refine g_iload_n C0 dX9_isPull_0 0 rfl ?_
  refine g_iconst C0 (v := 1) dX9_isPull_1 (by decide) ?_
  refine g_bipush C0 (v := 100) dX9_isPull_2 (by decide) ?_
  refine g_callS C0 (c_X9_within l E p0 1 100 _ hw) dX9_isPull_4 gX9_isPull_X9_within rfl ddS_X9_within rfl (by decide) (by decide) rfl (Nat.le_of_ble_eq_true rfl) [] [] rfl (wr := []) rfl (by decide) (by decide) (by decide) (fun u hw => ?_)
  obtain ⟨r1, hu_⟩ : ∃ z, z = u := ⟨_, rfl⟩
  subst hu_
  try dsimp only at hw
  show G X E 1 [] 0 0 7 [(0, .int p0)] [.int (bI r1)]
  exact g_zret C0 R1 (b := r1) dX9_isPull_7 r1 rfl hw [] (by decide) rfl (by decide) (by decide)
def w_X9_back_S (q_LAP : Nat) (p0 : Int32) (p1 : Int32) (p2 : Int32) (p3 : Int32) (t_laps : Nat → Option Nat) (LAP_spots : Int32) (LAP_glue : Nat → Int32) (t_breaks_backUpper : Int64) (t_breaks_backLower : Int64) (t_breaks_pulled_lower : Int64) (t_breaks_pulled_way : Int64) (t_breaks_pulled_firstSlip : Int64) (LAP_upper : Nat → Int32) (LAP_under : Nat → Int32) (t_breaks_pulled_slip : Nat → Int64) (t_breaks_pulled_shear : Nat → Int64) (t_breaks_pulled_ahead : Nat → Int64) (t_fraction_upper : Int64) (t_fraction_lower : Int64) (Q : Int64 → Int64 → Int64 → Int64 → (Nat → Int64) → (Nat → Int64) → (Nat → Int64) → Int64 → Int64 → Int64 → Int64 → Prop) : Prop := w_X9_lapAt_S q_LAP p0 t_laps (w_X5_hasSpot p1 LAP_spots (fun (r1 : Bool) => (r1 = true → w_X9_isPull p2 (fun (r3 : Bool) => (r3 = false → Q (-1000000000000000002) t_breaks_pulled_lower t_breaks_pulled_firstSlip t_breaks_pulled_way t_breaks_pulled_slip t_breaks_pulled_shear t_breaks_pulled_ahead t_breaks_backUpper t_breaks_backLower t_fraction_upper t_fraction_lower) ∧ (r3 = true → w_X9_isPart p3 (fun (r5 : Bool) => (r5 = true → vp_in p1 5 ∧ ((¬ (LAP_glue (Int32.toNatClampNeg p1)) = 0 → w_X0_tellBack p1 p2 t_breaks_pulled_way LAP_glue LAP_upper LAP_under t_breaks_pulled_slip t_breaks_pulled_shear t_breaks_pulled_ahead t_fraction_upper t_fraction_lower (fun (t_breaks_pulled_lower_9 : Int64) (t_breaks_pulled_firstSlip_10 : Int64) (t_breaks_pulled_way_11 : Int64) (t_breaks_pulled_slip_12 : Nat → Int64) (t_breaks_pulled_shear_13 : Nat → Int64) (t_breaks_pulled_ahead_14 : Nat → Int64) (t_breaks_backUpper_15 : Int64) (t_breaks_backLower_16 : Int64) (t_fraction_upper_17 : Int64) (t_fraction_lower_18 : Int64) => w_X2_number p3 t_fraction_upper_17 t_fraction_lower_18 (fun (r19 : Int64) => Q r19 t_breaks_pulled_lower_9 t_breaks_pulled_firstSlip_10 t_breaks_pulled_way_11 t_breaks_pulled_slip_12 t_breaks_pulled_shear_13 t_breaks_pulled_ahead_14 t_breaks_backUpper_15 t_breaks_backLower_16 t_fraction_upper_17 t_fraction_lower_18))) ∧ ((LAP_glue (Int32.toNatClampNeg p1)) = 0 → Q (-1000000000000000003) t_breaks_pulled_lower t_breaks_pulled_firstSlip t_breaks_pulled_way t_breaks_pulled_slip t_breaks_pulled_shear t_breaks_pulled_ahead t_breaks_backUpper t_breaks_backLower t_fraction_upper t_fraction_lower))) ∧ (r5 = false → Q (-1000000000000000002) t_breaks_pulled_lower t_breaks_pulled_firstSlip t_breaks_pulled_way t_breaks_pulled_slip t_breaks_pulled_shear t_breaks_pulled_ahead t_breaks_backUpper t_breaks_backLower t_fraction_upper t_fraction_lower))))) ∧ (r1 = false → Q (-1000000000000000001) t_breaks_pulled_lower t_breaks_pulled_firstSlip t_breaks_pulled_way t_breaks_pulled_slip t_breaks_pulled_shear t_breaks_pulled_ahead t_breaks_backUpper t_breaks_backLower t_fraction_upper t_fraction_lower)))
theorem ddV_X9_back : yX9_back.cls = RX9 ∧ yX9_back.cls ≠ "java/lang/invoke/MethodHandle" ∧ yX9_back.cls ≠ "java/lang/invoke/VarHandle" ∧ (parseMethodDescriptor yX9_back.desc).map (fun d => d.parameters.length) = some 4 := by decide +kernel
set_option maxHeartbeats 4000000 in
set_option maxRecDepth 100000 in
theorem c_X9_back_S (l : Launch) (E : gE) (q_t q_LAP q_t_signs q_t_laps q_t_breaks q_t_fraction q_t_settings q_t_rates q_t_joints q_t_tested q_t_knocks q_t_choices q_LAP_glue q_LAP_upper q_LAP_under q_LAP_work q_LAP_wear q_LAP_cells q_t_breaks_pulled q_t_breaks_moreWear q_t_breaks_pulled_slip q_t_breaks_pulled_shear q_t_breaks_pulled_ahead : Nat) (p0 : Int32) (p1 : Int32) (p2 : Int32) (p3 : Int32) (t_laps : Nat → Option Nat) (LAP_spots : Int32) (LAP_cure : Int32) (LAP_glue : Nat → Int32) (t_breaks_backUpper : Int64) (t_breaks_backLower : Int64) (t_breaks_pulled_lower : Int64) (t_breaks_pulled_way : Int64) (t_breaks_pulled_firstSlip : Int64) (LAP_upper : Nat → Int32) (LAP_under : Nat → Int32) (t_breaks_pulled_slip : Nat → Int64) (t_breaks_pulled_shear : Nat → Int64) (t_breaks_pulled_ahead : Nat → Int64) (t_fraction_upper : Int64) (t_fraction_lower : Int64) (Q : Int64 → Int64 → Int64 → Int64 → (Nat → Int64) → (Nat → Int64) → (Nat → Int64) → Int64 → Int64 → Int64 → Int64 → Prop) (hw : w_X9_back_S q_LAP p0 p1 p2 p3 t_laps LAP_spots LAP_glue t_breaks_backUpper t_breaks_backLower t_breaks_pulled_lower t_breaks_pulled_way t_breaks_pulled_firstSlip LAP_upper LAP_under t_breaks_pulled_slip t_breaks_pulled_shear t_breaks_pulled_ahead t_fraction_upper t_fraction_lower Q) : Ct l E yX9_back wsX9_back { frames := 4, cells := 0, slots := 0, locals := 107 } [.ref q_t, .int p0, .int p1, .int p2, .int p3] [ob 9 q_t [.ref q_t_signs, .ref q_t_laps, .ref q_t_breaks, .ref q_t_fraction, .ref q_t_settings, .ref q_t_rates, .ref q_t_joints, .ref q_t_tested, .ref q_t_knocks, .ref q_t_choices], aO E.O q_t_laps 6 t_laps, ob 5 q_LAP [.ref q_LAP_glue, .ref q_LAP_upper, .ref q_LAP_under, .ref q_LAP_work, .ref q_LAP_wear, .ref q_LAP_cells, .int LAP_spots, .int LAP_cure], aI E.I q_LAP_glue 5 LAP_glue, ob 0 q_t_breaks [.ref q_t_breaks_pulled, .ref q_t_breaks_moreWear, .long t_breaks_backUpper, .long t_breaks_backLower], ob 6 q_t_breaks_pulled [.ref q_t_breaks_pulled_slip, .ref q_t_breaks_pulled_shear, .ref q_t_breaks_pulled_ahead, .long t_breaks_pulled_lower, .long t_breaks_pulled_way, .long t_breaks_pulled_firstSlip], aI E.I q_LAP_upper 5 LAP_upper, aI E.I q_LAP_under 5 LAP_under, aJ E.J q_t_breaks_pulled_slip 5 t_breaks_pulled_slip, aJ E.J q_t_breaks_pulled_shear 5 t_breaks_pulled_shear, aJ E.J q_t_breaks_pulled_ahead 5 t_breaks_pulled_ahead, ob 2 q_t_fraction [.long t_fraction_upper, .long t_fraction_lower]] (S := Int64 × Int64 × Int64 × Int64 × (Nat → Int64) × (Nat → Int64) × (Nat → Int64) × Int64 × Int64 × Int64 × Int64) (fun u => some (.long u.1)) (fun u => Q u.1 u.2.1 u.2.2.1 u.2.2.2.1 u.2.2.2.2.1 u.2.2.2.2.2.1 u.2.2.2.2.2.2.1 u.2.2.2.2.2.2.2.1 u.2.2.2.2.2.2.2.2.1 u.2.2.2.2.2.2.2.2.2.1 u.2.2.2.2.2.2.2.2.2.2) (fun u => [ob 9 q_t [.ref q_t_signs, .ref q_t_laps, .ref q_t_breaks, .ref q_t_fraction, .ref q_t_settings, .ref q_t_rates, .ref q_t_joints, .ref q_t_tested, .ref q_t_knocks, .ref q_t_choices], aO E.O q_t_laps 6 t_laps, ob 5 q_LAP [.ref q_LAP_glue, .ref q_LAP_upper, .ref q_LAP_under, .ref q_LAP_work, .ref q_LAP_wear, .ref q_LAP_cells, .int LAP_spots, .int LAP_cure], aI E.I q_LAP_glue 5 LAP_glue, ob 0 q_t_breaks [.ref q_t_breaks_pulled, .ref q_t_breaks_moreWear, .long u.2.2.2.2.2.2.2.1, .long u.2.2.2.2.2.2.2.2.1], ob 6 q_t_breaks_pulled [.ref q_t_breaks_pulled_slip, .ref q_t_breaks_pulled_shear, .ref q_t_breaks_pulled_ahead, .long u.2.1, .long u.2.2.2.1, .long u.2.2.1], aI E.I q_LAP_upper 5 LAP_upper, aI E.I q_LAP_under 5 LAP_under, aJ E.J q_t_breaks_pulled_slip 5 u.2.2.2.2.1, aJ E.J q_t_breaks_pulled_shear 5 u.2.2.2.2.2.1, aJ E.J q_t_breaks_pulled_ahead 5 u.2.2.2.2.2.2.1, ob 2 q_t_fraction [.long u.2.2.2.2.2.2.2.2.2.1, .long u.2.2.2.2.2.2.2.2.2.2]]) := by
  unfold w_X9_back_S at hw
  have hinX5 : ∀ w ∈ wsX50, w ∈ wsX9_back := fun _ h => List.mem_cons_of_mem _ (List.mem_append_left _ (List.mem_append_left _ (List.mem_append_left _ (List.mem_append_left _ (List.mem_append_right _ h)))))
  have hinX9 : ∀ w ∈ wsX90, w ∈ wsX9_back := fun _ h => List.mem_cons_of_mem _ (List.mem_append_left _ (List.mem_append_left _ (List.mem_append_left _ (List.mem_append_right _ h))))
  refine g_start (cc := cX9_back) (nL := 6) (own := RX9) (ret := (some .long)) rfl (by decide) rfl (Nat.le_of_ble_eq_true rfl) (lv0 := [(0, .ref q_t), (1, .int p0), (2, .int p1), (3, .int p2), (4, .int p3)]) rfl (fun X C0 R1 => ?_)
  refine g_aload_n C0 dX9_back_0 0 rfl ?_
  refine g_iload_n C0 dX9_back_1 1 rfl ?_
  refine g_callV C0 (q0 := 0) (ci := 9) (c_X9_lapAt_S l E q_t q_LAP q_t_signs q_t_laps q_t_breaks q_t_fraction q_t_settings q_t_rates q_t_joints q_t_tested q_t_knocks q_t_choices p0 t_laps _ hw) dX9_back_2 gX9_back_X9_lapAt rfl ddV_X9_lapAt rfl (by decide) (by decide) rfl (Nat.le_of_ble_eq_true rfl) [0, 1] [2, 3, 4, 5, 6, 7, 8, 9, 10, 11] rfl (wr := [ob 5 q_LAP [.ref q_LAP_glue, .ref q_LAP_upper, .ref q_LAP_under, .ref q_LAP_work, .ref q_LAP_wear, .ref q_LAP_cells, .int LAP_spots, .int LAP_cure], aI E.I q_LAP_glue 5 LAP_glue, ob 0 q_t_breaks [.ref q_t_breaks_pulled, .ref q_t_breaks_moreWear, .long t_breaks_backUpper, .long t_breaks_backLower], ob 6 q_t_breaks_pulled [.ref q_t_breaks_pulled_slip, .ref q_t_breaks_pulled_shear, .ref q_t_breaks_pulled_ahead, .long t_breaks_pulled_lower, .long t_breaks_pulled_way, .long t_breaks_pulled_firstSlip], aI E.I q_LAP_upper 5 LAP_upper, aI E.I q_LAP_under 5 LAP_under, aJ E.J q_t_breaks_pulled_slip 5 t_breaks_pulled_slip, aJ E.J q_t_breaks_pulled_shear 5 t_breaks_pulled_shear, aJ E.J q_t_breaks_pulled_ahead 5 t_breaks_pulled_ahead, ob 2 q_t_fraction [.long t_fraction_upper, .long t_fraction_lower]]) rfl (by decide) (by decide) (by decide) rfl rfl (fun u hw => ?_)
  try dsimp only at hw
  show G X E 6 [ob 5 q_LAP [.ref q_LAP_glue, .ref q_LAP_upper, .ref q_LAP_under, .ref q_LAP_work, .ref q_LAP_wear, .ref q_LAP_cells, .int LAP_spots, .int LAP_cure], aI E.I q_LAP_glue 5 LAP_glue, ob 0 q_t_breaks [.ref q_t_breaks_pulled, .ref q_t_breaks_moreWear, .long t_breaks_backUpper, .long t_breaks_backLower], ob 6 q_t_breaks_pulled [.ref q_t_breaks_pulled_slip, .ref q_t_breaks_pulled_shear, .ref q_t_breaks_pulled_ahead, .long t_breaks_pulled_lower, .long t_breaks_pulled_way, .long t_breaks_pulled_firstSlip], aI E.I q_LAP_upper 5 LAP_upper, aI E.I q_LAP_under 5 LAP_under, aJ E.J q_t_breaks_pulled_slip 5 t_breaks_pulled_slip, aJ E.J q_t_breaks_pulled_shear 5 t_breaks_pulled_shear, aJ E.J q_t_breaks_pulled_ahead 5 t_breaks_pulled_ahead, ob 2 q_t_fraction [.long t_fraction_upper, .long t_fraction_lower], ob 9 q_t [.ref q_t_signs, .ref q_t_laps, .ref q_t_breaks, .ref q_t_fraction, .ref q_t_settings, .ref q_t_rates, .ref q_t_joints, .ref q_t_tested, .ref q_t_knocks, .ref q_t_choices], aO E.O q_t_laps 6 t_laps] 0 0 5 [(0, .ref q_t), (1, .int p0), (2, .int p1), (3, .int p2), (4, .int p3)] [.ref q_LAP]
  refine g_astore C0 (lv2 := [(5, .ref q_LAP), (0, .ref q_t), (1, .int p0), (2, .int p1), (3, .int p2), (4, .int p3)]) dX9_back_5 (by decide) rfl ?_
  refine g_aload C0 dX9_back_7 0 rfl ?_
  refine g_ifnull C0 dX9_back_9 ?_
  refine g_aload C0 dX9_back_12 0 rfl ?_
  refine g_iload_n C0 dX9_back_14 3 rfl ?_
  refine g_callV C0 (q0 := 0) (ci := 5) (c_X5_hasSpot l E q_LAP q_LAP_glue q_LAP_upper q_LAP_under q_LAP_work q_LAP_wear q_LAP_cells p1 LAP_spots LAP_cure _ hw) dX9_back_15 gX9_back_X5_hasSpot rfl ddV_X5_hasSpot rfl (by decide) (by decide) rfl (Nat.le_of_ble_eq_true rfl) [0] [1, 2, 3, 4, 5, 6, 7, 8, 9, 10, 11] rfl (wr := [aI E.I q_LAP_glue 5 LAP_glue, ob 0 q_t_breaks [.ref q_t_breaks_pulled, .ref q_t_breaks_moreWear, .long t_breaks_backUpper, .long t_breaks_backLower], ob 6 q_t_breaks_pulled [.ref q_t_breaks_pulled_slip, .ref q_t_breaks_pulled_shear, .ref q_t_breaks_pulled_ahead, .long t_breaks_pulled_lower, .long t_breaks_pulled_way, .long t_breaks_pulled_firstSlip], aI E.I q_LAP_upper 5 LAP_upper, aI E.I q_LAP_under 5 LAP_under, aJ E.J q_t_breaks_pulled_slip 5 t_breaks_pulled_slip, aJ E.J q_t_breaks_pulled_shear 5 t_breaks_pulled_shear, aJ E.J q_t_breaks_pulled_ahead 5 t_breaks_pulled_ahead, ob 2 q_t_fraction [.long t_fraction_upper, .long t_fraction_lower], ob 9 q_t [.ref q_t_signs, .ref q_t_laps, .ref q_t_breaks, .ref q_t_fraction, .ref q_t_settings, .ref q_t_rates, .ref q_t_joints, .ref q_t_tested, .ref q_t_knocks, .ref q_t_choices], aO E.O q_t_laps 6 t_laps]) rfl (by decide) (by decide) (by decide) rfl rfl (fun u hw => ?_)
  obtain ⟨r1, hu_⟩ : ∃ z, z = u := ⟨_, rfl⟩
  subst hu_
  try dsimp only at hw
  show G X E 6 [aI E.I q_LAP_glue 5 LAP_glue, ob 0 q_t_breaks [.ref q_t_breaks_pulled, .ref q_t_breaks_moreWear, .long t_breaks_backUpper, .long t_breaks_backLower], ob 6 q_t_breaks_pulled [.ref q_t_breaks_pulled_slip, .ref q_t_breaks_pulled_shear, .ref q_t_breaks_pulled_ahead, .long t_breaks_pulled_lower, .long t_breaks_pulled_way, .long t_breaks_pulled_firstSlip], aI E.I q_LAP_upper 5 LAP_upper, aI E.I q_LAP_under 5 LAP_under, aJ E.J q_t_breaks_pulled_slip 5 t_breaks_pulled_slip, aJ E.J q_t_breaks_pulled_shear 5 t_breaks_pulled_shear, aJ E.J q_t_breaks_pulled_ahead 5 t_breaks_pulled_ahead, ob 2 q_t_fraction [.long t_fraction_upper, .long t_fraction_lower], ob 9 q_t [.ref q_t_signs, .ref q_t_laps, .ref q_t_breaks, .ref q_t_fraction, .ref q_t_settings, .ref q_t_rates, .ref q_t_joints, .ref q_t_tested, .ref q_t_knocks, .ref q_t_choices], aO E.O q_t_laps 6 t_laps, ob 5 q_LAP [.ref q_LAP_glue, .ref q_LAP_upper, .ref q_LAP_under, .ref q_LAP_work, .ref q_LAP_wear, .ref q_LAP_cells, .int LAP_spots, .int LAP_cure]] 0 0 18 [(5, .ref q_LAP), (0, .ref q_t), (1, .int p0), (2, .int p1), (3, .int p2), (4, .int p3)] [.int (bI r1)]
  refine g_ifb_ne C0 (tgt := 25) dX9_back_18 (by decide) (fun c2 => ?_) (fun c2 => ?_)
  · replace hw := hw.1 c2
    refine g_iload_n C0 dX9_back_25 4 rfl ?_
    refine g_callS C0 (c_X9_isPull l E p2 _ hw) dX9_back_26 gX9_back_X9_isPull rfl ddS_X9_isPull rfl (by decide) (by decide) rfl (Nat.le_of_ble_eq_true rfl) [] [0, 1, 2, 3, 4, 5, 6, 7, 8, 9, 10, 11] rfl (wr := [aI E.I q_LAP_glue 5 LAP_glue, ob 0 q_t_breaks [.ref q_t_breaks_pulled, .ref q_t_breaks_moreWear, .long t_breaks_backUpper, .long t_breaks_backLower], ob 6 q_t_breaks_pulled [.ref q_t_breaks_pulled_slip, .ref q_t_breaks_pulled_shear, .ref q_t_breaks_pulled_ahead, .long t_breaks_pulled_lower, .long t_breaks_pulled_way, .long t_breaks_pulled_firstSlip], aI E.I q_LAP_upper 5 LAP_upper, aI E.I q_LAP_under 5 LAP_under, aJ E.J q_t_breaks_pulled_slip 5 t_breaks_pulled_slip, aJ E.J q_t_breaks_pulled_shear 5 t_breaks_pulled_shear, aJ E.J q_t_breaks_pulled_ahead 5 t_breaks_pulled_ahead, ob 2 q_t_fraction [.long t_fraction_upper, .long t_fraction_lower], ob 9 q_t [.ref q_t_signs, .ref q_t_laps, .ref q_t_breaks, .ref q_t_fraction, .ref q_t_settings, .ref q_t_rates, .ref q_t_joints, .ref q_t_tested, .ref q_t_knocks, .ref q_t_choices], aO E.O q_t_laps 6 t_laps, ob 5 q_LAP [.ref q_LAP_glue, .ref q_LAP_upper, .ref q_LAP_under, .ref q_LAP_work, .ref q_LAP_wear, .ref q_LAP_cells, .int LAP_spots, .int LAP_cure]]) rfl (by decide) (by decide) (by decide) (fun u hw => ?_)
    obtain ⟨r3, hu_⟩ : ∃ z, z = u := ⟨_, rfl⟩
    subst hu_
    try dsimp only at hw
    show G X E 6 [aI E.I q_LAP_glue 5 LAP_glue, ob 0 q_t_breaks [.ref q_t_breaks_pulled, .ref q_t_breaks_moreWear, .long t_breaks_backUpper, .long t_breaks_backLower], ob 6 q_t_breaks_pulled [.ref q_t_breaks_pulled_slip, .ref q_t_breaks_pulled_shear, .ref q_t_breaks_pulled_ahead, .long t_breaks_pulled_lower, .long t_breaks_pulled_way, .long t_breaks_pulled_firstSlip], aI E.I q_LAP_upper 5 LAP_upper, aI E.I q_LAP_under 5 LAP_under, aJ E.J q_t_breaks_pulled_slip 5 t_breaks_pulled_slip, aJ E.J q_t_breaks_pulled_shear 5 t_breaks_pulled_shear, aJ E.J q_t_breaks_pulled_ahead 5 t_breaks_pulled_ahead, ob 2 q_t_fraction [.long t_fraction_upper, .long t_fraction_lower], ob 9 q_t [.ref q_t_signs, .ref q_t_laps, .ref q_t_breaks, .ref q_t_fraction, .ref q_t_settings, .ref q_t_rates, .ref q_t_joints, .ref q_t_tested, .ref q_t_knocks, .ref q_t_choices], aO E.O q_t_laps 6 t_laps, ob 5 q_LAP [.ref q_LAP_glue, .ref q_LAP_upper, .ref q_LAP_under, .ref q_LAP_work, .ref q_LAP_wear, .ref q_LAP_cells, .int LAP_spots, .int LAP_cure]] 0 0 29 [(5, .ref q_LAP), (0, .ref q_t), (1, .int p0), (2, .int p1), (3, .int p2), (4, .int p3)] [.int (bI r3)]
    refine g_ifb_eq C0 (tgt := 40) dX9_back_29 (by decide) (fun c4 => ?_) (fun c4 => ?_)
    · replace hw := hw.1 c4
      refine g_ldc2 C0 (v := (-1000000000000000002)) dX9_back_40 (List.mem_of_getElem? (i := 2) rfl) ?_
      exact g_lret C0 R1 dX9_back_43 ((-1000000000000000002), t_breaks_pulled_lower, t_breaks_pulled_firstSlip, t_breaks_pulled_way, t_breaks_pulled_slip, t_breaks_pulled_shear, t_breaks_pulled_ahead, t_breaks_backUpper, t_breaks_backLower, t_fraction_upper, t_fraction_lower) rfl hw [9, 10, 11, 0, 1, 2, 3, 4, 5, 6, 7, 8] (by decide) rfl (by decide) (by decide)
    · replace hw := hw.2 c4
      refine g_iload C0 dX9_back_32 5 rfl ?_
      refine g_callS C0 (c_X9_isPart l E p3 _ hw) dX9_back_34 gX9_back_X9_isPart rfl ddS_X9_isPart rfl (by decide) (by decide) rfl (Nat.le_of_ble_eq_true rfl) [] [0, 1, 2, 3, 4, 5, 6, 7, 8, 9, 10, 11] rfl (wr := [aI E.I q_LAP_glue 5 LAP_glue, ob 0 q_t_breaks [.ref q_t_breaks_pulled, .ref q_t_breaks_moreWear, .long t_breaks_backUpper, .long t_breaks_backLower], ob 6 q_t_breaks_pulled [.ref q_t_breaks_pulled_slip, .ref q_t_breaks_pulled_shear, .ref q_t_breaks_pulled_ahead, .long t_breaks_pulled_lower, .long t_breaks_pulled_way, .long t_breaks_pulled_firstSlip], aI E.I q_LAP_upper 5 LAP_upper, aI E.I q_LAP_under 5 LAP_under, aJ E.J q_t_breaks_pulled_slip 5 t_breaks_pulled_slip, aJ E.J q_t_breaks_pulled_shear 5 t_breaks_pulled_shear, aJ E.J q_t_breaks_pulled_ahead 5 t_breaks_pulled_ahead, ob 2 q_t_fraction [.long t_fraction_upper, .long t_fraction_lower], ob 9 q_t [.ref q_t_signs, .ref q_t_laps, .ref q_t_breaks, .ref q_t_fraction, .ref q_t_settings, .ref q_t_rates, .ref q_t_joints, .ref q_t_tested, .ref q_t_knocks, .ref q_t_choices], aO E.O q_t_laps 6 t_laps, ob 5 q_LAP [.ref q_LAP_glue, .ref q_LAP_upper, .ref q_LAP_under, .ref q_LAP_work, .ref q_LAP_wear, .ref q_LAP_cells, .int LAP_spots, .int LAP_cure]]) rfl (by decide) (by decide) (by decide) (fun u hw => ?_)
      obtain ⟨r5, hu_⟩ : ∃ z, z = u := ⟨_, rfl⟩
      subst hu_
      try dsimp only at hw
      show G X E 6 [aI E.I q_LAP_glue 5 LAP_glue, ob 0 q_t_breaks [.ref q_t_breaks_pulled, .ref q_t_breaks_moreWear, .long t_breaks_backUpper, .long t_breaks_backLower], ob 6 q_t_breaks_pulled [.ref q_t_breaks_pulled_slip, .ref q_t_breaks_pulled_shear, .ref q_t_breaks_pulled_ahead, .long t_breaks_pulled_lower, .long t_breaks_pulled_way, .long t_breaks_pulled_firstSlip], aI E.I q_LAP_upper 5 LAP_upper, aI E.I q_LAP_under 5 LAP_under, aJ E.J q_t_breaks_pulled_slip 5 t_breaks_pulled_slip, aJ E.J q_t_breaks_pulled_shear 5 t_breaks_pulled_shear, aJ E.J q_t_breaks_pulled_ahead 5 t_breaks_pulled_ahead, ob 2 q_t_fraction [.long t_fraction_upper, .long t_fraction_lower], ob 9 q_t [.ref q_t_signs, .ref q_t_laps, .ref q_t_breaks, .ref q_t_fraction, .ref q_t_settings, .ref q_t_rates, .ref q_t_joints, .ref q_t_tested, .ref q_t_knocks, .ref q_t_choices], aO E.O q_t_laps 6 t_laps, ob 5 q_LAP [.ref q_LAP_glue, .ref q_LAP_upper, .ref q_LAP_under, .ref q_LAP_work, .ref q_LAP_wear, .ref q_LAP_cells, .int LAP_spots, .int LAP_cure]] 0 0 37 [(5, .ref q_LAP), (0, .ref q_t), (1, .int p0), (2, .int p1), (3, .int p2), (4, .int p3)] [.int (bI r5)]
      refine g_ifb_ne C0 (tgt := 44) dX9_back_37 (by decide) (fun c6 => ?_) (fun c6 => ?_)
      · replace hw := hw.1 c6
        refine g_aload C0 dX9_back_44 0 rfl ?_
        refine g_get C0 dX9_back_46 11 rfl 0 rfl rfl hinX5 (by decide) (List.mem_of_getElem? (i := 3) rfl) rfl ?_
        refine g_iload_n C0 dX9_back_49 3 rfl ?_
        obtain ⟨h7, hw⟩ := hw
        refine g_iald C0 (cA := E.I) dX9_back_50 0 rfl h7 ?_
        refine g_if_ne C0 (tgt := 58) dX9_back_51 (by decide) (fun c8 => ?_) (fun c8 => ?_)
        · replace hw := hw.1 c8
          refine g_aload_n C0 dX9_back_58 1 rfl ?_
          refine g_get C0 dX9_back_59 9 rfl 2 rfl rfl hinX9 (by decide) (List.mem_of_getElem? (i := 5) rfl) rfl ?_
          refine g_aload C0 dX9_back_62 0 rfl ?_
          refine g_iload_n C0 dX9_back_64 3 rfl ?_
          refine g_iload_n C0 dX9_back_65 4 rfl ?_
          refine g_aload_n C0 dX9_back_66 1 rfl ?_
          refine g_get C0 dX9_back_67 9 rfl 3 rfl rfl hinX9 (by decide) (List.mem_of_getElem? (i := 6) rfl) rfl ?_
          refine g_callV C0 (q0 := 1) (ci := 0) (c_X0_tellBack l E q_t_breaks q_LAP q_t_fraction q_t_breaks_pulled q_t_breaks_moreWear q_t_breaks_pulled_slip q_t_breaks_pulled_shear q_t_breaks_pulled_ahead q_LAP_glue q_LAP_upper q_LAP_under q_LAP_work q_LAP_wear q_LAP_cells p1 p2 t_breaks_backUpper t_breaks_backLower t_breaks_pulled_lower t_breaks_pulled_way t_breaks_pulled_firstSlip LAP_spots LAP_cure LAP_glue LAP_upper LAP_under t_breaks_pulled_slip t_breaks_pulled_shear t_breaks_pulled_ahead t_fraction_upper t_fraction_lower _ hw) dX9_back_70 gX9_back_X0_tellBack rfl ddV_X0_tellBack rfl (by decide) (by decide) rfl (Nat.le_of_ble_eq_true rfl) [1, 2, 11, 0, 3, 4, 5, 6, 7, 8] [9, 10] rfl (wr := [ob 9 q_t [.ref q_t_signs, .ref q_t_laps, .ref q_t_breaks, .ref q_t_fraction, .ref q_t_settings, .ref q_t_rates, .ref q_t_joints, .ref q_t_tested, .ref q_t_knocks, .ref q_t_choices], aO E.O q_t_laps 6 t_laps]) rfl (by decide) (by decide) (by decide) rfl rfl (fun u hw => ?_)
          obtain ⟨t_breaks_pulled_lower_9, t_breaks_pulled_firstSlip_10, t_breaks_pulled_way_11, t_breaks_pulled_slip_12, t_breaks_pulled_shear_13, t_breaks_pulled_ahead_14, t_breaks_backUpper_15, t_breaks_backLower_16, t_fraction_upper_17, t_fraction_lower_18⟩ := u
          try dsimp only at hw
          show G X E 6 [ob 9 q_t [.ref q_t_signs, .ref q_t_laps, .ref q_t_breaks, .ref q_t_fraction, .ref q_t_settings, .ref q_t_rates, .ref q_t_joints, .ref q_t_tested, .ref q_t_knocks, .ref q_t_choices], aO E.O q_t_laps 6 t_laps, ob 0 q_t_breaks [.ref q_t_breaks_pulled, .ref q_t_breaks_moreWear, .long t_breaks_backUpper_15, .long t_breaks_backLower_16], ob 6 q_t_breaks_pulled [.ref q_t_breaks_pulled_slip, .ref q_t_breaks_pulled_shear, .ref q_t_breaks_pulled_ahead, .long t_breaks_pulled_lower_9, .long t_breaks_pulled_way_11, .long t_breaks_pulled_firstSlip_10], ob 5 q_LAP [.ref q_LAP_glue, .ref q_LAP_upper, .ref q_LAP_under, .ref q_LAP_work, .ref q_LAP_wear, .ref q_LAP_cells, .int LAP_spots, .int LAP_cure], aI E.I q_LAP_glue 5 LAP_glue, aI E.I q_LAP_upper 5 LAP_upper, aI E.I q_LAP_under 5 LAP_under, aJ E.J q_t_breaks_pulled_slip 5 t_breaks_pulled_slip_12, aJ E.J q_t_breaks_pulled_shear 5 t_breaks_pulled_shear_13, aJ E.J q_t_breaks_pulled_ahead 5 t_breaks_pulled_ahead_14, ob 2 q_t_fraction [.long t_fraction_upper_17, .long t_fraction_lower_18]] 0 0 73 [(5, .ref q_LAP), (0, .ref q_t), (1, .int p0), (2, .int p1), (3, .int p2), (4, .int p3)] []
          refine g_aload_n C0 dX9_back_73 1 rfl ?_
          refine g_get C0 dX9_back_74 0 rfl 3 rfl rfl hinX9 (by decide) (List.mem_of_getElem? (i := 6) rfl) rfl ?_
          refine g_iload C0 dX9_back_77 5 rfl ?_
          refine g_callV C0 (q0 := 11) (ci := 2) (c_X2_number l E q_t_fraction p3 t_fraction_upper_17 t_fraction_lower_18 _ hw) dX9_back_79 gX9_back_X2_number rfl ddV_X2_number rfl (by decide) (by decide) rfl (Nat.le_of_ble_eq_true rfl) [11] [0, 1, 2, 3, 4, 5, 6, 7, 8, 9, 10] rfl (wr := [ob 9 q_t [.ref q_t_signs, .ref q_t_laps, .ref q_t_breaks, .ref q_t_fraction, .ref q_t_settings, .ref q_t_rates, .ref q_t_joints, .ref q_t_tested, .ref q_t_knocks, .ref q_t_choices], aO E.O q_t_laps 6 t_laps, ob 0 q_t_breaks [.ref q_t_breaks_pulled, .ref q_t_breaks_moreWear, .long t_breaks_backUpper_15, .long t_breaks_backLower_16], ob 6 q_t_breaks_pulled [.ref q_t_breaks_pulled_slip, .ref q_t_breaks_pulled_shear, .ref q_t_breaks_pulled_ahead, .long t_breaks_pulled_lower_9, .long t_breaks_pulled_way_11, .long t_breaks_pulled_firstSlip_10], ob 5 q_LAP [.ref q_LAP_glue, .ref q_LAP_upper, .ref q_LAP_under, .ref q_LAP_work, .ref q_LAP_wear, .ref q_LAP_cells, .int LAP_spots, .int LAP_cure], aI E.I q_LAP_glue 5 LAP_glue, aI E.I q_LAP_upper 5 LAP_upper, aI E.I q_LAP_under 5 LAP_under, aJ E.J q_t_breaks_pulled_slip 5 t_breaks_pulled_slip_12, aJ E.J q_t_breaks_pulled_shear 5 t_breaks_pulled_shear_13, aJ E.J q_t_breaks_pulled_ahead 5 t_breaks_pulled_ahead_14]) rfl (by decide) (by decide) (by decide) rfl rfl (fun u hw => ?_)
          obtain ⟨r19, hu_⟩ : ∃ z, z = u := ⟨_, rfl⟩
          subst hu_
          try dsimp only at hw
          show G X E 6 [ob 9 q_t [.ref q_t_signs, .ref q_t_laps, .ref q_t_breaks, .ref q_t_fraction, .ref q_t_settings, .ref q_t_rates, .ref q_t_joints, .ref q_t_tested, .ref q_t_knocks, .ref q_t_choices], aO E.O q_t_laps 6 t_laps, ob 0 q_t_breaks [.ref q_t_breaks_pulled, .ref q_t_breaks_moreWear, .long t_breaks_backUpper_15, .long t_breaks_backLower_16], ob 6 q_t_breaks_pulled [.ref q_t_breaks_pulled_slip, .ref q_t_breaks_pulled_shear, .ref q_t_breaks_pulled_ahead, .long t_breaks_pulled_lower_9, .long t_breaks_pulled_way_11, .long t_breaks_pulled_firstSlip_10], ob 5 q_LAP [.ref q_LAP_glue, .ref q_LAP_upper, .ref q_LAP_under, .ref q_LAP_work, .ref q_LAP_wear, .ref q_LAP_cells, .int LAP_spots, .int LAP_cure], aI E.I q_LAP_glue 5 LAP_glue, aI E.I q_LAP_upper 5 LAP_upper, aI E.I q_LAP_under 5 LAP_under, aJ E.J q_t_breaks_pulled_slip 5 t_breaks_pulled_slip_12, aJ E.J q_t_breaks_pulled_shear 5 t_breaks_pulled_shear_13, aJ E.J q_t_breaks_pulled_ahead 5 t_breaks_pulled_ahead_14, ob 2 q_t_fraction [.long t_fraction_upper_17, .long t_fraction_lower_18]] 0 0 82 [(5, .ref q_LAP), (0, .ref q_t), (1, .int p0), (2, .int p1), (3, .int p2), (4, .int p3)] [.long r19]
          exact g_lret C0 R1 dX9_back_82 (r19, t_breaks_pulled_lower_9, t_breaks_pulled_firstSlip_10, t_breaks_pulled_way_11, t_breaks_pulled_slip_12, t_breaks_pulled_shear_13, t_breaks_pulled_ahead_14, t_breaks_backUpper_15, t_breaks_backLower_16, t_fraction_upper_17, t_fraction_lower_18) rfl hw [0, 1, 4, 5, 2, 3, 6, 7, 8, 9, 10, 11] (by decide) rfl (by decide) (by decide)
        · replace hw := hw.2 c8
          refine g_ldc2 C0 (v := (-1000000000000000003)) dX9_back_54 (List.mem_of_getElem? (i := 4) rfl) ?_
          exact g_lret C0 R1 dX9_back_57 ((-1000000000000000003), t_breaks_pulled_lower, t_breaks_pulled_firstSlip, t_breaks_pulled_way, t_breaks_pulled_slip, t_breaks_pulled_shear, t_breaks_pulled_ahead, t_breaks_backUpper, t_breaks_backLower, t_fraction_upper, t_fraction_lower) rfl hw [9, 10, 11, 0, 1, 2, 3, 4, 5, 6, 7, 8] (by decide) rfl (by decide) (by decide)
      · replace hw := hw.2 c6
        refine g_ldc2 C0 (v := (-1000000000000000002)) dX9_back_40 (List.mem_of_getElem? (i := 2) rfl) ?_
        exact g_lret C0 R1 dX9_back_43 ((-1000000000000000002), t_breaks_pulled_lower, t_breaks_pulled_firstSlip, t_breaks_pulled_way, t_breaks_pulled_slip, t_breaks_pulled_shear, t_breaks_pulled_ahead, t_breaks_backUpper, t_breaks_backLower, t_fraction_upper, t_fraction_lower) rfl hw [9, 10, 11, 0, 1, 2, 3, 4, 5, 6, 7, 8] (by decide) rfl (by decide) (by decide)
  · replace hw := hw.2 c2
    refine g_ldc2 C0 (v := (-1000000000000000001)) dX9_back_21 (List.mem_of_getElem? (i := 1) rfl) ?_
    exact g_lret C0 R1 dX9_back_24 ((-1000000000000000001), t_breaks_pulled_lower, t_breaks_pulled_firstSlip, t_breaks_pulled_way, t_breaks_pulled_slip, t_breaks_pulled_shear, t_breaks_pulled_ahead, t_breaks_backUpper, t_breaks_backLower, t_fraction_upper, t_fraction_lower) rfl hw [9, 10, 11, 0, 1, 2, 3, 4, 5, 6, 7, 8] (by decide) rfl (by decide) (by decide)
def w_X9_back_N (p0 : Int32) (p1 : Int32) (p2 : Int32) (p3 : Int32) (t_laps : Nat → Option Nat) (Q : Int64 → Prop) : Prop := w_X9_lapAt_N p0 t_laps (Q (-1000000000000000001))
set_option maxHeartbeats 4000000 in
set_option maxRecDepth 100000 in
theorem c_X9_back_N (l : Launch) (E : gE) (q_t q_t_signs q_t_laps q_t_breaks q_t_fraction q_t_settings q_t_rates q_t_joints q_t_tested q_t_knocks q_t_choices : Nat) (p0 : Int32) (p1 : Int32) (p2 : Int32) (p3 : Int32) (t_laps : Nat → Option Nat) (Q : Int64 → Prop) (hw : w_X9_back_N p0 p1 p2 p3 t_laps Q) : Ct l E yX9_back wsX9_back { frames := 2, cells := 0, slots := 0, locals := 43 } [.ref q_t, .int p0, .int p1, .int p2, .int p3] [ob 9 q_t [.ref q_t_signs, .ref q_t_laps, .ref q_t_breaks, .ref q_t_fraction, .ref q_t_settings, .ref q_t_rates, .ref q_t_joints, .ref q_t_tested, .ref q_t_knocks, .ref q_t_choices], aO E.O q_t_laps 6 t_laps] (S := Int64) (fun u => some (.long u)) (fun u => Q u) (fun u => [ob 9 q_t [.ref q_t_signs, .ref q_t_laps, .ref q_t_breaks, .ref q_t_fraction, .ref q_t_settings, .ref q_t_rates, .ref q_t_joints, .ref q_t_tested, .ref q_t_knocks, .ref q_t_choices], aO E.O q_t_laps 6 t_laps]) := by
  unfold w_X9_back_N at hw
  refine g_start (cc := cX9_back) (nL := 6) (own := RX9) (ret := (some .long)) rfl (by decide) rfl (Nat.le_of_ble_eq_true rfl) (lv0 := [(0, .ref q_t), (1, .int p0), (2, .int p1), (3, .int p2), (4, .int p3)]) rfl (fun X C0 R1 => ?_)
  refine g_aload_n C0 dX9_back_0 0 rfl ?_
  refine g_iload_n C0 dX9_back_1 1 rfl ?_
  refine g_callV C0 (q0 := 0) (ci := 9) (c_X9_lapAt_N l E q_t q_t_signs q_t_laps q_t_breaks q_t_fraction q_t_settings q_t_rates q_t_joints q_t_tested q_t_knocks q_t_choices p0 t_laps _ hw) dX9_back_2 gX9_back_X9_lapAt rfl ddV_X9_lapAt rfl (by decide) (by decide) rfl (Nat.le_of_ble_eq_true rfl) [0, 1] [] rfl (wr := []) rfl (by decide) (by decide) (by decide) rfl rfl (fun u hw => ?_)
  try dsimp only at hw
  show G X E 6 [ob 9 q_t [.ref q_t_signs, .ref q_t_laps, .ref q_t_breaks, .ref q_t_fraction, .ref q_t_settings, .ref q_t_rates, .ref q_t_joints, .ref q_t_tested, .ref q_t_knocks, .ref q_t_choices], aO E.O q_t_laps 6 t_laps] 0 0 5 [(0, .ref q_t), (1, .int p0), (2, .int p1), (3, .int p2), (4, .int p3)] [.null]
  refine g_astoreN C0 (lv2 := [(5, .null), (0, .ref q_t), (1, .int p0), (2, .int p1), (3, .int p2), (4, .int p3)]) dX9_back_5 (by decide) rfl ?_
  refine g_aloadN C0 dX9_back_7 0 rfl ?_
  refine g_ifnullN C0 (tgt := 21) dX9_back_9 (by decide) ?_
  refine g_ldc2 C0 (v := (-1000000000000000001)) dX9_back_21 (List.mem_of_getElem? (i := 1) rfl) ?_
  exact g_lret C0 R1 dX9_back_24 (-1000000000000000001) rfl hw [0, 1] (by decide) rfl (by decide) (by decide)
def w_X9_refusalOfPull_S (p1 : Int32) (p2 : Bool) (a0_glue : Nat → Int32) (Q : Int32 → Prop) : Prop := w_X9_isPull p1 (fun (r1 : Bool) => (r1 = false → Q (-2)) ∧ (r1 = true → (p2 = true → w_X5_isLoose a0_glue (fun (r4 : Bool) => (r4 = false → Q 0) ∧ (r4 = true → Q (-3)))) ∧ (p2 = false → Q (-2))))
theorem ddS_X9_refusalOfPull : yX9_refusalOfPull.cls ≠ "java/lang/invoke/MethodHandle" ∧ yX9_refusalOfPull.cls ≠ "java/lang/invoke/VarHandle" ∧ (parseMethodDescriptor yX9_refusalOfPull.desc).map (fun d => d.parameters.length) = some 3 := by decide +kernel
set_option maxHeartbeats 4000000 in
set_option maxRecDepth 100000 in
theorem c_X9_refusalOfPull_S (l : Launch) (E : gE) (q_a0 q_a0_glue q_a0_upper q_a0_under q_a0_work q_a0_wear q_a0_cells : Nat) (p1 : Int32) (p2 : Bool) (a0_spots : Int32) (a0_cure : Int32) (a0_glue : Nat → Int32) (Q : Int32 → Prop) (hw : w_X9_refusalOfPull_S p1 p2 a0_glue Q) : Ct l E yX9_refusalOfPull wsX9_refusalOfPull { frames := 2, cells := 0, slots := 0, locals := 42 } [.ref q_a0, .int p1, .int (bI p2)] [ob 5 q_a0 [.ref q_a0_glue, .ref q_a0_upper, .ref q_a0_under, .ref q_a0_work, .ref q_a0_wear, .ref q_a0_cells, .int a0_spots, .int a0_cure], aI E.I q_a0_glue 5 a0_glue] (S := Int32) (fun u => some (.int u)) (fun u => Q u) (fun u => [ob 5 q_a0 [.ref q_a0_glue, .ref q_a0_upper, .ref q_a0_under, .ref q_a0_work, .ref q_a0_wear, .ref q_a0_cells, .int a0_spots, .int a0_cure], aI E.I q_a0_glue 5 a0_glue]) := by
  unfold w_X9_refusalOfPull_S at hw
  refine g_start (cc := cX9_refusalOfPull) (nL := 3) (own := RX9) (ret := (some .int)) rfl (by decide) rfl (Nat.le_of_ble_eq_true rfl) (lv0 := [(0, .ref q_a0), (1, .int p1), (2, .int (bI p2))]) rfl (fun X C0 R1 => ?_)
  refine g_aload_n C0 dX9_refusalOfPull_0 0 rfl ?_
  refine g_ifnonnull C0 (tgt := 6) dX9_refusalOfPull_1 (by decide) ?_
  refine g_iload_n C0 dX9_refusalOfPull_6 1 rfl ?_
  refine g_callS C0 (c_X9_isPull l E p1 _ hw) dX9_refusalOfPull_7 gX9_refusalOfPull_X9_isPull rfl ddS_X9_isPull rfl (by decide) (by decide) rfl (Nat.le_of_ble_eq_true rfl) [] [0, 1] rfl (wr := [ob 5 q_a0 [.ref q_a0_glue, .ref q_a0_upper, .ref q_a0_under, .ref q_a0_work, .ref q_a0_wear, .ref q_a0_cells, .int a0_spots, .int a0_cure], aI E.I q_a0_glue 5 a0_glue]) rfl (by decide) (by decide) (by decide) (fun u hw => ?_)
  obtain ⟨r1, hu_⟩ : ∃ z, z = u := ⟨_, rfl⟩
  subst hu_
  try dsimp only at hw
  show G X E 3 [ob 5 q_a0 [.ref q_a0_glue, .ref q_a0_upper, .ref q_a0_under, .ref q_a0_work, .ref q_a0_wear, .ref q_a0_cells, .int a0_spots, .int a0_cure], aI E.I q_a0_glue 5 a0_glue] 0 0 10 [(0, .ref q_a0), (1, .int p1), (2, .int (bI p2))] [.int (bI r1)]
  refine g_ifb_eq C0 (tgt := 17) dX9_refusalOfPull_10 (by decide) (fun c2 => ?_) (fun c2 => ?_)
  · replace hw := hw.1 c2
    refine g_bipush C0 (v := (-2)) dX9_refusalOfPull_17 (by decide) ?_
    exact g_iret C0 R1 dX9_refusalOfPull_19 (-2) rfl hw [0, 1] (by decide) rfl (by decide) (by decide)
  · replace hw := hw.2 c2
    refine g_iload_n C0 dX9_refusalOfPull_13 2 rfl ?_
    refine g_ifb_ne C0 (tgt := 20) dX9_refusalOfPull_14 (by decide) (fun c3 => ?_) (fun c3 => ?_)
    · replace hw := hw.1 c3
      refine g_aload_n C0 dX9_refusalOfPull_20 0 rfl ?_
      refine g_callV C0 (q0 := 0) (ci := 5) (c_X5_isLoose l E q_a0 q_a0_glue q_a0_upper q_a0_under q_a0_work q_a0_wear q_a0_cells a0_spots a0_cure a0_glue _ hw) dX9_refusalOfPull_21 gX9_refusalOfPull_X5_isLoose rfl ddV_X5_isLoose rfl (by decide) (by decide) rfl (Nat.le_of_ble_eq_true rfl) [0, 1] [] rfl (wr := []) rfl (by decide) (by decide) (by decide) rfl rfl (fun u hw => ?_)
      obtain ⟨r4, hu_⟩ : ∃ z, z = u := ⟨_, rfl⟩
      subst hu_
      try dsimp only at hw
      show G X E 3 [ob 5 q_a0 [.ref q_a0_glue, .ref q_a0_upper, .ref q_a0_under, .ref q_a0_work, .ref q_a0_wear, .ref q_a0_cells, .int a0_spots, .int a0_cure], aI E.I q_a0_glue 5 a0_glue] 0 0 24 [(0, .ref q_a0), (1, .int p1), (2, .int (bI p2))] [.int (bI r4)]
      refine g_ifb_eq C0 (tgt := 32) dX9_refusalOfPull_24 (by decide) (fun c5 => ?_) (fun c5 => ?_)
      · replace hw := hw.1 c5
        refine g_iconst C0 (v := 0) dX9_refusalOfPull_32 (by decide) ?_
        exact g_iret C0 R1 dX9_refusalOfPull_33 0 rfl hw [0, 1] (by decide) rfl (by decide) (by decide)
      · replace hw := hw.2 c5
        refine g_bipush C0 (v := (-3)) dX9_refusalOfPull_27 (by decide) ?_
        refine g_goto C0 (tgt := 33) dX9_refusalOfPull_29 (by decide) ?_
        exact g_iret C0 R1 dX9_refusalOfPull_33 (-3) rfl hw [0, 1] (by decide) rfl (by decide) (by decide)
    · replace hw := hw.2 c3
      refine g_bipush C0 (v := (-2)) dX9_refusalOfPull_17 (by decide) ?_
      exact g_iret C0 R1 dX9_refusalOfPull_19 (-2) rfl hw [0, 1] (by decide) rfl (by decide) (by decide)
def w_X9_refusalOfPull_N (p1 : Int32) (p2 : Bool) (Q : Int32 → Prop) : Prop := Q (-1)
set_option maxHeartbeats 4000000 in
set_option maxRecDepth 100000 in
theorem c_X9_refusalOfPull_N (l : Launch) (E : gE) (p1 : Int32) (p2 : Bool) (Q : Int32 → Prop) (hw : w_X9_refusalOfPull_N p1 p2 Q) : Ct l E yX9_refusalOfPull wsX9_refusalOfPull { frames := 0, cells := 0, slots := 0, locals := 0 } [.null, .int p1, .int (bI p2)] [] (S := Int32) (fun u => some (.int u)) (fun u => Q u) (fun u => []) := by
  unfold w_X9_refusalOfPull_N at hw
  refine g_start (cc := cX9_refusalOfPull) (nL := 3) (own := RX9) (ret := (some .int)) rfl (by decide) rfl (Nat.le_of_ble_eq_true rfl) (lv0 := [(0, .null), (1, .int p1), (2, .int (bI p2))]) rfl (fun X C0 R1 => ?_)
  refine g_aload_nN C0 dX9_refusalOfPull_0 0 rfl ?_
  refine g_ifnonnullN C0 dX9_refusalOfPull_1 ?_
  refine g_iconst C0 (v := (-1)) dX9_refusalOfPull_4 (by decide) ?_
  exact g_iret C0 R1 dX9_refusalOfPull_5 (-1) rfl hw [] (by decide) rfl (by decide) (by decide)
def w_X9_spreads_S (q_LAP : Nat) (p0 : Int32) (p1 : Int32) (t_laps : Nat → Option Nat) (LAP_glue : Nat → Int32) (t_breaks_backUpper : Int64) (t_breaks_backLower : Int64) (t_breaks_pulled_lower : Int64) (t_breaks_pulled_way : Int64) (t_breaks_pulled_firstSlip : Int64) (LAP_upper : Nat → Int32) (LAP_under : Nat → Int32) (t_breaks_pulled_slip : Nat → Int64) (t_breaks_pulled_shear : Nat → Int64) (t_breaks_pulled_ahead : Nat → Int64) (LAP_work : Nat → Int32) (Q : Int32 → Int64 → Int64 → Int64 → (Nat → Int64) → (Nat → Int64) → (Nat → Int64) → Int64 → Int64 → Prop) : Prop := w_X9_lapAt_S q_LAP p0 t_laps (w_X9_refusalOfPull_S p1 true LAP_glue (fun (r1 : Int32) => (r1 = 0 → w_X0_spreadingSpots p1 LAP_glue t_breaks_backUpper t_breaks_backLower t_breaks_pulled_lower t_breaks_pulled_way t_breaks_pulled_firstSlip LAP_upper LAP_under t_breaks_pulled_slip t_breaks_pulled_shear t_breaks_pulled_ahead LAP_work (fun (r3 : Int32) (t_breaks_pulled_lower_4 : Int64) (t_breaks_pulled_firstSlip_5 : Int64) (t_breaks_pulled_way_6 : Int64) (t_breaks_pulled_slip_7 : Nat → Int64) (t_breaks_pulled_shear_8 : Nat → Int64) (t_breaks_pulled_ahead_9 : Nat → Int64) (t_breaks_backUpper_10 : Int64) (t_breaks_backLower_11 : Int64) => Q r3 t_breaks_pulled_lower_4 t_breaks_pulled_firstSlip_5 t_breaks_pulled_way_6 t_breaks_pulled_slip_7 t_breaks_pulled_shear_8 t_breaks_pulled_ahead_9 t_breaks_backUpper_10 t_breaks_backLower_11)) ∧ (¬ r1 = 0 → Q r1 t_breaks_pulled_lower t_breaks_pulled_firstSlip t_breaks_pulled_way t_breaks_pulled_slip t_breaks_pulled_shear t_breaks_pulled_ahead t_breaks_backUpper t_breaks_backLower)))
theorem ddV_X9_spreads : yX9_spreads.cls = RX9 ∧ yX9_spreads.cls ≠ "java/lang/invoke/MethodHandle" ∧ yX9_spreads.cls ≠ "java/lang/invoke/VarHandle" ∧ (parseMethodDescriptor yX9_spreads.desc).map (fun d => d.parameters.length) = some 2 := by decide +kernel
set_option maxHeartbeats 4000000 in
set_option maxRecDepth 100000 in
theorem c_X9_spreads_S (l : Launch) (E : gE) (q_t q_LAP q_t_signs q_t_laps q_t_breaks q_t_fraction q_t_settings q_t_rates q_t_joints q_t_tested q_t_knocks q_t_choices q_LAP_glue q_LAP_upper q_LAP_under q_LAP_work q_LAP_wear q_LAP_cells q_t_breaks_pulled q_t_breaks_moreWear q_t_breaks_pulled_slip q_t_breaks_pulled_shear q_t_breaks_pulled_ahead : Nat) (p0 : Int32) (p1 : Int32) (t_laps : Nat → Option Nat) (LAP_spots : Int32) (LAP_cure : Int32) (LAP_glue : Nat → Int32) (t_breaks_backUpper : Int64) (t_breaks_backLower : Int64) (t_breaks_pulled_lower : Int64) (t_breaks_pulled_way : Int64) (t_breaks_pulled_firstSlip : Int64) (LAP_upper : Nat → Int32) (LAP_under : Nat → Int32) (t_breaks_pulled_slip : Nat → Int64) (t_breaks_pulled_shear : Nat → Int64) (t_breaks_pulled_ahead : Nat → Int64) (LAP_work : Nat → Int32) (Q : Int32 → Int64 → Int64 → Int64 → (Nat → Int64) → (Nat → Int64) → (Nat → Int64) → Int64 → Int64 → Prop) (hw : w_X9_spreads_S q_LAP p0 p1 t_laps LAP_glue t_breaks_backUpper t_breaks_backLower t_breaks_pulled_lower t_breaks_pulled_way t_breaks_pulled_firstSlip LAP_upper LAP_under t_breaks_pulled_slip t_breaks_pulled_shear t_breaks_pulled_ahead LAP_work Q) : Ct l E yX9_spreads wsX9_spreads { frames := 5, cells := 0, slots := 0, locals := 130 } [.ref q_t, .int p0, .int p1] [ob 9 q_t [.ref q_t_signs, .ref q_t_laps, .ref q_t_breaks, .ref q_t_fraction, .ref q_t_settings, .ref q_t_rates, .ref q_t_joints, .ref q_t_tested, .ref q_t_knocks, .ref q_t_choices], aO E.O q_t_laps 6 t_laps, ob 5 q_LAP [.ref q_LAP_glue, .ref q_LAP_upper, .ref q_LAP_under, .ref q_LAP_work, .ref q_LAP_wear, .ref q_LAP_cells, .int LAP_spots, .int LAP_cure], aI E.I q_LAP_glue 5 LAP_glue, ob 0 q_t_breaks [.ref q_t_breaks_pulled, .ref q_t_breaks_moreWear, .long t_breaks_backUpper, .long t_breaks_backLower], ob 6 q_t_breaks_pulled [.ref q_t_breaks_pulled_slip, .ref q_t_breaks_pulled_shear, .ref q_t_breaks_pulled_ahead, .long t_breaks_pulled_lower, .long t_breaks_pulled_way, .long t_breaks_pulled_firstSlip], aI E.I q_LAP_upper 5 LAP_upper, aI E.I q_LAP_under 5 LAP_under, aJ E.J q_t_breaks_pulled_slip 5 t_breaks_pulled_slip, aJ E.J q_t_breaks_pulled_shear 5 t_breaks_pulled_shear, aJ E.J q_t_breaks_pulled_ahead 5 t_breaks_pulled_ahead, aI E.I q_LAP_work 5 LAP_work] (S := Int32 × Int64 × Int64 × Int64 × (Nat → Int64) × (Nat → Int64) × (Nat → Int64) × Int64 × Int64) (fun u => some (.int u.1)) (fun u => Q u.1 u.2.1 u.2.2.1 u.2.2.2.1 u.2.2.2.2.1 u.2.2.2.2.2.1 u.2.2.2.2.2.2.1 u.2.2.2.2.2.2.2.1 u.2.2.2.2.2.2.2.2) (fun u => [ob 9 q_t [.ref q_t_signs, .ref q_t_laps, .ref q_t_breaks, .ref q_t_fraction, .ref q_t_settings, .ref q_t_rates, .ref q_t_joints, .ref q_t_tested, .ref q_t_knocks, .ref q_t_choices], aO E.O q_t_laps 6 t_laps, ob 5 q_LAP [.ref q_LAP_glue, .ref q_LAP_upper, .ref q_LAP_under, .ref q_LAP_work, .ref q_LAP_wear, .ref q_LAP_cells, .int LAP_spots, .int LAP_cure], aI E.I q_LAP_glue 5 LAP_glue, ob 0 q_t_breaks [.ref q_t_breaks_pulled, .ref q_t_breaks_moreWear, .long u.2.2.2.2.2.2.2.1, .long u.2.2.2.2.2.2.2.2], ob 6 q_t_breaks_pulled [.ref q_t_breaks_pulled_slip, .ref q_t_breaks_pulled_shear, .ref q_t_breaks_pulled_ahead, .long u.2.1, .long u.2.2.2.1, .long u.2.2.1], aI E.I q_LAP_upper 5 LAP_upper, aI E.I q_LAP_under 5 LAP_under, aJ E.J q_t_breaks_pulled_slip 5 u.2.2.2.2.1, aJ E.J q_t_breaks_pulled_shear 5 u.2.2.2.2.2.1, aJ E.J q_t_breaks_pulled_ahead 5 u.2.2.2.2.2.2.1, aI E.I q_LAP_work 5 LAP_work]) := by
  unfold w_X9_spreads_S at hw
  have hinX9 : ∀ w ∈ wsX90, w ∈ wsX9_spreads := fun _ h => List.mem_cons_of_mem _ (List.mem_append_left _ (List.mem_append_left _ (List.mem_append_left _ (List.mem_append_right _ h))))
  refine g_start (cc := cX9_spreads) (nL := 5) (own := RX9) (ret := (some .int)) rfl (by decide) rfl (Nat.le_of_ble_eq_true rfl) (lv0 := [(0, .ref q_t), (1, .int p0), (2, .int p1)]) rfl (fun X C0 R1 => ?_)
  refine g_aload_n C0 dX9_spreads_0 0 rfl ?_
  refine g_iload_n C0 dX9_spreads_1 1 rfl ?_
  refine g_callV C0 (q0 := 0) (ci := 9) (c_X9_lapAt_S l E q_t q_LAP q_t_signs q_t_laps q_t_breaks q_t_fraction q_t_settings q_t_rates q_t_joints q_t_tested q_t_knocks q_t_choices p0 t_laps _ hw) dX9_spreads_2 gX9_spreads_X9_lapAt rfl ddV_X9_lapAt rfl (by decide) (by decide) rfl (Nat.le_of_ble_eq_true rfl) [0, 1] [2, 3, 4, 5, 6, 7, 8, 9, 10, 11] rfl (wr := [ob 5 q_LAP [.ref q_LAP_glue, .ref q_LAP_upper, .ref q_LAP_under, .ref q_LAP_work, .ref q_LAP_wear, .ref q_LAP_cells, .int LAP_spots, .int LAP_cure], aI E.I q_LAP_glue 5 LAP_glue, ob 0 q_t_breaks [.ref q_t_breaks_pulled, .ref q_t_breaks_moreWear, .long t_breaks_backUpper, .long t_breaks_backLower], ob 6 q_t_breaks_pulled [.ref q_t_breaks_pulled_slip, .ref q_t_breaks_pulled_shear, .ref q_t_breaks_pulled_ahead, .long t_breaks_pulled_lower, .long t_breaks_pulled_way, .long t_breaks_pulled_firstSlip], aI E.I q_LAP_upper 5 LAP_upper, aI E.I q_LAP_under 5 LAP_under, aJ E.J q_t_breaks_pulled_slip 5 t_breaks_pulled_slip, aJ E.J q_t_breaks_pulled_shear 5 t_breaks_pulled_shear, aJ E.J q_t_breaks_pulled_ahead 5 t_breaks_pulled_ahead, aI E.I q_LAP_work 5 LAP_work]) rfl (by decide) (by decide) (by decide) rfl rfl (fun u hw => ?_)
  try dsimp only at hw
  show G X E 5 [ob 5 q_LAP [.ref q_LAP_glue, .ref q_LAP_upper, .ref q_LAP_under, .ref q_LAP_work, .ref q_LAP_wear, .ref q_LAP_cells, .int LAP_spots, .int LAP_cure], aI E.I q_LAP_glue 5 LAP_glue, ob 0 q_t_breaks [.ref q_t_breaks_pulled, .ref q_t_breaks_moreWear, .long t_breaks_backUpper, .long t_breaks_backLower], ob 6 q_t_breaks_pulled [.ref q_t_breaks_pulled_slip, .ref q_t_breaks_pulled_shear, .ref q_t_breaks_pulled_ahead, .long t_breaks_pulled_lower, .long t_breaks_pulled_way, .long t_breaks_pulled_firstSlip], aI E.I q_LAP_upper 5 LAP_upper, aI E.I q_LAP_under 5 LAP_under, aJ E.J q_t_breaks_pulled_slip 5 t_breaks_pulled_slip, aJ E.J q_t_breaks_pulled_shear 5 t_breaks_pulled_shear, aJ E.J q_t_breaks_pulled_ahead 5 t_breaks_pulled_ahead, aI E.I q_LAP_work 5 LAP_work, ob 9 q_t [.ref q_t_signs, .ref q_t_laps, .ref q_t_breaks, .ref q_t_fraction, .ref q_t_settings, .ref q_t_rates, .ref q_t_joints, .ref q_t_tested, .ref q_t_knocks, .ref q_t_choices], aO E.O q_t_laps 6 t_laps] 0 0 5 [(0, .ref q_t), (1, .int p0), (2, .int p1)] [.ref q_LAP]
  refine g_astore_n C0 (lv2 := [(3, .ref q_LAP), (0, .ref q_t), (1, .int p0), (2, .int p1)]) dX9_spreads_5 (by decide) rfl ?_
  refine g_aload_n C0 dX9_spreads_6 0 rfl ?_
  refine g_iload_n C0 dX9_spreads_7 3 rfl ?_
  refine g_iconst C0 (v := 1) dX9_spreads_8 (by decide) ?_
  refine g_callS C0 (c_X9_refusalOfPull_S l E q_LAP q_LAP_glue q_LAP_upper q_LAP_under q_LAP_work q_LAP_wear q_LAP_cells p1 true LAP_spots LAP_cure LAP_glue _ hw) dX9_spreads_9 gX9_spreads_X9_refusalOfPull rfl ddS_X9_refusalOfPull rfl (by decide) (by decide) rfl (Nat.le_of_ble_eq_true rfl) [0, 1] [2, 3, 4, 5, 6, 7, 8, 9, 10, 11] rfl (wr := [ob 0 q_t_breaks [.ref q_t_breaks_pulled, .ref q_t_breaks_moreWear, .long t_breaks_backUpper, .long t_breaks_backLower], ob 6 q_t_breaks_pulled [.ref q_t_breaks_pulled_slip, .ref q_t_breaks_pulled_shear, .ref q_t_breaks_pulled_ahead, .long t_breaks_pulled_lower, .long t_breaks_pulled_way, .long t_breaks_pulled_firstSlip], aI E.I q_LAP_upper 5 LAP_upper, aI E.I q_LAP_under 5 LAP_under, aJ E.J q_t_breaks_pulled_slip 5 t_breaks_pulled_slip, aJ E.J q_t_breaks_pulled_shear 5 t_breaks_pulled_shear, aJ E.J q_t_breaks_pulled_ahead 5 t_breaks_pulled_ahead, aI E.I q_LAP_work 5 LAP_work, ob 9 q_t [.ref q_t_signs, .ref q_t_laps, .ref q_t_breaks, .ref q_t_fraction, .ref q_t_settings, .ref q_t_rates, .ref q_t_joints, .ref q_t_tested, .ref q_t_knocks, .ref q_t_choices], aO E.O q_t_laps 6 t_laps]) rfl (by decide) (by decide) (by decide) (fun u hw => ?_)
  obtain ⟨r1, hu_⟩ : ∃ z, z = u := ⟨_, rfl⟩
  subst hu_
  try dsimp only at hw
  show G X E 5 [ob 0 q_t_breaks [.ref q_t_breaks_pulled, .ref q_t_breaks_moreWear, .long t_breaks_backUpper, .long t_breaks_backLower], ob 6 q_t_breaks_pulled [.ref q_t_breaks_pulled_slip, .ref q_t_breaks_pulled_shear, .ref q_t_breaks_pulled_ahead, .long t_breaks_pulled_lower, .long t_breaks_pulled_way, .long t_breaks_pulled_firstSlip], aI E.I q_LAP_upper 5 LAP_upper, aI E.I q_LAP_under 5 LAP_under, aJ E.J q_t_breaks_pulled_slip 5 t_breaks_pulled_slip, aJ E.J q_t_breaks_pulled_shear 5 t_breaks_pulled_shear, aJ E.J q_t_breaks_pulled_ahead 5 t_breaks_pulled_ahead, aI E.I q_LAP_work 5 LAP_work, ob 9 q_t [.ref q_t_signs, .ref q_t_laps, .ref q_t_breaks, .ref q_t_fraction, .ref q_t_settings, .ref q_t_rates, .ref q_t_joints, .ref q_t_tested, .ref q_t_knocks, .ref q_t_choices], aO E.O q_t_laps 6 t_laps, ob 5 q_LAP [.ref q_LAP_glue, .ref q_LAP_upper, .ref q_LAP_under, .ref q_LAP_work, .ref q_LAP_wear, .ref q_LAP_cells, .int LAP_spots, .int LAP_cure], aI E.I q_LAP_glue 5 LAP_glue] 0 0 12 [(3, .ref q_LAP), (0, .ref q_t), (1, .int p0), (2, .int p1)] [.int r1]
  refine g_istore C0 (lv2 := [(4, .int r1), (3, .ref q_LAP), (0, .ref q_t), (1, .int p0), (2, .int p1)]) dX9_spreads_12 (by decide) rfl ?_
  refine g_iload C0 dX9_spreads_14 0 rfl ?_
  refine g_if_eq C0 (tgt := 24) dX9_spreads_16 (by decide) (fun c2 => ?_) (fun c2 => ?_)
  · replace hw := hw.1 c2
    refine g_aload_n C0 dX9_spreads_24 2 rfl ?_
    refine g_get C0 dX9_spreads_25 8 rfl 2 rfl rfl hinX9 (by decide) (List.mem_of_getElem? (i := 1) rfl) rfl ?_
    refine g_aload_n C0 dX9_spreads_28 1 rfl ?_
    refine g_iload_n C0 dX9_spreads_29 4 rfl ?_
    refine g_callV C0 (q0 := 0) (ci := 0) (c_X0_spreadingSpots l E q_t_breaks q_LAP q_LAP_glue q_LAP_upper q_LAP_under q_LAP_work q_LAP_wear q_LAP_cells q_t_breaks_pulled q_t_breaks_moreWear q_t_breaks_pulled_slip q_t_breaks_pulled_shear q_t_breaks_pulled_ahead p1 LAP_spots LAP_cure LAP_glue t_breaks_backUpper t_breaks_backLower t_breaks_pulled_lower t_breaks_pulled_way t_breaks_pulled_firstSlip LAP_upper LAP_under t_breaks_pulled_slip t_breaks_pulled_shear t_breaks_pulled_ahead LAP_work _ hw) dX9_spreads_30 gX9_spreads_X0_spreadingSpots rfl ddV_X0_spreadingSpots rfl (by decide) (by decide) rfl (Nat.le_of_ble_eq_true rfl) [10, 11, 0, 1, 2, 3, 4, 5, 6, 7] [8, 9] rfl (wr := [ob 9 q_t [.ref q_t_signs, .ref q_t_laps, .ref q_t_breaks, .ref q_t_fraction, .ref q_t_settings, .ref q_t_rates, .ref q_t_joints, .ref q_t_tested, .ref q_t_knocks, .ref q_t_choices], aO E.O q_t_laps 6 t_laps]) rfl (by decide) (by decide) (by decide) rfl rfl (fun u hw => ?_)
    obtain ⟨r3, t_breaks_pulled_lower_4, t_breaks_pulled_firstSlip_5, t_breaks_pulled_way_6, t_breaks_pulled_slip_7, t_breaks_pulled_shear_8, t_breaks_pulled_ahead_9, t_breaks_backUpper_10, t_breaks_backLower_11⟩ := u
    try dsimp only at hw
    show G X E 5 [ob 9 q_t [.ref q_t_signs, .ref q_t_laps, .ref q_t_breaks, .ref q_t_fraction, .ref q_t_settings, .ref q_t_rates, .ref q_t_joints, .ref q_t_tested, .ref q_t_knocks, .ref q_t_choices], aO E.O q_t_laps 6 t_laps, ob 5 q_LAP [.ref q_LAP_glue, .ref q_LAP_upper, .ref q_LAP_under, .ref q_LAP_work, .ref q_LAP_wear, .ref q_LAP_cells, .int LAP_spots, .int LAP_cure], aI E.I q_LAP_glue 5 LAP_glue, ob 0 q_t_breaks [.ref q_t_breaks_pulled, .ref q_t_breaks_moreWear, .long t_breaks_backUpper_10, .long t_breaks_backLower_11], ob 6 q_t_breaks_pulled [.ref q_t_breaks_pulled_slip, .ref q_t_breaks_pulled_shear, .ref q_t_breaks_pulled_ahead, .long t_breaks_pulled_lower_4, .long t_breaks_pulled_way_6, .long t_breaks_pulled_firstSlip_5], aI E.I q_LAP_upper 5 LAP_upper, aI E.I q_LAP_under 5 LAP_under, aJ E.J q_t_breaks_pulled_slip 5 t_breaks_pulled_slip_7, aJ E.J q_t_breaks_pulled_shear 5 t_breaks_pulled_shear_8, aJ E.J q_t_breaks_pulled_ahead 5 t_breaks_pulled_ahead_9, aI E.I q_LAP_work 5 LAP_work] 0 0 33 [(4, .int r1), (3, .ref q_LAP), (0, .ref q_t), (1, .int p0), (2, .int p1)] [.int r3]
    exact g_iret C0 R1 dX9_spreads_33 (r3, t_breaks_pulled_lower_4, t_breaks_pulled_firstSlip_5, t_breaks_pulled_way_6, t_breaks_pulled_slip_7, t_breaks_pulled_shear_8, t_breaks_pulled_ahead_9, t_breaks_backUpper_10, t_breaks_backLower_11) rfl hw [0, 1, 2, 3, 4, 5, 6, 7, 8, 9, 10, 11] (by decide) rfl (by decide) (by decide)
  · replace hw := hw.2 c2
    refine g_iload C0 dX9_spreads_19 0 rfl ?_
    refine g_goto C0 (tgt := 33) dX9_spreads_21 (by decide) ?_
    exact g_iret C0 R1 dX9_spreads_33 (r1, t_breaks_pulled_lower, t_breaks_pulled_firstSlip, t_breaks_pulled_way, t_breaks_pulled_slip, t_breaks_pulled_shear, t_breaks_pulled_ahead, t_breaks_backUpper, t_breaks_backLower) rfl hw [8, 9, 10, 11, 0, 1, 2, 3, 4, 5, 6, 7] (by decide) rfl (by decide) (by decide)
def w_X9_spreads_N (p0 : Int32) (p1 : Int32) (t_laps : Nat → Option Nat) (Q : Int32 → Prop) : Prop := w_X9_lapAt_N p0 t_laps (w_X9_refusalOfPull_N p1 true (fun (r1 : Int32) => (r1 = 0 → False) ∧ (¬ r1 = 0 → Q r1)))
set_option maxHeartbeats 4000000 in
set_option maxRecDepth 100000 in
theorem c_X9_spreads_N (l : Launch) (E : gE) (q_t q_t_signs q_t_laps q_t_breaks q_t_fraction q_t_settings q_t_rates q_t_joints q_t_tested q_t_knocks q_t_choices : Nat) (p0 : Int32) (p1 : Int32) (t_laps : Nat → Option Nat) (Q : Int32 → Prop) (hw : w_X9_spreads_N p0 p1 t_laps Q) : Ct l E yX9_spreads wsX9_spreads { frames := 2, cells := 0, slots := 0, locals := 43 } [.ref q_t, .int p0, .int p1] [ob 9 q_t [.ref q_t_signs, .ref q_t_laps, .ref q_t_breaks, .ref q_t_fraction, .ref q_t_settings, .ref q_t_rates, .ref q_t_joints, .ref q_t_tested, .ref q_t_knocks, .ref q_t_choices], aO E.O q_t_laps 6 t_laps] (S := Int32) (fun u => some (.int u)) (fun u => Q u) (fun u => [ob 9 q_t [.ref q_t_signs, .ref q_t_laps, .ref q_t_breaks, .ref q_t_fraction, .ref q_t_settings, .ref q_t_rates, .ref q_t_joints, .ref q_t_tested, .ref q_t_knocks, .ref q_t_choices], aO E.O q_t_laps 6 t_laps]) := by
  unfold w_X9_spreads_N at hw
  have hinX9 : ∀ w ∈ wsX90, w ∈ wsX9_spreads := fun _ h => List.mem_cons_of_mem _ (List.mem_append_left _ (List.mem_append_left _ (List.mem_append_left _ (List.mem_append_right _ h))))
  refine g_start (cc := cX9_spreads) (nL := 5) (own := RX9) (ret := (some .int)) rfl (by decide) rfl (Nat.le_of_ble_eq_true rfl) (lv0 := [(0, .ref q_t), (1, .int p0), (2, .int p1)]) rfl (fun X C0 R1 => ?_)
  refine g_aload_n C0 dX9_spreads_0 0 rfl ?_
  refine g_iload_n C0 dX9_spreads_1 1 rfl ?_
  refine g_callV C0 (q0 := 0) (ci := 9) (c_X9_lapAt_N l E q_t q_t_signs q_t_laps q_t_breaks q_t_fraction q_t_settings q_t_rates q_t_joints q_t_tested q_t_knocks q_t_choices p0 t_laps _ hw) dX9_spreads_2 gX9_spreads_X9_lapAt rfl ddV_X9_lapAt rfl (by decide) (by decide) rfl (Nat.le_of_ble_eq_true rfl) [0, 1] [] rfl (wr := []) rfl (by decide) (by decide) (by decide) rfl rfl (fun u hw => ?_)
  try dsimp only at hw
  show G X E 5 [ob 9 q_t [.ref q_t_signs, .ref q_t_laps, .ref q_t_breaks, .ref q_t_fraction, .ref q_t_settings, .ref q_t_rates, .ref q_t_joints, .ref q_t_tested, .ref q_t_knocks, .ref q_t_choices], aO E.O q_t_laps 6 t_laps] 0 0 5 [(0, .ref q_t), (1, .int p0), (2, .int p1)] [.null]
  refine g_astore_nN C0 (lv2 := [(3, .null), (0, .ref q_t), (1, .int p0), (2, .int p1)]) dX9_spreads_5 (by decide) rfl ?_
  refine g_aload_nN C0 dX9_spreads_6 0 rfl ?_
  refine g_iload_n C0 dX9_spreads_7 3 rfl ?_
  refine g_iconst C0 (v := 1) dX9_spreads_8 (by decide) ?_
  refine g_callS C0 (c_X9_refusalOfPull_N l E p1 true _ hw) dX9_spreads_9 gX9_spreads_X9_refusalOfPull rfl ddS_X9_refusalOfPull rfl (by decide) (by decide) rfl (Nat.le_of_ble_eq_true rfl) [] [0, 1] rfl (wr := [ob 9 q_t [.ref q_t_signs, .ref q_t_laps, .ref q_t_breaks, .ref q_t_fraction, .ref q_t_settings, .ref q_t_rates, .ref q_t_joints, .ref q_t_tested, .ref q_t_knocks, .ref q_t_choices], aO E.O q_t_laps 6 t_laps]) rfl (by decide) (by decide) (by decide) (fun u hw => ?_)
  obtain ⟨r1, hu_⟩ : ∃ z, z = u := ⟨_, rfl⟩
  subst hu_
  try dsimp only at hw
  show G X E 5 [ob 9 q_t [.ref q_t_signs, .ref q_t_laps, .ref q_t_breaks, .ref q_t_fraction, .ref q_t_settings, .ref q_t_rates, .ref q_t_joints, .ref q_t_tested, .ref q_t_knocks, .ref q_t_choices], aO E.O q_t_laps 6 t_laps] 0 0 12 [(3, .null), (0, .ref q_t), (1, .int p0), (2, .int p1)] [.int r1]
  refine g_istore C0 (lv2 := [(4, .int r1), (3, .null), (0, .ref q_t), (1, .int p0), (2, .int p1)]) dX9_spreads_12 (by decide) rfl ?_
  refine g_iload C0 dX9_spreads_14 0 rfl ?_
  refine g_if_eq C0 (tgt := 24) dX9_spreads_16 (by decide) (fun c2 => ?_) (fun c2 => ?_)
  · replace hw := hw.1 c2
    refine g_aload_n C0 dX9_spreads_24 2 rfl ?_
    refine g_get C0 dX9_spreads_25 0 rfl 2 rfl rfl hinX9 (by decide) (List.mem_of_getElem? (i := 1) rfl) rfl ?_
    refine g_aload_nN C0 dX9_spreads_28 1 rfl ?_
    refine g_iload_n C0 dX9_spreads_29 4 rfl ?_
    exact hw.elim
  · replace hw := hw.2 c2
    refine g_iload C0 dX9_spreads_19 0 rfl ?_
    refine g_goto C0 (tgt := 33) dX9_spreads_21 (by decide) ?_
    exact g_iret C0 R1 dX9_spreads_33 r1 rfl hw [0, 1] (by decide) rfl (by decide) (by decide)
def w_X9_first_S (q_LAP : Nat) (p0 : Int32) (t_laps : Nat → Option Nat) (LAP_glue : Nat → Int32) (t_breaks_backUpper : Int64) (t_breaks_backLower : Int64) (t_breaks_pulled_lower : Int64) (t_breaks_pulled_way : Int64) (t_breaks_pulled_firstSlip : Int64) (LAP_upper : Nat → Int32) (LAP_under : Nat → Int32) (t_breaks_pulled_slip : Nat → Int64) (t_breaks_pulled_shear : Nat → Int64) (t_breaks_pulled_ahead : Nat → Int64) (LAP_work : Nat → Int32) (Q : Int32 → Int64 → Int64 → Int64 → (Nat → Int64) → (Nat → Int64) → (Nat → Int64) → Int64 → Int64 → Prop) : Prop := w_X9_lapAt_S q_LAP p0 t_laps (w_X5_isLoose LAP_glue (fun (r1 : Bool) => (r1 = false → w_X0_leastPull LAP_glue t_breaks_backUpper t_breaks_backLower t_breaks_pulled_lower t_breaks_pulled_way t_breaks_pulled_firstSlip LAP_upper LAP_under t_breaks_pulled_slip t_breaks_pulled_shear t_breaks_pulled_ahead LAP_work (fun (r3 : Int32) (t_breaks_pulled_lower_4 : Int64) (t_breaks_pulled_firstSlip_5 : Int64) (t_breaks_pulled_way_6 : Int64) (t_breaks_pulled_slip_7 : Nat → Int64) (t_breaks_pulled_shear_8 : Nat → Int64) (t_breaks_pulled_ahead_9 : Nat → Int64) (t_breaks_backUpper_10 : Int64) (t_breaks_backLower_11 : Int64) => Q r3 t_breaks_pulled_lower_4 t_breaks_pulled_firstSlip_5 t_breaks_pulled_way_6 t_breaks_pulled_slip_7 t_breaks_pulled_shear_8 t_breaks_pulled_ahead_9 t_breaks_backUpper_10 t_breaks_backLower_11)) ∧ (r1 = true → Q (-3) t_breaks_pulled_lower t_breaks_pulled_firstSlip t_breaks_pulled_way t_breaks_pulled_slip t_breaks_pulled_shear t_breaks_pulled_ahead t_breaks_backUpper t_breaks_backLower)))
theorem ddV_X9_first : yX9_first.cls = RX9 ∧ yX9_first.cls ≠ "java/lang/invoke/MethodHandle" ∧ yX9_first.cls ≠ "java/lang/invoke/VarHandle" ∧ (parseMethodDescriptor yX9_first.desc).map (fun d => d.parameters.length) = some 1 := by decide +kernel
set_option maxHeartbeats 4000000 in
set_option maxRecDepth 100000 in
theorem c_X9_first_S (l : Launch) (E : gE) (q_t q_LAP q_t_signs q_t_laps q_t_breaks q_t_fraction q_t_settings q_t_rates q_t_joints q_t_tested q_t_knocks q_t_choices q_LAP_glue q_LAP_upper q_LAP_under q_LAP_work q_LAP_wear q_LAP_cells q_t_breaks_pulled q_t_breaks_moreWear q_t_breaks_pulled_slip q_t_breaks_pulled_shear q_t_breaks_pulled_ahead : Nat) (p0 : Int32) (t_laps : Nat → Option Nat) (LAP_spots : Int32) (LAP_cure : Int32) (LAP_glue : Nat → Int32) (t_breaks_backUpper : Int64) (t_breaks_backLower : Int64) (t_breaks_pulled_lower : Int64) (t_breaks_pulled_way : Int64) (t_breaks_pulled_firstSlip : Int64) (LAP_upper : Nat → Int32) (LAP_under : Nat → Int32) (t_breaks_pulled_slip : Nat → Int64) (t_breaks_pulled_shear : Nat → Int64) (t_breaks_pulled_ahead : Nat → Int64) (LAP_work : Nat → Int32) (Q : Int32 → Int64 → Int64 → Int64 → (Nat → Int64) → (Nat → Int64) → (Nat → Int64) → Int64 → Int64 → Prop) (hw : w_X9_first_S q_LAP p0 t_laps LAP_glue t_breaks_backUpper t_breaks_backLower t_breaks_pulled_lower t_breaks_pulled_way t_breaks_pulled_firstSlip LAP_upper LAP_under t_breaks_pulled_slip t_breaks_pulled_shear t_breaks_pulled_ahead LAP_work Q) : Ct l E yX9_first wsX9_first { frames := 4, cells := 0, slots := 0, locals := 106 } [.ref q_t, .int p0] [ob 9 q_t [.ref q_t_signs, .ref q_t_laps, .ref q_t_breaks, .ref q_t_fraction, .ref q_t_settings, .ref q_t_rates, .ref q_t_joints, .ref q_t_tested, .ref q_t_knocks, .ref q_t_choices], aO E.O q_t_laps 6 t_laps, ob 5 q_LAP [.ref q_LAP_glue, .ref q_LAP_upper, .ref q_LAP_under, .ref q_LAP_work, .ref q_LAP_wear, .ref q_LAP_cells, .int LAP_spots, .int LAP_cure], aI E.I q_LAP_glue 5 LAP_glue, ob 0 q_t_breaks [.ref q_t_breaks_pulled, .ref q_t_breaks_moreWear, .long t_breaks_backUpper, .long t_breaks_backLower], ob 6 q_t_breaks_pulled [.ref q_t_breaks_pulled_slip, .ref q_t_breaks_pulled_shear, .ref q_t_breaks_pulled_ahead, .long t_breaks_pulled_lower, .long t_breaks_pulled_way, .long t_breaks_pulled_firstSlip], aI E.I q_LAP_upper 5 LAP_upper, aI E.I q_LAP_under 5 LAP_under, aJ E.J q_t_breaks_pulled_slip 5 t_breaks_pulled_slip, aJ E.J q_t_breaks_pulled_shear 5 t_breaks_pulled_shear, aJ E.J q_t_breaks_pulled_ahead 5 t_breaks_pulled_ahead, aI E.I q_LAP_work 5 LAP_work] (S := Int32 × Int64 × Int64 × Int64 × (Nat → Int64) × (Nat → Int64) × (Nat → Int64) × Int64 × Int64) (fun u => some (.int u.1)) (fun u => Q u.1 u.2.1 u.2.2.1 u.2.2.2.1 u.2.2.2.2.1 u.2.2.2.2.2.1 u.2.2.2.2.2.2.1 u.2.2.2.2.2.2.2.1 u.2.2.2.2.2.2.2.2) (fun u => [ob 9 q_t [.ref q_t_signs, .ref q_t_laps, .ref q_t_breaks, .ref q_t_fraction, .ref q_t_settings, .ref q_t_rates, .ref q_t_joints, .ref q_t_tested, .ref q_t_knocks, .ref q_t_choices], aO E.O q_t_laps 6 t_laps, ob 5 q_LAP [.ref q_LAP_glue, .ref q_LAP_upper, .ref q_LAP_under, .ref q_LAP_work, .ref q_LAP_wear, .ref q_LAP_cells, .int LAP_spots, .int LAP_cure], aI E.I q_LAP_glue 5 LAP_glue, ob 0 q_t_breaks [.ref q_t_breaks_pulled, .ref q_t_breaks_moreWear, .long u.2.2.2.2.2.2.2.1, .long u.2.2.2.2.2.2.2.2], ob 6 q_t_breaks_pulled [.ref q_t_breaks_pulled_slip, .ref q_t_breaks_pulled_shear, .ref q_t_breaks_pulled_ahead, .long u.2.1, .long u.2.2.2.1, .long u.2.2.1], aI E.I q_LAP_upper 5 LAP_upper, aI E.I q_LAP_under 5 LAP_under, aJ E.J q_t_breaks_pulled_slip 5 u.2.2.2.2.1, aJ E.J q_t_breaks_pulled_shear 5 u.2.2.2.2.2.1, aJ E.J q_t_breaks_pulled_ahead 5 u.2.2.2.2.2.2.1, aI E.I q_LAP_work 5 LAP_work]) := by
  unfold w_X9_first_S at hw
  have hinX9 : ∀ w ∈ wsX90, w ∈ wsX9_first := fun _ h => List.mem_cons_of_mem _ (List.mem_append_left _ (List.mem_append_left _ (List.mem_append_left _ (List.mem_append_right _ h))))
  refine g_start (cc := cX9_first) (nL := 3) (own := RX9) (ret := (some .int)) rfl (by decide) rfl (Nat.le_of_ble_eq_true rfl) (lv0 := [(0, .ref q_t), (1, .int p0)]) rfl (fun X C0 R1 => ?_)
  refine g_aload_n C0 dX9_first_0 0 rfl ?_
  refine g_iload_n C0 dX9_first_1 1 rfl ?_
  refine g_callV C0 (q0 := 0) (ci := 9) (c_X9_lapAt_S l E q_t q_LAP q_t_signs q_t_laps q_t_breaks q_t_fraction q_t_settings q_t_rates q_t_joints q_t_tested q_t_knocks q_t_choices p0 t_laps _ hw) dX9_first_2 gX9_first_X9_lapAt rfl ddV_X9_lapAt rfl (by decide) (by decide) rfl (Nat.le_of_ble_eq_true rfl) [0, 1] [2, 3, 4, 5, 6, 7, 8, 9, 10, 11] rfl (wr := [ob 5 q_LAP [.ref q_LAP_glue, .ref q_LAP_upper, .ref q_LAP_under, .ref q_LAP_work, .ref q_LAP_wear, .ref q_LAP_cells, .int LAP_spots, .int LAP_cure], aI E.I q_LAP_glue 5 LAP_glue, ob 0 q_t_breaks [.ref q_t_breaks_pulled, .ref q_t_breaks_moreWear, .long t_breaks_backUpper, .long t_breaks_backLower], ob 6 q_t_breaks_pulled [.ref q_t_breaks_pulled_slip, .ref q_t_breaks_pulled_shear, .ref q_t_breaks_pulled_ahead, .long t_breaks_pulled_lower, .long t_breaks_pulled_way, .long t_breaks_pulled_firstSlip], aI E.I q_LAP_upper 5 LAP_upper, aI E.I q_LAP_under 5 LAP_under, aJ E.J q_t_breaks_pulled_slip 5 t_breaks_pulled_slip, aJ E.J q_t_breaks_pulled_shear 5 t_breaks_pulled_shear, aJ E.J q_t_breaks_pulled_ahead 5 t_breaks_pulled_ahead, aI E.I q_LAP_work 5 LAP_work]) rfl (by decide) (by decide) (by decide) rfl rfl (fun u hw => ?_)
  try dsimp only at hw
  show G X E 3 [ob 5 q_LAP [.ref q_LAP_glue, .ref q_LAP_upper, .ref q_LAP_under, .ref q_LAP_work, .ref q_LAP_wear, .ref q_LAP_cells, .int LAP_spots, .int LAP_cure], aI E.I q_LAP_glue 5 LAP_glue, ob 0 q_t_breaks [.ref q_t_breaks_pulled, .ref q_t_breaks_moreWear, .long t_breaks_backUpper, .long t_breaks_backLower], ob 6 q_t_breaks_pulled [.ref q_t_breaks_pulled_slip, .ref q_t_breaks_pulled_shear, .ref q_t_breaks_pulled_ahead, .long t_breaks_pulled_lower, .long t_breaks_pulled_way, .long t_breaks_pulled_firstSlip], aI E.I q_LAP_upper 5 LAP_upper, aI E.I q_LAP_under 5 LAP_under, aJ E.J q_t_breaks_pulled_slip 5 t_breaks_pulled_slip, aJ E.J q_t_breaks_pulled_shear 5 t_breaks_pulled_shear, aJ E.J q_t_breaks_pulled_ahead 5 t_breaks_pulled_ahead, aI E.I q_LAP_work 5 LAP_work, ob 9 q_t [.ref q_t_signs, .ref q_t_laps, .ref q_t_breaks, .ref q_t_fraction, .ref q_t_settings, .ref q_t_rates, .ref q_t_joints, .ref q_t_tested, .ref q_t_knocks, .ref q_t_choices], aO E.O q_t_laps 6 t_laps] 0 0 5 [(0, .ref q_t), (1, .int p0)] [.ref q_LAP]
  refine g_astore_n C0 (lv2 := [(2, .ref q_LAP), (0, .ref q_t), (1, .int p0)]) dX9_first_5 (by decide) rfl ?_
  refine g_aload_n C0 dX9_first_6 0 rfl ?_
  refine g_ifnonnull C0 (tgt := 12) dX9_first_7 (by decide) ?_
  refine g_aload_n C0 dX9_first_12 0 rfl ?_
  refine g_callV C0 (q0 := 0) (ci := 5) (c_X5_isLoose l E q_LAP q_LAP_glue q_LAP_upper q_LAP_under q_LAP_work q_LAP_wear q_LAP_cells LAP_spots LAP_cure LAP_glue _ hw) dX9_first_13 gX9_first_X5_isLoose rfl ddV_X5_isLoose rfl (by decide) (by decide) rfl (Nat.le_of_ble_eq_true rfl) [0, 1] [2, 3, 4, 5, 6, 7, 8, 9, 10, 11] rfl (wr := [ob 0 q_t_breaks [.ref q_t_breaks_pulled, .ref q_t_breaks_moreWear, .long t_breaks_backUpper, .long t_breaks_backLower], ob 6 q_t_breaks_pulled [.ref q_t_breaks_pulled_slip, .ref q_t_breaks_pulled_shear, .ref q_t_breaks_pulled_ahead, .long t_breaks_pulled_lower, .long t_breaks_pulled_way, .long t_breaks_pulled_firstSlip], aI E.I q_LAP_upper 5 LAP_upper, aI E.I q_LAP_under 5 LAP_under, aJ E.J q_t_breaks_pulled_slip 5 t_breaks_pulled_slip, aJ E.J q_t_breaks_pulled_shear 5 t_breaks_pulled_shear, aJ E.J q_t_breaks_pulled_ahead 5 t_breaks_pulled_ahead, aI E.I q_LAP_work 5 LAP_work, ob 9 q_t [.ref q_t_signs, .ref q_t_laps, .ref q_t_breaks, .ref q_t_fraction, .ref q_t_settings, .ref q_t_rates, .ref q_t_joints, .ref q_t_tested, .ref q_t_knocks, .ref q_t_choices], aO E.O q_t_laps 6 t_laps]) rfl (by decide) (by decide) (by decide) rfl rfl (fun u hw => ?_)
  obtain ⟨r1, hu_⟩ : ∃ z, z = u := ⟨_, rfl⟩
  subst hu_
  try dsimp only at hw
  show G X E 3 [ob 0 q_t_breaks [.ref q_t_breaks_pulled, .ref q_t_breaks_moreWear, .long t_breaks_backUpper, .long t_breaks_backLower], ob 6 q_t_breaks_pulled [.ref q_t_breaks_pulled_slip, .ref q_t_breaks_pulled_shear, .ref q_t_breaks_pulled_ahead, .long t_breaks_pulled_lower, .long t_breaks_pulled_way, .long t_breaks_pulled_firstSlip], aI E.I q_LAP_upper 5 LAP_upper, aI E.I q_LAP_under 5 LAP_under, aJ E.J q_t_breaks_pulled_slip 5 t_breaks_pulled_slip, aJ E.J q_t_breaks_pulled_shear 5 t_breaks_pulled_shear, aJ E.J q_t_breaks_pulled_ahead 5 t_breaks_pulled_ahead, aI E.I q_LAP_work 5 LAP_work, ob 9 q_t [.ref q_t_signs, .ref q_t_laps, .ref q_t_breaks, .ref q_t_fraction, .ref q_t_settings, .ref q_t_rates, .ref q_t_joints, .ref q_t_tested, .ref q_t_knocks, .ref q_t_choices], aO E.O q_t_laps 6 t_laps, ob 5 q_LAP [.ref q_LAP_glue, .ref q_LAP_upper, .ref q_LAP_under, .ref q_LAP_work, .ref q_LAP_wear, .ref q_LAP_cells, .int LAP_spots, .int LAP_cure], aI E.I q_LAP_glue 5 LAP_glue] 0 0 16 [(2, .ref q_LAP), (0, .ref q_t), (1, .int p0)] [.int (bI r1)]
  refine g_ifb_eq C0 (tgt := 24) dX9_first_16 (by decide) (fun c2 => ?_) (fun c2 => ?_)
  · replace hw := hw.1 c2
    refine g_aload_n C0 dX9_first_24 1 rfl ?_
    refine g_get C0 dX9_first_25 8 rfl 2 rfl rfl hinX9 (by decide) (List.mem_of_getElem? (i := 1) rfl) rfl ?_
    refine g_aload_n C0 dX9_first_28 0 rfl ?_
    refine g_callV C0 (q0 := 0) (ci := 0) (c_X0_leastPull l E q_t_breaks q_LAP q_LAP_glue q_LAP_upper q_LAP_under q_LAP_work q_LAP_wear q_LAP_cells q_t_breaks_pulled q_t_breaks_moreWear q_t_breaks_pulled_slip q_t_breaks_pulled_shear q_t_breaks_pulled_ahead LAP_spots LAP_cure LAP_glue t_breaks_backUpper t_breaks_backLower t_breaks_pulled_lower t_breaks_pulled_way t_breaks_pulled_firstSlip LAP_upper LAP_under t_breaks_pulled_slip t_breaks_pulled_shear t_breaks_pulled_ahead LAP_work _ hw) dX9_first_29 gX9_first_X0_leastPull rfl ddV_X0_leastPull rfl (by decide) (by decide) rfl (Nat.le_of_ble_eq_true rfl) [10, 11, 0, 1, 2, 3, 4, 5, 6, 7] [8, 9] rfl (wr := [ob 9 q_t [.ref q_t_signs, .ref q_t_laps, .ref q_t_breaks, .ref q_t_fraction, .ref q_t_settings, .ref q_t_rates, .ref q_t_joints, .ref q_t_tested, .ref q_t_knocks, .ref q_t_choices], aO E.O q_t_laps 6 t_laps]) rfl (by decide) (by decide) (by decide) rfl rfl (fun u hw => ?_)
    obtain ⟨r3, t_breaks_pulled_lower_4, t_breaks_pulled_firstSlip_5, t_breaks_pulled_way_6, t_breaks_pulled_slip_7, t_breaks_pulled_shear_8, t_breaks_pulled_ahead_9, t_breaks_backUpper_10, t_breaks_backLower_11⟩ := u
    try dsimp only at hw
    show G X E 3 [ob 9 q_t [.ref q_t_signs, .ref q_t_laps, .ref q_t_breaks, .ref q_t_fraction, .ref q_t_settings, .ref q_t_rates, .ref q_t_joints, .ref q_t_tested, .ref q_t_knocks, .ref q_t_choices], aO E.O q_t_laps 6 t_laps, ob 5 q_LAP [.ref q_LAP_glue, .ref q_LAP_upper, .ref q_LAP_under, .ref q_LAP_work, .ref q_LAP_wear, .ref q_LAP_cells, .int LAP_spots, .int LAP_cure], aI E.I q_LAP_glue 5 LAP_glue, ob 0 q_t_breaks [.ref q_t_breaks_pulled, .ref q_t_breaks_moreWear, .long t_breaks_backUpper_10, .long t_breaks_backLower_11], ob 6 q_t_breaks_pulled [.ref q_t_breaks_pulled_slip, .ref q_t_breaks_pulled_shear, .ref q_t_breaks_pulled_ahead, .long t_breaks_pulled_lower_4, .long t_breaks_pulled_way_6, .long t_breaks_pulled_firstSlip_5], aI E.I q_LAP_upper 5 LAP_upper, aI E.I q_LAP_under 5 LAP_under, aJ E.J q_t_breaks_pulled_slip 5 t_breaks_pulled_slip_7, aJ E.J q_t_breaks_pulled_shear 5 t_breaks_pulled_shear_8, aJ E.J q_t_breaks_pulled_ahead 5 t_breaks_pulled_ahead_9, aI E.I q_LAP_work 5 LAP_work] 0 0 32 [(2, .ref q_LAP), (0, .ref q_t), (1, .int p0)] [.int r3]
    exact g_iret C0 R1 dX9_first_32 (r3, t_breaks_pulled_lower_4, t_breaks_pulled_firstSlip_5, t_breaks_pulled_way_6, t_breaks_pulled_slip_7, t_breaks_pulled_shear_8, t_breaks_pulled_ahead_9, t_breaks_backUpper_10, t_breaks_backLower_11) rfl hw [0, 1, 2, 3, 4, 5, 6, 7, 8, 9, 10, 11] (by decide) rfl (by decide) (by decide)
  · replace hw := hw.2 c2
    refine g_bipush C0 (v := (-3)) dX9_first_19 (by decide) ?_
    refine g_goto C0 (tgt := 32) dX9_first_21 (by decide) ?_
    exact g_iret C0 R1 dX9_first_32 ((-3), t_breaks_pulled_lower, t_breaks_pulled_firstSlip, t_breaks_pulled_way, t_breaks_pulled_slip, t_breaks_pulled_shear, t_breaks_pulled_ahead, t_breaks_backUpper, t_breaks_backLower) rfl hw [8, 9, 10, 11, 0, 1, 2, 3, 4, 5, 6, 7] (by decide) rfl (by decide) (by decide)
def w_X9_first_N (p0 : Int32) (t_laps : Nat → Option Nat) (Q : Int32 → Prop) : Prop := w_X9_lapAt_N p0 t_laps (Q (-1))
set_option maxHeartbeats 4000000 in
set_option maxRecDepth 100000 in
theorem c_X9_first_N (l : Launch) (E : gE) (q_t q_t_signs q_t_laps q_t_breaks q_t_fraction q_t_settings q_t_rates q_t_joints q_t_tested q_t_knocks q_t_choices : Nat) (p0 : Int32) (t_laps : Nat → Option Nat) (Q : Int32 → Prop) (hw : w_X9_first_N p0 t_laps Q) : Ct l E yX9_first wsX9_first { frames := 2, cells := 0, slots := 0, locals := 43 } [.ref q_t, .int p0] [ob 9 q_t [.ref q_t_signs, .ref q_t_laps, .ref q_t_breaks, .ref q_t_fraction, .ref q_t_settings, .ref q_t_rates, .ref q_t_joints, .ref q_t_tested, .ref q_t_knocks, .ref q_t_choices], aO E.O q_t_laps 6 t_laps] (S := Int32) (fun u => some (.int u)) (fun u => Q u) (fun u => [ob 9 q_t [.ref q_t_signs, .ref q_t_laps, .ref q_t_breaks, .ref q_t_fraction, .ref q_t_settings, .ref q_t_rates, .ref q_t_joints, .ref q_t_tested, .ref q_t_knocks, .ref q_t_choices], aO E.O q_t_laps 6 t_laps]) := by
  unfold w_X9_first_N at hw
  refine g_start (cc := cX9_first) (nL := 3) (own := RX9) (ret := (some .int)) rfl (by decide) rfl (Nat.le_of_ble_eq_true rfl) (lv0 := [(0, .ref q_t), (1, .int p0)]) rfl (fun X C0 R1 => ?_)
  refine g_aload_n C0 dX9_first_0 0 rfl ?_
  refine g_iload_n C0 dX9_first_1 1 rfl ?_
  refine g_callV C0 (q0 := 0) (ci := 9) (c_X9_lapAt_N l E q_t q_t_signs q_t_laps q_t_breaks q_t_fraction q_t_settings q_t_rates q_t_joints q_t_tested q_t_knocks q_t_choices p0 t_laps _ hw) dX9_first_2 gX9_first_X9_lapAt rfl ddV_X9_lapAt rfl (by decide) (by decide) rfl (Nat.le_of_ble_eq_true rfl) [0, 1] [] rfl (wr := []) rfl (by decide) (by decide) (by decide) rfl rfl (fun u hw => ?_)
  try dsimp only at hw
  show G X E 3 [ob 9 q_t [.ref q_t_signs, .ref q_t_laps, .ref q_t_breaks, .ref q_t_fraction, .ref q_t_settings, .ref q_t_rates, .ref q_t_joints, .ref q_t_tested, .ref q_t_knocks, .ref q_t_choices], aO E.O q_t_laps 6 t_laps] 0 0 5 [(0, .ref q_t), (1, .int p0)] [.null]
  refine g_astore_nN C0 (lv2 := [(2, .null), (0, .ref q_t), (1, .int p0)]) dX9_first_5 (by decide) rfl ?_
  refine g_aload_nN C0 dX9_first_6 0 rfl ?_
  refine g_ifnonnullN C0 dX9_first_7 ?_
  refine g_iconst C0 (v := (-1)) dX9_first_10 (by decide) ?_
  exact g_iret C0 R1 dX9_first_11 (-1) rfl hw [0, 1] (by decide) rfl (by decide) (by decide)
def w_X9_snap_S (q_LAP : Nat) (p0 : Int32) (p1 : Int32) (t_laps : Nat → Option Nat) (LAP_glue : Nat → Int32) (t_breaks_backUpper : Int64) (t_breaks_backLower : Int64) (t_breaks_pulled_lower : Int64) (t_breaks_pulled_way : Int64) (t_breaks_pulled_firstSlip : Int64) (LAP_upper : Nat → Int32) (LAP_under : Nat → Int32) (t_breaks_pulled_slip : Nat → Int64) (t_breaks_pulled_shear : Nat → Int64) (t_breaks_pulled_ahead : Nat → Int64) (LAP_work : Nat → Int32) (Q : Int32 → Int64 → Int64 → Int64 → (Nat → Int64) → (Nat → Int64) → (Nat → Int64) → Int64 → Int64 → (Nat → Int32) → Prop) : Prop := w_X9_lapAt_S q_LAP p0 t_laps (w_X9_refusalOfPull_S p1 true LAP_glue (fun (r1 : Int32) => (r1 = 0 → w_X0_breakBy p1 LAP_glue t_breaks_backUpper t_breaks_backLower t_breaks_pulled_lower t_breaks_pulled_way t_breaks_pulled_firstSlip LAP_upper LAP_under t_breaks_pulled_slip t_breaks_pulled_shear t_breaks_pulled_ahead LAP_work (fun (r3 : Int32) (t_breaks_pulled_lower_4 : Int64) (t_breaks_pulled_firstSlip_5 : Int64) (t_breaks_pulled_way_6 : Int64) (t_breaks_pulled_slip_7 : Nat → Int64) (t_breaks_pulled_shear_8 : Nat → Int64) (t_breaks_pulled_ahead_9 : Nat → Int64) (t_breaks_backUpper_10 : Int64) (t_breaks_backLower_11 : Int64) (LAP_glue_12 : Nat → Int32) => Q r3 t_breaks_pulled_lower_4 t_breaks_pulled_firstSlip_5 t_breaks_pulled_way_6 t_breaks_pulled_slip_7 t_breaks_pulled_shear_8 t_breaks_pulled_ahead_9 t_breaks_backUpper_10 t_breaks_backLower_11 LAP_glue_12)) ∧ (¬ r1 = 0 → Q r1 t_breaks_pulled_lower t_breaks_pulled_firstSlip t_breaks_pulled_way t_breaks_pulled_slip t_breaks_pulled_shear t_breaks_pulled_ahead t_breaks_backUpper t_breaks_backLower LAP_glue)))
theorem ddV_X9_snap : yX9_snap.cls = RX9 ∧ yX9_snap.cls ≠ "java/lang/invoke/MethodHandle" ∧ yX9_snap.cls ≠ "java/lang/invoke/VarHandle" ∧ (parseMethodDescriptor yX9_snap.desc).map (fun d => d.parameters.length) = some 2 := by decide +kernel
set_option maxHeartbeats 4000000 in
set_option maxRecDepth 100000 in
theorem c_X9_snap_S (l : Launch) (E : gE) (q_t q_LAP q_t_signs q_t_laps q_t_breaks q_t_fraction q_t_settings q_t_rates q_t_joints q_t_tested q_t_knocks q_t_choices q_LAP_glue q_LAP_upper q_LAP_under q_LAP_work q_LAP_wear q_LAP_cells q_t_breaks_pulled q_t_breaks_moreWear q_t_breaks_pulled_slip q_t_breaks_pulled_shear q_t_breaks_pulled_ahead : Nat) (p0 : Int32) (p1 : Int32) (t_laps : Nat → Option Nat) (LAP_spots : Int32) (LAP_cure : Int32) (LAP_glue : Nat → Int32) (t_breaks_backUpper : Int64) (t_breaks_backLower : Int64) (t_breaks_pulled_lower : Int64) (t_breaks_pulled_way : Int64) (t_breaks_pulled_firstSlip : Int64) (LAP_upper : Nat → Int32) (LAP_under : Nat → Int32) (t_breaks_pulled_slip : Nat → Int64) (t_breaks_pulled_shear : Nat → Int64) (t_breaks_pulled_ahead : Nat → Int64) (LAP_work : Nat → Int32) (Q : Int32 → Int64 → Int64 → Int64 → (Nat → Int64) → (Nat → Int64) → (Nat → Int64) → Int64 → Int64 → (Nat → Int32) → Prop) (hw : w_X9_snap_S q_LAP p0 p1 t_laps LAP_glue t_breaks_backUpper t_breaks_backLower t_breaks_pulled_lower t_breaks_pulled_way t_breaks_pulled_firstSlip LAP_upper LAP_under t_breaks_pulled_slip t_breaks_pulled_shear t_breaks_pulled_ahead LAP_work Q) : Ct l E yX9_snap wsX9_snap { frames := 6, cells := 0, slots := 0, locals := 154 } [.ref q_t, .int p0, .int p1] [ob 9 q_t [.ref q_t_signs, .ref q_t_laps, .ref q_t_breaks, .ref q_t_fraction, .ref q_t_settings, .ref q_t_rates, .ref q_t_joints, .ref q_t_tested, .ref q_t_knocks, .ref q_t_choices], aO E.O q_t_laps 6 t_laps, ob 5 q_LAP [.ref q_LAP_glue, .ref q_LAP_upper, .ref q_LAP_under, .ref q_LAP_work, .ref q_LAP_wear, .ref q_LAP_cells, .int LAP_spots, .int LAP_cure], aI E.I q_LAP_glue 5 LAP_glue, ob 0 q_t_breaks [.ref q_t_breaks_pulled, .ref q_t_breaks_moreWear, .long t_breaks_backUpper, .long t_breaks_backLower], ob 6 q_t_breaks_pulled [.ref q_t_breaks_pulled_slip, .ref q_t_breaks_pulled_shear, .ref q_t_breaks_pulled_ahead, .long t_breaks_pulled_lower, .long t_breaks_pulled_way, .long t_breaks_pulled_firstSlip], aI E.I q_LAP_upper 5 LAP_upper, aI E.I q_LAP_under 5 LAP_under, aJ E.J q_t_breaks_pulled_slip 5 t_breaks_pulled_slip, aJ E.J q_t_breaks_pulled_shear 5 t_breaks_pulled_shear, aJ E.J q_t_breaks_pulled_ahead 5 t_breaks_pulled_ahead, aI E.I q_LAP_work 5 LAP_work] (S := Int32 × Int64 × Int64 × Int64 × (Nat → Int64) × (Nat → Int64) × (Nat → Int64) × Int64 × Int64 × (Nat → Int32)) (fun u => some (.int u.1)) (fun u => Q u.1 u.2.1 u.2.2.1 u.2.2.2.1 u.2.2.2.2.1 u.2.2.2.2.2.1 u.2.2.2.2.2.2.1 u.2.2.2.2.2.2.2.1 u.2.2.2.2.2.2.2.2.1 u.2.2.2.2.2.2.2.2.2) (fun u => [ob 9 q_t [.ref q_t_signs, .ref q_t_laps, .ref q_t_breaks, .ref q_t_fraction, .ref q_t_settings, .ref q_t_rates, .ref q_t_joints, .ref q_t_tested, .ref q_t_knocks, .ref q_t_choices], aO E.O q_t_laps 6 t_laps, ob 5 q_LAP [.ref q_LAP_glue, .ref q_LAP_upper, .ref q_LAP_under, .ref q_LAP_work, .ref q_LAP_wear, .ref q_LAP_cells, .int LAP_spots, .int LAP_cure], aI E.I q_LAP_glue 5 u.2.2.2.2.2.2.2.2.2, ob 0 q_t_breaks [.ref q_t_breaks_pulled, .ref q_t_breaks_moreWear, .long u.2.2.2.2.2.2.2.1, .long u.2.2.2.2.2.2.2.2.1], ob 6 q_t_breaks_pulled [.ref q_t_breaks_pulled_slip, .ref q_t_breaks_pulled_shear, .ref q_t_breaks_pulled_ahead, .long u.2.1, .long u.2.2.2.1, .long u.2.2.1], aI E.I q_LAP_upper 5 LAP_upper, aI E.I q_LAP_under 5 LAP_under, aJ E.J q_t_breaks_pulled_slip 5 u.2.2.2.2.1, aJ E.J q_t_breaks_pulled_shear 5 u.2.2.2.2.2.1, aJ E.J q_t_breaks_pulled_ahead 5 u.2.2.2.2.2.2.1, aI E.I q_LAP_work 5 LAP_work]) := by
  unfold w_X9_snap_S at hw
  have hinX9 : ∀ w ∈ wsX90, w ∈ wsX9_snap := fun _ h => List.mem_cons_of_mem _ (List.mem_append_left _ (List.mem_append_left _ (List.mem_append_left _ (List.mem_append_right _ h))))
  refine g_start (cc := cX9_snap) (nL := 5) (own := RX9) (ret := (some .int)) rfl (by decide) rfl (Nat.le_of_ble_eq_true rfl) (lv0 := [(0, .ref q_t), (1, .int p0), (2, .int p1)]) rfl (fun X C0 R1 => ?_)
  refine g_aload_n C0 dX9_snap_0 0 rfl ?_
  refine g_iload_n C0 dX9_snap_1 1 rfl ?_
  refine g_callV C0 (q0 := 0) (ci := 9) (c_X9_lapAt_S l E q_t q_LAP q_t_signs q_t_laps q_t_breaks q_t_fraction q_t_settings q_t_rates q_t_joints q_t_tested q_t_knocks q_t_choices p0 t_laps _ hw) dX9_snap_2 gX9_snap_X9_lapAt rfl ddV_X9_lapAt rfl (by decide) (by decide) rfl (Nat.le_of_ble_eq_true rfl) [0, 1] [2, 3, 4, 5, 6, 7, 8, 9, 10, 11] rfl (wr := [ob 5 q_LAP [.ref q_LAP_glue, .ref q_LAP_upper, .ref q_LAP_under, .ref q_LAP_work, .ref q_LAP_wear, .ref q_LAP_cells, .int LAP_spots, .int LAP_cure], aI E.I q_LAP_glue 5 LAP_glue, ob 0 q_t_breaks [.ref q_t_breaks_pulled, .ref q_t_breaks_moreWear, .long t_breaks_backUpper, .long t_breaks_backLower], ob 6 q_t_breaks_pulled [.ref q_t_breaks_pulled_slip, .ref q_t_breaks_pulled_shear, .ref q_t_breaks_pulled_ahead, .long t_breaks_pulled_lower, .long t_breaks_pulled_way, .long t_breaks_pulled_firstSlip], aI E.I q_LAP_upper 5 LAP_upper, aI E.I q_LAP_under 5 LAP_under, aJ E.J q_t_breaks_pulled_slip 5 t_breaks_pulled_slip, aJ E.J q_t_breaks_pulled_shear 5 t_breaks_pulled_shear, aJ E.J q_t_breaks_pulled_ahead 5 t_breaks_pulled_ahead, aI E.I q_LAP_work 5 LAP_work]) rfl (by decide) (by decide) (by decide) rfl rfl (fun u hw => ?_)
  try dsimp only at hw
  show G X E 5 [ob 5 q_LAP [.ref q_LAP_glue, .ref q_LAP_upper, .ref q_LAP_under, .ref q_LAP_work, .ref q_LAP_wear, .ref q_LAP_cells, .int LAP_spots, .int LAP_cure], aI E.I q_LAP_glue 5 LAP_glue, ob 0 q_t_breaks [.ref q_t_breaks_pulled, .ref q_t_breaks_moreWear, .long t_breaks_backUpper, .long t_breaks_backLower], ob 6 q_t_breaks_pulled [.ref q_t_breaks_pulled_slip, .ref q_t_breaks_pulled_shear, .ref q_t_breaks_pulled_ahead, .long t_breaks_pulled_lower, .long t_breaks_pulled_way, .long t_breaks_pulled_firstSlip], aI E.I q_LAP_upper 5 LAP_upper, aI E.I q_LAP_under 5 LAP_under, aJ E.J q_t_breaks_pulled_slip 5 t_breaks_pulled_slip, aJ E.J q_t_breaks_pulled_shear 5 t_breaks_pulled_shear, aJ E.J q_t_breaks_pulled_ahead 5 t_breaks_pulled_ahead, aI E.I q_LAP_work 5 LAP_work, ob 9 q_t [.ref q_t_signs, .ref q_t_laps, .ref q_t_breaks, .ref q_t_fraction, .ref q_t_settings, .ref q_t_rates, .ref q_t_joints, .ref q_t_tested, .ref q_t_knocks, .ref q_t_choices], aO E.O q_t_laps 6 t_laps] 0 0 5 [(0, .ref q_t), (1, .int p0), (2, .int p1)] [.ref q_LAP]
  refine g_astore_n C0 (lv2 := [(3, .ref q_LAP), (0, .ref q_t), (1, .int p0), (2, .int p1)]) dX9_snap_5 (by decide) rfl ?_
  refine g_aload_n C0 dX9_snap_6 0 rfl ?_
  refine g_iload_n C0 dX9_snap_7 3 rfl ?_
  refine g_iconst C0 (v := 1) dX9_snap_8 (by decide) ?_
  refine g_callS C0 (c_X9_refusalOfPull_S l E q_LAP q_LAP_glue q_LAP_upper q_LAP_under q_LAP_work q_LAP_wear q_LAP_cells p1 true LAP_spots LAP_cure LAP_glue _ hw) dX9_snap_9 gX9_snap_X9_refusalOfPull rfl ddS_X9_refusalOfPull rfl (by decide) (by decide) rfl (Nat.le_of_ble_eq_true rfl) [0, 1] [2, 3, 4, 5, 6, 7, 8, 9, 10, 11] rfl (wr := [ob 0 q_t_breaks [.ref q_t_breaks_pulled, .ref q_t_breaks_moreWear, .long t_breaks_backUpper, .long t_breaks_backLower], ob 6 q_t_breaks_pulled [.ref q_t_breaks_pulled_slip, .ref q_t_breaks_pulled_shear, .ref q_t_breaks_pulled_ahead, .long t_breaks_pulled_lower, .long t_breaks_pulled_way, .long t_breaks_pulled_firstSlip], aI E.I q_LAP_upper 5 LAP_upper, aI E.I q_LAP_under 5 LAP_under, aJ E.J q_t_breaks_pulled_slip 5 t_breaks_pulled_slip, aJ E.J q_t_breaks_pulled_shear 5 t_breaks_pulled_shear, aJ E.J q_t_breaks_pulled_ahead 5 t_breaks_pulled_ahead, aI E.I q_LAP_work 5 LAP_work, ob 9 q_t [.ref q_t_signs, .ref q_t_laps, .ref q_t_breaks, .ref q_t_fraction, .ref q_t_settings, .ref q_t_rates, .ref q_t_joints, .ref q_t_tested, .ref q_t_knocks, .ref q_t_choices], aO E.O q_t_laps 6 t_laps]) rfl (by decide) (by decide) (by decide) (fun u hw => ?_)
  obtain ⟨r1, hu_⟩ : ∃ z, z = u := ⟨_, rfl⟩
  subst hu_
  try dsimp only at hw
  show G X E 5 [ob 0 q_t_breaks [.ref q_t_breaks_pulled, .ref q_t_breaks_moreWear, .long t_breaks_backUpper, .long t_breaks_backLower], ob 6 q_t_breaks_pulled [.ref q_t_breaks_pulled_slip, .ref q_t_breaks_pulled_shear, .ref q_t_breaks_pulled_ahead, .long t_breaks_pulled_lower, .long t_breaks_pulled_way, .long t_breaks_pulled_firstSlip], aI E.I q_LAP_upper 5 LAP_upper, aI E.I q_LAP_under 5 LAP_under, aJ E.J q_t_breaks_pulled_slip 5 t_breaks_pulled_slip, aJ E.J q_t_breaks_pulled_shear 5 t_breaks_pulled_shear, aJ E.J q_t_breaks_pulled_ahead 5 t_breaks_pulled_ahead, aI E.I q_LAP_work 5 LAP_work, ob 9 q_t [.ref q_t_signs, .ref q_t_laps, .ref q_t_breaks, .ref q_t_fraction, .ref q_t_settings, .ref q_t_rates, .ref q_t_joints, .ref q_t_tested, .ref q_t_knocks, .ref q_t_choices], aO E.O q_t_laps 6 t_laps, ob 5 q_LAP [.ref q_LAP_glue, .ref q_LAP_upper, .ref q_LAP_under, .ref q_LAP_work, .ref q_LAP_wear, .ref q_LAP_cells, .int LAP_spots, .int LAP_cure], aI E.I q_LAP_glue 5 LAP_glue] 0 0 12 [(3, .ref q_LAP), (0, .ref q_t), (1, .int p0), (2, .int p1)] [.int r1]
  refine g_istore C0 (lv2 := [(4, .int r1), (3, .ref q_LAP), (0, .ref q_t), (1, .int p0), (2, .int p1)]) dX9_snap_12 (by decide) rfl ?_
  refine g_iload C0 dX9_snap_14 0 rfl ?_
  refine g_if_eq C0 (tgt := 24) dX9_snap_16 (by decide) (fun c2 => ?_) (fun c2 => ?_)
  · replace hw := hw.1 c2
    refine g_aload_n C0 dX9_snap_24 2 rfl ?_
    refine g_get C0 dX9_snap_25 8 rfl 2 rfl rfl hinX9 (by decide) (List.mem_of_getElem? (i := 1) rfl) rfl ?_
    refine g_aload_n C0 dX9_snap_28 1 rfl ?_
    refine g_iload_n C0 dX9_snap_29 4 rfl ?_
    refine g_callV C0 (q0 := 0) (ci := 0) (c_X0_breakBy l E q_t_breaks q_LAP q_LAP_glue q_LAP_upper q_LAP_under q_LAP_work q_LAP_wear q_LAP_cells q_t_breaks_pulled q_t_breaks_moreWear q_t_breaks_pulled_slip q_t_breaks_pulled_shear q_t_breaks_pulled_ahead p1 LAP_spots LAP_cure LAP_glue t_breaks_backUpper t_breaks_backLower t_breaks_pulled_lower t_breaks_pulled_way t_breaks_pulled_firstSlip LAP_upper LAP_under t_breaks_pulled_slip t_breaks_pulled_shear t_breaks_pulled_ahead LAP_work _ hw) dX9_snap_30 gX9_snap_X0_breakBy rfl ddV_X0_breakBy rfl (by decide) (by decide) rfl (Nat.le_of_ble_eq_true rfl) [10, 11, 0, 1, 2, 3, 4, 5, 6, 7] [8, 9] rfl (wr := [ob 9 q_t [.ref q_t_signs, .ref q_t_laps, .ref q_t_breaks, .ref q_t_fraction, .ref q_t_settings, .ref q_t_rates, .ref q_t_joints, .ref q_t_tested, .ref q_t_knocks, .ref q_t_choices], aO E.O q_t_laps 6 t_laps]) rfl (by decide) (by decide) (by decide) rfl rfl (fun u hw => ?_)
    obtain ⟨r3, t_breaks_pulled_lower_4, t_breaks_pulled_firstSlip_5, t_breaks_pulled_way_6, t_breaks_pulled_slip_7, t_breaks_pulled_shear_8, t_breaks_pulled_ahead_9, t_breaks_backUpper_10, t_breaks_backLower_11, LAP_glue_12⟩ := u
    try dsimp only at hw
    show G X E 5 [ob 9 q_t [.ref q_t_signs, .ref q_t_laps, .ref q_t_breaks, .ref q_t_fraction, .ref q_t_settings, .ref q_t_rates, .ref q_t_joints, .ref q_t_tested, .ref q_t_knocks, .ref q_t_choices], aO E.O q_t_laps 6 t_laps, ob 5 q_LAP [.ref q_LAP_glue, .ref q_LAP_upper, .ref q_LAP_under, .ref q_LAP_work, .ref q_LAP_wear, .ref q_LAP_cells, .int LAP_spots, .int LAP_cure], aI E.I q_LAP_glue 5 LAP_glue_12, ob 0 q_t_breaks [.ref q_t_breaks_pulled, .ref q_t_breaks_moreWear, .long t_breaks_backUpper_10, .long t_breaks_backLower_11], ob 6 q_t_breaks_pulled [.ref q_t_breaks_pulled_slip, .ref q_t_breaks_pulled_shear, .ref q_t_breaks_pulled_ahead, .long t_breaks_pulled_lower_4, .long t_breaks_pulled_way_6, .long t_breaks_pulled_firstSlip_5], aI E.I q_LAP_upper 5 LAP_upper, aI E.I q_LAP_under 5 LAP_under, aJ E.J q_t_breaks_pulled_slip 5 t_breaks_pulled_slip_7, aJ E.J q_t_breaks_pulled_shear 5 t_breaks_pulled_shear_8, aJ E.J q_t_breaks_pulled_ahead 5 t_breaks_pulled_ahead_9, aI E.I q_LAP_work 5 LAP_work] 0 0 33 [(4, .int r1), (3, .ref q_LAP), (0, .ref q_t), (1, .int p0), (2, .int p1)] [.int r3]
    exact g_iret C0 R1 dX9_snap_33 (r3, t_breaks_pulled_lower_4, t_breaks_pulled_firstSlip_5, t_breaks_pulled_way_6, t_breaks_pulled_slip_7, t_breaks_pulled_shear_8, t_breaks_pulled_ahead_9, t_breaks_backUpper_10, t_breaks_backLower_11, LAP_glue_12) rfl hw [0, 1, 2, 3, 4, 5, 6, 7, 8, 9, 10, 11] (by decide) rfl (by decide) (by decide)
  · replace hw := hw.2 c2
    refine g_iload C0 dX9_snap_19 0 rfl ?_
    refine g_goto C0 (tgt := 33) dX9_snap_21 (by decide) ?_
    exact g_iret C0 R1 dX9_snap_33 (r1, t_breaks_pulled_lower, t_breaks_pulled_firstSlip, t_breaks_pulled_way, t_breaks_pulled_slip, t_breaks_pulled_shear, t_breaks_pulled_ahead, t_breaks_backUpper, t_breaks_backLower, LAP_glue) rfl hw [8, 9, 10, 11, 0, 1, 2, 3, 4, 5, 6, 7] (by decide) rfl (by decide) (by decide)
def w_X9_snap_N (p0 : Int32) (p1 : Int32) (t_laps : Nat → Option Nat) (Q : Int32 → Prop) : Prop := w_X9_lapAt_N p0 t_laps (w_X9_refusalOfPull_N p1 true (fun (r1 : Int32) => (r1 = 0 → False) ∧ (¬ r1 = 0 → Q r1)))
set_option maxHeartbeats 4000000 in
set_option maxRecDepth 100000 in
theorem c_X9_snap_N (l : Launch) (E : gE) (q_t q_t_signs q_t_laps q_t_breaks q_t_fraction q_t_settings q_t_rates q_t_joints q_t_tested q_t_knocks q_t_choices : Nat) (p0 : Int32) (p1 : Int32) (t_laps : Nat → Option Nat) (Q : Int32 → Prop) (hw : w_X9_snap_N p0 p1 t_laps Q) : Ct l E yX9_snap wsX9_snap { frames := 2, cells := 0, slots := 0, locals := 43 } [.ref q_t, .int p0, .int p1] [ob 9 q_t [.ref q_t_signs, .ref q_t_laps, .ref q_t_breaks, .ref q_t_fraction, .ref q_t_settings, .ref q_t_rates, .ref q_t_joints, .ref q_t_tested, .ref q_t_knocks, .ref q_t_choices], aO E.O q_t_laps 6 t_laps] (S := Int32) (fun u => some (.int u)) (fun u => Q u) (fun u => [ob 9 q_t [.ref q_t_signs, .ref q_t_laps, .ref q_t_breaks, .ref q_t_fraction, .ref q_t_settings, .ref q_t_rates, .ref q_t_joints, .ref q_t_tested, .ref q_t_knocks, .ref q_t_choices], aO E.O q_t_laps 6 t_laps]) := by
  unfold w_X9_snap_N at hw
  have hinX9 : ∀ w ∈ wsX90, w ∈ wsX9_snap := fun _ h => List.mem_cons_of_mem _ (List.mem_append_left _ (List.mem_append_left _ (List.mem_append_left _ (List.mem_append_right _ h))))
  refine g_start (cc := cX9_snap) (nL := 5) (own := RX9) (ret := (some .int)) rfl (by decide) rfl (Nat.le_of_ble_eq_true rfl) (lv0 := [(0, .ref q_t), (1, .int p0), (2, .int p1)]) rfl (fun X C0 R1 => ?_)
  refine g_aload_n C0 dX9_snap_0 0 rfl ?_
  refine g_iload_n C0 dX9_snap_1 1 rfl ?_
  refine g_callV C0 (q0 := 0) (ci := 9) (c_X9_lapAt_N l E q_t q_t_signs q_t_laps q_t_breaks q_t_fraction q_t_settings q_t_rates q_t_joints q_t_tested q_t_knocks q_t_choices p0 t_laps _ hw) dX9_snap_2 gX9_snap_X9_lapAt rfl ddV_X9_lapAt rfl (by decide) (by decide) rfl (Nat.le_of_ble_eq_true rfl) [0, 1] [] rfl (wr := []) rfl (by decide) (by decide) (by decide) rfl rfl (fun u hw => ?_)
  try dsimp only at hw
  show G X E 5 [ob 9 q_t [.ref q_t_signs, .ref q_t_laps, .ref q_t_breaks, .ref q_t_fraction, .ref q_t_settings, .ref q_t_rates, .ref q_t_joints, .ref q_t_tested, .ref q_t_knocks, .ref q_t_choices], aO E.O q_t_laps 6 t_laps] 0 0 5 [(0, .ref q_t), (1, .int p0), (2, .int p1)] [.null]
  refine g_astore_nN C0 (lv2 := [(3, .null), (0, .ref q_t), (1, .int p0), (2, .int p1)]) dX9_snap_5 (by decide) rfl ?_
  refine g_aload_nN C0 dX9_snap_6 0 rfl ?_
  refine g_iload_n C0 dX9_snap_7 3 rfl ?_
  refine g_iconst C0 (v := 1) dX9_snap_8 (by decide) ?_
  refine g_callS C0 (c_X9_refusalOfPull_N l E p1 true _ hw) dX9_snap_9 gX9_snap_X9_refusalOfPull rfl ddS_X9_refusalOfPull rfl (by decide) (by decide) rfl (Nat.le_of_ble_eq_true rfl) [] [0, 1] rfl (wr := [ob 9 q_t [.ref q_t_signs, .ref q_t_laps, .ref q_t_breaks, .ref q_t_fraction, .ref q_t_settings, .ref q_t_rates, .ref q_t_joints, .ref q_t_tested, .ref q_t_knocks, .ref q_t_choices], aO E.O q_t_laps 6 t_laps]) rfl (by decide) (by decide) (by decide) (fun u hw => ?_)
  obtain ⟨r1, hu_⟩ : ∃ z, z = u := ⟨_, rfl⟩
  subst hu_
  try dsimp only at hw
  show G X E 5 [ob 9 q_t [.ref q_t_signs, .ref q_t_laps, .ref q_t_breaks, .ref q_t_fraction, .ref q_t_settings, .ref q_t_rates, .ref q_t_joints, .ref q_t_tested, .ref q_t_knocks, .ref q_t_choices], aO E.O q_t_laps 6 t_laps] 0 0 12 [(3, .null), (0, .ref q_t), (1, .int p0), (2, .int p1)] [.int r1]
  refine g_istore C0 (lv2 := [(4, .int r1), (3, .null), (0, .ref q_t), (1, .int p0), (2, .int p1)]) dX9_snap_12 (by decide) rfl ?_
  refine g_iload C0 dX9_snap_14 0 rfl ?_
  refine g_if_eq C0 (tgt := 24) dX9_snap_16 (by decide) (fun c2 => ?_) (fun c2 => ?_)
  · replace hw := hw.1 c2
    refine g_aload_n C0 dX9_snap_24 2 rfl ?_
    refine g_get C0 dX9_snap_25 0 rfl 2 rfl rfl hinX9 (by decide) (List.mem_of_getElem? (i := 1) rfl) rfl ?_
    refine g_aload_nN C0 dX9_snap_28 1 rfl ?_
    refine g_iload_n C0 dX9_snap_29 4 rfl ?_
    exact hw.elim
  · replace hw := hw.2 c2
    refine g_iload C0 dX9_snap_19 0 rfl ?_
    refine g_goto C0 (tgt := 33) dX9_snap_21 (by decide) ?_
    exact g_iret C0 R1 dX9_snap_33 r1 rfl hw [0, 1] (by decide) rfl (by decide) (by decide)
def w_X9_rounds_S (q_LAP : Nat) (p0 : Int32) (p1 : Int32) (p2 : Int32) (t_laps : Nat → Option Nat) (LAP_glue : Nat → Int32) (t_settings : Nat → Int32) (t_breaks_pulled_lower : Int64) (t_breaks_pulled_way : Int64) (t_breaks_pulled_firstSlip : Int64) (LAP_upper : Nat → Int32) (LAP_under : Nat → Int32) (t_breaks_pulled_slip : Nat → Int64) (t_breaks_pulled_shear : Nat → Int64) (t_breaks_pulled_ahead : Nat → Int64) (t_breaks_moreWear : Nat → Int64) (LAP_wear : Nat → Int32) (Q : Int32 → Int64 → Int64 → Int64 → (Nat → Int64) → (Nat → Int64) → (Nat → Int64) → (Nat → Int64) → (Nat → Int32) → (Nat → Int32) → Prop) : Prop := w_X9_lapAt_S q_LAP p0 t_laps (w_X9_within p2 1 1000 (fun (r1 : Bool) => w_X9_refusalOfPull_S p1 r1 LAP_glue (fun (r2 : Int32) => (r2 = 0 → vp_in 0 8 ∧ (w_X0_wearOut p1 p2 (t_settings (Int32.toNatClampNeg 0)) t_breaks_pulled_lower t_breaks_pulled_way t_breaks_pulled_firstSlip LAP_glue LAP_upper LAP_under t_breaks_pulled_slip t_breaks_pulled_shear t_breaks_pulled_ahead t_breaks_moreWear LAP_wear (fun (r5 : Int32) (t_breaks_pulled_lower_6 : Int64) (t_breaks_pulled_firstSlip_7 : Int64) (t_breaks_pulled_way_8 : Int64) (t_breaks_pulled_slip_9 : Nat → Int64) (t_breaks_pulled_shear_10 : Nat → Int64) (t_breaks_pulled_ahead_11 : Nat → Int64) (t_breaks_moreWear_12 : Nat → Int64) (LAP_wear_13 : Nat → Int32) (LAP_glue_14 : Nat → Int32) => Q r5 t_breaks_pulled_lower_6 t_breaks_pulled_firstSlip_7 t_breaks_pulled_way_8 t_breaks_pulled_slip_9 t_breaks_pulled_shear_10 t_breaks_pulled_ahead_11 t_breaks_moreWear_12 LAP_wear_13 LAP_glue_14))) ∧ (¬ r2 = 0 → Q r2 t_breaks_pulled_lower t_breaks_pulled_firstSlip t_breaks_pulled_way t_breaks_pulled_slip t_breaks_pulled_shear t_breaks_pulled_ahead t_breaks_moreWear LAP_wear LAP_glue))))
theorem ddV_X9_rounds : yX9_rounds.cls = RX9 ∧ yX9_rounds.cls ≠ "java/lang/invoke/MethodHandle" ∧ yX9_rounds.cls ≠ "java/lang/invoke/VarHandle" ∧ (parseMethodDescriptor yX9_rounds.desc).map (fun d => d.parameters.length) = some 3 := by decide +kernel
set_option maxHeartbeats 4000000 in
set_option maxRecDepth 100000 in
theorem c_X9_rounds_S (l : Launch) (E : gE) (q_t q_LAP q_t_signs q_t_laps q_t_breaks q_t_fraction q_t_settings q_t_rates q_t_joints q_t_tested q_t_knocks q_t_choices q_LAP_glue q_LAP_upper q_LAP_under q_LAP_work q_LAP_wear q_LAP_cells q_t_breaks_pulled q_t_breaks_moreWear q_t_breaks_pulled_slip q_t_breaks_pulled_shear q_t_breaks_pulled_ahead : Nat) (p0 : Int32) (p1 : Int32) (p2 : Int32) (t_laps : Nat → Option Nat) (LAP_spots : Int32) (LAP_cure : Int32) (LAP_glue : Nat → Int32) (t_settings : Nat → Int32) (t_breaks_backUpper : Int64) (t_breaks_backLower : Int64) (t_breaks_pulled_lower : Int64) (t_breaks_pulled_way : Int64) (t_breaks_pulled_firstSlip : Int64) (LAP_upper : Nat → Int32) (LAP_under : Nat → Int32) (t_breaks_pulled_slip : Nat → Int64) (t_breaks_pulled_shear : Nat → Int64) (t_breaks_pulled_ahead : Nat → Int64) (t_breaks_moreWear : Nat → Int64) (LAP_wear : Nat → Int32) (Q : Int32 → Int64 → Int64 → Int64 → (Nat → Int64) → (Nat → Int64) → (Nat → Int64) → (Nat → Int64) → (Nat → Int32) → (Nat → Int32) → Prop) (hw : w_X9_rounds_S q_LAP p0 p1 p2 t_laps LAP_glue t_settings t_breaks_pulled_lower t_breaks_pulled_way t_breaks_pulled_firstSlip LAP_upper LAP_under t_breaks_pulled_slip t_breaks_pulled_shear t_breaks_pulled_ahead t_breaks_moreWear LAP_wear Q) : Ct l E yX9_rounds wsX9_rounds { frames := 4, cells := 0, slots := 0, locals := 107 } [.ref q_t, .int p0, .int p1, .int p2] [ob 9 q_t [.ref q_t_signs, .ref q_t_laps, .ref q_t_breaks, .ref q_t_fraction, .ref q_t_settings, .ref q_t_rates, .ref q_t_joints, .ref q_t_tested, .ref q_t_knocks, .ref q_t_choices], aO E.O q_t_laps 6 t_laps, ob 5 q_LAP [.ref q_LAP_glue, .ref q_LAP_upper, .ref q_LAP_under, .ref q_LAP_work, .ref q_LAP_wear, .ref q_LAP_cells, .int LAP_spots, .int LAP_cure], aI E.I q_LAP_glue 5 LAP_glue, aI E.I q_t_settings 8 t_settings, ob 0 q_t_breaks [.ref q_t_breaks_pulled, .ref q_t_breaks_moreWear, .long t_breaks_backUpper, .long t_breaks_backLower], ob 6 q_t_breaks_pulled [.ref q_t_breaks_pulled_slip, .ref q_t_breaks_pulled_shear, .ref q_t_breaks_pulled_ahead, .long t_breaks_pulled_lower, .long t_breaks_pulled_way, .long t_breaks_pulled_firstSlip], aI E.I q_LAP_upper 5 LAP_upper, aI E.I q_LAP_under 5 LAP_under, aJ E.J q_t_breaks_pulled_slip 5 t_breaks_pulled_slip, aJ E.J q_t_breaks_pulled_shear 5 t_breaks_pulled_shear, aJ E.J q_t_breaks_pulled_ahead 5 t_breaks_pulled_ahead, aJ E.J q_t_breaks_moreWear 5 t_breaks_moreWear, aI E.I q_LAP_wear 5 LAP_wear] (S := Int32 × Int64 × Int64 × Int64 × (Nat → Int64) × (Nat → Int64) × (Nat → Int64) × (Nat → Int64) × (Nat → Int32) × (Nat → Int32)) (fun u => some (.int u.1)) (fun u => Q u.1 u.2.1 u.2.2.1 u.2.2.2.1 u.2.2.2.2.1 u.2.2.2.2.2.1 u.2.2.2.2.2.2.1 u.2.2.2.2.2.2.2.1 u.2.2.2.2.2.2.2.2.1 u.2.2.2.2.2.2.2.2.2) (fun u => [ob 9 q_t [.ref q_t_signs, .ref q_t_laps, .ref q_t_breaks, .ref q_t_fraction, .ref q_t_settings, .ref q_t_rates, .ref q_t_joints, .ref q_t_tested, .ref q_t_knocks, .ref q_t_choices], aO E.O q_t_laps 6 t_laps, ob 5 q_LAP [.ref q_LAP_glue, .ref q_LAP_upper, .ref q_LAP_under, .ref q_LAP_work, .ref q_LAP_wear, .ref q_LAP_cells, .int LAP_spots, .int LAP_cure], aI E.I q_LAP_glue 5 u.2.2.2.2.2.2.2.2.2, aI E.I q_t_settings 8 t_settings, ob 0 q_t_breaks [.ref q_t_breaks_pulled, .ref q_t_breaks_moreWear, .long t_breaks_backUpper, .long t_breaks_backLower], ob 6 q_t_breaks_pulled [.ref q_t_breaks_pulled_slip, .ref q_t_breaks_pulled_shear, .ref q_t_breaks_pulled_ahead, .long u.2.1, .long u.2.2.2.1, .long u.2.2.1], aI E.I q_LAP_upper 5 LAP_upper, aI E.I q_LAP_under 5 LAP_under, aJ E.J q_t_breaks_pulled_slip 5 u.2.2.2.2.1, aJ E.J q_t_breaks_pulled_shear 5 u.2.2.2.2.2.1, aJ E.J q_t_breaks_pulled_ahead 5 u.2.2.2.2.2.2.1, aJ E.J q_t_breaks_moreWear 5 u.2.2.2.2.2.2.2.1, aI E.I q_LAP_wear 5 u.2.2.2.2.2.2.2.2.1]) := by
  unfold w_X9_rounds_S at hw
  have hinX9 : ∀ w ∈ wsX90, w ∈ wsX9_rounds := fun _ h => List.mem_cons_of_mem _ (List.mem_append_left _ (List.mem_append_left _ (List.mem_append_left _ (List.mem_append_right _ h))))
  refine g_start (cc := cX9_rounds) (nL := 6) (own := RX9) (ret := (some .int)) rfl (by decide) rfl (Nat.le_of_ble_eq_true rfl) (lv0 := [(0, .ref q_t), (1, .int p0), (2, .int p1), (3, .int p2)]) rfl (fun X C0 R1 => ?_)
  refine g_aload_n C0 dX9_rounds_0 0 rfl ?_
  refine g_iload_n C0 dX9_rounds_1 1 rfl ?_
  refine g_callV C0 (q0 := 0) (ci := 9) (c_X9_lapAt_S l E q_t q_LAP q_t_signs q_t_laps q_t_breaks q_t_fraction q_t_settings q_t_rates q_t_joints q_t_tested q_t_knocks q_t_choices p0 t_laps _ hw) dX9_rounds_2 gX9_rounds_X9_lapAt rfl ddV_X9_lapAt rfl (by decide) (by decide) rfl (Nat.le_of_ble_eq_true rfl) [0, 1] [2, 3, 4, 5, 6, 7, 8, 9, 10, 11, 12, 13] rfl (wr := [ob 5 q_LAP [.ref q_LAP_glue, .ref q_LAP_upper, .ref q_LAP_under, .ref q_LAP_work, .ref q_LAP_wear, .ref q_LAP_cells, .int LAP_spots, .int LAP_cure], aI E.I q_LAP_glue 5 LAP_glue, aI E.I q_t_settings 8 t_settings, ob 0 q_t_breaks [.ref q_t_breaks_pulled, .ref q_t_breaks_moreWear, .long t_breaks_backUpper, .long t_breaks_backLower], ob 6 q_t_breaks_pulled [.ref q_t_breaks_pulled_slip, .ref q_t_breaks_pulled_shear, .ref q_t_breaks_pulled_ahead, .long t_breaks_pulled_lower, .long t_breaks_pulled_way, .long t_breaks_pulled_firstSlip], aI E.I q_LAP_upper 5 LAP_upper, aI E.I q_LAP_under 5 LAP_under, aJ E.J q_t_breaks_pulled_slip 5 t_breaks_pulled_slip, aJ E.J q_t_breaks_pulled_shear 5 t_breaks_pulled_shear, aJ E.J q_t_breaks_pulled_ahead 5 t_breaks_pulled_ahead, aJ E.J q_t_breaks_moreWear 5 t_breaks_moreWear, aI E.I q_LAP_wear 5 LAP_wear]) rfl (by decide) (by decide) (by decide) rfl rfl (fun u hw => ?_)
  try dsimp only at hw
  show G X E 6 [ob 5 q_LAP [.ref q_LAP_glue, .ref q_LAP_upper, .ref q_LAP_under, .ref q_LAP_work, .ref q_LAP_wear, .ref q_LAP_cells, .int LAP_spots, .int LAP_cure], aI E.I q_LAP_glue 5 LAP_glue, aI E.I q_t_settings 8 t_settings, ob 0 q_t_breaks [.ref q_t_breaks_pulled, .ref q_t_breaks_moreWear, .long t_breaks_backUpper, .long t_breaks_backLower], ob 6 q_t_breaks_pulled [.ref q_t_breaks_pulled_slip, .ref q_t_breaks_pulled_shear, .ref q_t_breaks_pulled_ahead, .long t_breaks_pulled_lower, .long t_breaks_pulled_way, .long t_breaks_pulled_firstSlip], aI E.I q_LAP_upper 5 LAP_upper, aI E.I q_LAP_under 5 LAP_under, aJ E.J q_t_breaks_pulled_slip 5 t_breaks_pulled_slip, aJ E.J q_t_breaks_pulled_shear 5 t_breaks_pulled_shear, aJ E.J q_t_breaks_pulled_ahead 5 t_breaks_pulled_ahead, aJ E.J q_t_breaks_moreWear 5 t_breaks_moreWear, aI E.I q_LAP_wear 5 LAP_wear, ob 9 q_t [.ref q_t_signs, .ref q_t_laps, .ref q_t_breaks, .ref q_t_fraction, .ref q_t_settings, .ref q_t_rates, .ref q_t_joints, .ref q_t_tested, .ref q_t_knocks, .ref q_t_choices], aO E.O q_t_laps 6 t_laps] 0 0 5 [(0, .ref q_t), (1, .int p0), (2, .int p1), (3, .int p2)] [.ref q_LAP]
  refine g_astore C0 (lv2 := [(4, .ref q_LAP), (0, .ref q_t), (1, .int p0), (2, .int p1), (3, .int p2)]) dX9_rounds_5 (by decide) rfl ?_
  refine g_aload C0 dX9_rounds_7 0 rfl ?_
  refine g_iload_n C0 dX9_rounds_9 3 rfl ?_
  refine g_iload_n C0 dX9_rounds_10 4 rfl ?_
  refine g_iconst C0 (v := 1) dX9_rounds_11 (by decide) ?_
  refine g_sipush C0 (v := 1000) dX9_rounds_12 (by decide) ?_
  refine g_callS C0 (c_X9_within l E p2 1 1000 _ hw) dX9_rounds_15 gX9_rounds_X9_within rfl ddS_X9_within rfl (by decide) (by decide) rfl (Nat.le_of_ble_eq_true rfl) [] [0, 1, 2, 3, 4, 5, 6, 7, 8, 9, 10, 11, 12, 13] rfl (wr := [ob 5 q_LAP [.ref q_LAP_glue, .ref q_LAP_upper, .ref q_LAP_under, .ref q_LAP_work, .ref q_LAP_wear, .ref q_LAP_cells, .int LAP_spots, .int LAP_cure], aI E.I q_LAP_glue 5 LAP_glue, aI E.I q_t_settings 8 t_settings, ob 0 q_t_breaks [.ref q_t_breaks_pulled, .ref q_t_breaks_moreWear, .long t_breaks_backUpper, .long t_breaks_backLower], ob 6 q_t_breaks_pulled [.ref q_t_breaks_pulled_slip, .ref q_t_breaks_pulled_shear, .ref q_t_breaks_pulled_ahead, .long t_breaks_pulled_lower, .long t_breaks_pulled_way, .long t_breaks_pulled_firstSlip], aI E.I q_LAP_upper 5 LAP_upper, aI E.I q_LAP_under 5 LAP_under, aJ E.J q_t_breaks_pulled_slip 5 t_breaks_pulled_slip, aJ E.J q_t_breaks_pulled_shear 5 t_breaks_pulled_shear, aJ E.J q_t_breaks_pulled_ahead 5 t_breaks_pulled_ahead, aJ E.J q_t_breaks_moreWear 5 t_breaks_moreWear, aI E.I q_LAP_wear 5 LAP_wear, ob 9 q_t [.ref q_t_signs, .ref q_t_laps, .ref q_t_breaks, .ref q_t_fraction, .ref q_t_settings, .ref q_t_rates, .ref q_t_joints, .ref q_t_tested, .ref q_t_knocks, .ref q_t_choices], aO E.O q_t_laps 6 t_laps]) rfl (by decide) (by decide) (by decide) (fun u hw => ?_)
  obtain ⟨r1, hu_⟩ : ∃ z, z = u := ⟨_, rfl⟩
  subst hu_
  try dsimp only at hw
  show G X E 6 [ob 5 q_LAP [.ref q_LAP_glue, .ref q_LAP_upper, .ref q_LAP_under, .ref q_LAP_work, .ref q_LAP_wear, .ref q_LAP_cells, .int LAP_spots, .int LAP_cure], aI E.I q_LAP_glue 5 LAP_glue, aI E.I q_t_settings 8 t_settings, ob 0 q_t_breaks [.ref q_t_breaks_pulled, .ref q_t_breaks_moreWear, .long t_breaks_backUpper, .long t_breaks_backLower], ob 6 q_t_breaks_pulled [.ref q_t_breaks_pulled_slip, .ref q_t_breaks_pulled_shear, .ref q_t_breaks_pulled_ahead, .long t_breaks_pulled_lower, .long t_breaks_pulled_way, .long t_breaks_pulled_firstSlip], aI E.I q_LAP_upper 5 LAP_upper, aI E.I q_LAP_under 5 LAP_under, aJ E.J q_t_breaks_pulled_slip 5 t_breaks_pulled_slip, aJ E.J q_t_breaks_pulled_shear 5 t_breaks_pulled_shear, aJ E.J q_t_breaks_pulled_ahead 5 t_breaks_pulled_ahead, aJ E.J q_t_breaks_moreWear 5 t_breaks_moreWear, aI E.I q_LAP_wear 5 LAP_wear, ob 9 q_t [.ref q_t_signs, .ref q_t_laps, .ref q_t_breaks, .ref q_t_fraction, .ref q_t_settings, .ref q_t_rates, .ref q_t_joints, .ref q_t_tested, .ref q_t_knocks, .ref q_t_choices], aO E.O q_t_laps 6 t_laps] 0 0 18 [(4, .ref q_LAP), (0, .ref q_t), (1, .int p0), (2, .int p1), (3, .int p2)] [.int (bI r1), .int p1, .ref q_LAP]
  refine g_callS C0 (c_X9_refusalOfPull_S l E q_LAP q_LAP_glue q_LAP_upper q_LAP_under q_LAP_work q_LAP_wear q_LAP_cells p1 r1 LAP_spots LAP_cure LAP_glue _ hw) dX9_rounds_18 gX9_rounds_X9_refusalOfPull rfl ddS_X9_refusalOfPull rfl (by decide) (by decide) rfl (Nat.le_of_ble_eq_true rfl) [0, 1] [2, 3, 4, 5, 6, 7, 8, 9, 10, 11, 12, 13] rfl (wr := [aI E.I q_t_settings 8 t_settings, ob 0 q_t_breaks [.ref q_t_breaks_pulled, .ref q_t_breaks_moreWear, .long t_breaks_backUpper, .long t_breaks_backLower], ob 6 q_t_breaks_pulled [.ref q_t_breaks_pulled_slip, .ref q_t_breaks_pulled_shear, .ref q_t_breaks_pulled_ahead, .long t_breaks_pulled_lower, .long t_breaks_pulled_way, .long t_breaks_pulled_firstSlip], aI E.I q_LAP_upper 5 LAP_upper, aI E.I q_LAP_under 5 LAP_under, aJ E.J q_t_breaks_pulled_slip 5 t_breaks_pulled_slip, aJ E.J q_t_breaks_pulled_shear 5 t_breaks_pulled_shear, aJ E.J q_t_breaks_pulled_ahead 5 t_breaks_pulled_ahead, aJ E.J q_t_breaks_moreWear 5 t_breaks_moreWear, aI E.I q_LAP_wear 5 LAP_wear, ob 9 q_t [.ref q_t_signs, .ref q_t_laps, .ref q_t_breaks, .ref q_t_fraction, .ref q_t_settings, .ref q_t_rates, .ref q_t_joints, .ref q_t_tested, .ref q_t_knocks, .ref q_t_choices], aO E.O q_t_laps 6 t_laps]) rfl (by decide) (by decide) (by decide) (fun u hw => ?_)
  obtain ⟨r2, hu_⟩ : ∃ z, z = u := ⟨_, rfl⟩
  subst hu_
  try dsimp only at hw
  show G X E 6 [aI E.I q_t_settings 8 t_settings, ob 0 q_t_breaks [.ref q_t_breaks_pulled, .ref q_t_breaks_moreWear, .long t_breaks_backUpper, .long t_breaks_backLower], ob 6 q_t_breaks_pulled [.ref q_t_breaks_pulled_slip, .ref q_t_breaks_pulled_shear, .ref q_t_breaks_pulled_ahead, .long t_breaks_pulled_lower, .long t_breaks_pulled_way, .long t_breaks_pulled_firstSlip], aI E.I q_LAP_upper 5 LAP_upper, aI E.I q_LAP_under 5 LAP_under, aJ E.J q_t_breaks_pulled_slip 5 t_breaks_pulled_slip, aJ E.J q_t_breaks_pulled_shear 5 t_breaks_pulled_shear, aJ E.J q_t_breaks_pulled_ahead 5 t_breaks_pulled_ahead, aJ E.J q_t_breaks_moreWear 5 t_breaks_moreWear, aI E.I q_LAP_wear 5 LAP_wear, ob 9 q_t [.ref q_t_signs, .ref q_t_laps, .ref q_t_breaks, .ref q_t_fraction, .ref q_t_settings, .ref q_t_rates, .ref q_t_joints, .ref q_t_tested, .ref q_t_knocks, .ref q_t_choices], aO E.O q_t_laps 6 t_laps, ob 5 q_LAP [.ref q_LAP_glue, .ref q_LAP_upper, .ref q_LAP_under, .ref q_LAP_work, .ref q_LAP_wear, .ref q_LAP_cells, .int LAP_spots, .int LAP_cure], aI E.I q_LAP_glue 5 LAP_glue] 0 0 21 [(4, .ref q_LAP), (0, .ref q_t), (1, .int p0), (2, .int p1), (3, .int p2)] [.int r2]
  refine g_istore C0 (lv2 := [(5, .int r2), (4, .ref q_LAP), (0, .ref q_t), (1, .int p0), (2, .int p1), (3, .int p2)]) dX9_rounds_21 (by decide) rfl ?_
  refine g_iload C0 dX9_rounds_23 0 rfl ?_
  refine g_if_eq C0 (tgt := 33) dX9_rounds_25 (by decide) (fun c3 => ?_) (fun c3 => ?_)
  · replace hw := hw.1 c3
    refine g_aload_n C0 dX9_rounds_33 2 rfl ?_
    refine g_get C0 dX9_rounds_34 10 rfl 2 rfl rfl hinX9 (by decide) (List.mem_of_getElem? (i := 1) rfl) rfl ?_
    refine g_aload C0 dX9_rounds_37 1 rfl ?_
    refine g_iload_n C0 dX9_rounds_39 4 rfl ?_
    refine g_iload_n C0 dX9_rounds_40 5 rfl ?_
    refine g_aload_n C0 dX9_rounds_41 2 rfl ?_
    refine g_get C0 dX9_rounds_42 10 rfl 4 rfl rfl hinX9 (by decide) (List.mem_of_getElem? (i := 2) rfl) rfl ?_
    refine g_iconst C0 (v := 0) dX9_rounds_45 (by decide) ?_
    obtain ⟨h4, hw⟩ := hw
    refine g_iald C0 (cA := E.I) dX9_rounds_46 0 rfl h4 ?_
    refine g_callV C0 (q0 := 1) (ci := 0) (c_X0_wearOut l E q_t_breaks q_LAP q_t_breaks_pulled q_t_breaks_moreWear q_t_breaks_pulled_slip q_t_breaks_pulled_shear q_t_breaks_pulled_ahead q_LAP_glue q_LAP_upper q_LAP_under q_LAP_work q_LAP_wear q_LAP_cells p1 p2 (t_settings (Int32.toNatClampNeg 0)) t_breaks_backUpper t_breaks_backLower t_breaks_pulled_lower t_breaks_pulled_way t_breaks_pulled_firstSlip LAP_spots LAP_cure LAP_glue LAP_upper LAP_under t_breaks_pulled_slip t_breaks_pulled_shear t_breaks_pulled_ahead t_breaks_moreWear LAP_wear _ hw) dX9_rounds_47 gX9_rounds_X0_wearOut rfl ddV_X0_wearOut rfl (by decide) (by decide) rfl (Nat.le_of_ble_eq_true rfl) [1, 2, 12, 13, 3, 4, 5, 6, 7, 8, 9] [0, 10, 11] rfl (wr := [aI E.I q_t_settings 8 t_settings, ob 9 q_t [.ref q_t_signs, .ref q_t_laps, .ref q_t_breaks, .ref q_t_fraction, .ref q_t_settings, .ref q_t_rates, .ref q_t_joints, .ref q_t_tested, .ref q_t_knocks, .ref q_t_choices], aO E.O q_t_laps 6 t_laps]) rfl (by decide) (by decide) (by decide) rfl rfl (fun u hw => ?_)
    obtain ⟨r5, t_breaks_pulled_lower_6, t_breaks_pulled_firstSlip_7, t_breaks_pulled_way_8, t_breaks_pulled_slip_9, t_breaks_pulled_shear_10, t_breaks_pulled_ahead_11, t_breaks_moreWear_12, LAP_wear_13, LAP_glue_14⟩ := u
    try dsimp only at hw
    show G X E 6 [aI E.I q_t_settings 8 t_settings, ob 9 q_t [.ref q_t_signs, .ref q_t_laps, .ref q_t_breaks, .ref q_t_fraction, .ref q_t_settings, .ref q_t_rates, .ref q_t_joints, .ref q_t_tested, .ref q_t_knocks, .ref q_t_choices], aO E.O q_t_laps 6 t_laps, ob 0 q_t_breaks [.ref q_t_breaks_pulled, .ref q_t_breaks_moreWear, .long t_breaks_backUpper, .long t_breaks_backLower], ob 6 q_t_breaks_pulled [.ref q_t_breaks_pulled_slip, .ref q_t_breaks_pulled_shear, .ref q_t_breaks_pulled_ahead, .long t_breaks_pulled_lower_6, .long t_breaks_pulled_way_8, .long t_breaks_pulled_firstSlip_7], ob 5 q_LAP [.ref q_LAP_glue, .ref q_LAP_upper, .ref q_LAP_under, .ref q_LAP_work, .ref q_LAP_wear, .ref q_LAP_cells, .int LAP_spots, .int LAP_cure], aI E.I q_LAP_glue 5 LAP_glue_14, aI E.I q_LAP_upper 5 LAP_upper, aI E.I q_LAP_under 5 LAP_under, aJ E.J q_t_breaks_pulled_slip 5 t_breaks_pulled_slip_9, aJ E.J q_t_breaks_pulled_shear 5 t_breaks_pulled_shear_10, aJ E.J q_t_breaks_pulled_ahead 5 t_breaks_pulled_ahead_11, aJ E.J q_t_breaks_moreWear 5 t_breaks_moreWear_12, aI E.I q_LAP_wear 5 LAP_wear_13] 0 0 50 [(5, .int r2), (4, .ref q_LAP), (0, .ref q_t), (1, .int p0), (2, .int p1), (3, .int p2)] [.int r5]
    exact g_iret C0 R1 dX9_rounds_50 (r5, t_breaks_pulled_lower_6, t_breaks_pulled_firstSlip_7, t_breaks_pulled_way_8, t_breaks_pulled_slip_9, t_breaks_pulled_shear_10, t_breaks_pulled_ahead_11, t_breaks_moreWear_12, LAP_wear_13, LAP_glue_14) rfl hw [1, 2, 5, 6, 0, 3, 4, 7, 8, 9, 10, 11, 12, 13] (by decide) rfl (by decide) (by decide)
  · replace hw := hw.2 c3
    refine g_iload C0 dX9_rounds_28 0 rfl ?_
    refine g_goto C0 (tgt := 50) dX9_rounds_30 (by decide) ?_
    exact g_iret C0 R1 dX9_rounds_50 (r2, t_breaks_pulled_lower, t_breaks_pulled_firstSlip, t_breaks_pulled_way, t_breaks_pulled_slip, t_breaks_pulled_shear, t_breaks_pulled_ahead, t_breaks_moreWear, LAP_wear, LAP_glue) rfl hw [10, 11, 12, 13, 0, 1, 2, 3, 4, 5, 6, 7, 8, 9] (by decide) rfl (by decide) (by decide)
def w_X9_rounds_N (p0 : Int32) (p1 : Int32) (p2 : Int32) (t_laps : Nat → Option Nat) (Q : Int32 → Prop) : Prop := w_X9_lapAt_N p0 t_laps (w_X9_within p2 1 1000 (fun (r1 : Bool) => w_X9_refusalOfPull_N p1 r1 (fun (r2 : Int32) => (r2 = 0 → vp_in 0 8 ∧ (False)) ∧ (¬ r2 = 0 → Q r2))))
set_option maxHeartbeats 4000000 in
set_option maxRecDepth 100000 in
theorem c_X9_rounds_N (l : Launch) (E : gE) (q_t q_t_signs q_t_laps q_t_breaks q_t_fraction q_t_settings q_t_rates q_t_joints q_t_tested q_t_knocks q_t_choices : Nat) (p0 : Int32) (p1 : Int32) (p2 : Int32) (t_laps : Nat → Option Nat) (t_settings : Nat → Int32) (Q : Int32 → Prop) (hw : w_X9_rounds_N p0 p1 p2 t_laps Q) : Ct l E yX9_rounds wsX9_rounds { frames := 2, cells := 0, slots := 0, locals := 43 } [.ref q_t, .int p0, .int p1, .int p2] [ob 9 q_t [.ref q_t_signs, .ref q_t_laps, .ref q_t_breaks, .ref q_t_fraction, .ref q_t_settings, .ref q_t_rates, .ref q_t_joints, .ref q_t_tested, .ref q_t_knocks, .ref q_t_choices], aO E.O q_t_laps 6 t_laps, aI E.I q_t_settings 8 t_settings] (S := Int32) (fun u => some (.int u)) (fun u => Q u) (fun u => [ob 9 q_t [.ref q_t_signs, .ref q_t_laps, .ref q_t_breaks, .ref q_t_fraction, .ref q_t_settings, .ref q_t_rates, .ref q_t_joints, .ref q_t_tested, .ref q_t_knocks, .ref q_t_choices], aO E.O q_t_laps 6 t_laps, aI E.I q_t_settings 8 t_settings]) := by
  unfold w_X9_rounds_N at hw
  have hinX9 : ∀ w ∈ wsX90, w ∈ wsX9_rounds := fun _ h => List.mem_cons_of_mem _ (List.mem_append_left _ (List.mem_append_left _ (List.mem_append_left _ (List.mem_append_right _ h))))
  refine g_start (cc := cX9_rounds) (nL := 6) (own := RX9) (ret := (some .int)) rfl (by decide) rfl (Nat.le_of_ble_eq_true rfl) (lv0 := [(0, .ref q_t), (1, .int p0), (2, .int p1), (3, .int p2)]) rfl (fun X C0 R1 => ?_)
  refine g_aload_n C0 dX9_rounds_0 0 rfl ?_
  refine g_iload_n C0 dX9_rounds_1 1 rfl ?_
  refine g_callV C0 (q0 := 0) (ci := 9) (c_X9_lapAt_N l E q_t q_t_signs q_t_laps q_t_breaks q_t_fraction q_t_settings q_t_rates q_t_joints q_t_tested q_t_knocks q_t_choices p0 t_laps _ hw) dX9_rounds_2 gX9_rounds_X9_lapAt rfl ddV_X9_lapAt rfl (by decide) (by decide) rfl (Nat.le_of_ble_eq_true rfl) [0, 1] [2] rfl (wr := [aI E.I q_t_settings 8 t_settings]) rfl (by decide) (by decide) (by decide) rfl rfl (fun u hw => ?_)
  try dsimp only at hw
  show G X E 6 [aI E.I q_t_settings 8 t_settings, ob 9 q_t [.ref q_t_signs, .ref q_t_laps, .ref q_t_breaks, .ref q_t_fraction, .ref q_t_settings, .ref q_t_rates, .ref q_t_joints, .ref q_t_tested, .ref q_t_knocks, .ref q_t_choices], aO E.O q_t_laps 6 t_laps] 0 0 5 [(0, .ref q_t), (1, .int p0), (2, .int p1), (3, .int p2)] [.null]
  refine g_astoreN C0 (lv2 := [(4, .null), (0, .ref q_t), (1, .int p0), (2, .int p1), (3, .int p2)]) dX9_rounds_5 (by decide) rfl ?_
  refine g_aloadN C0 dX9_rounds_7 0 rfl ?_
  refine g_iload_n C0 dX9_rounds_9 3 rfl ?_
  refine g_iload_n C0 dX9_rounds_10 4 rfl ?_
  refine g_iconst C0 (v := 1) dX9_rounds_11 (by decide) ?_
  refine g_sipush C0 (v := 1000) dX9_rounds_12 (by decide) ?_
  refine g_callS C0 (c_X9_within l E p2 1 1000 _ hw) dX9_rounds_15 gX9_rounds_X9_within rfl ddS_X9_within rfl (by decide) (by decide) rfl (Nat.le_of_ble_eq_true rfl) [] [0, 1, 2] rfl (wr := [aI E.I q_t_settings 8 t_settings, ob 9 q_t [.ref q_t_signs, .ref q_t_laps, .ref q_t_breaks, .ref q_t_fraction, .ref q_t_settings, .ref q_t_rates, .ref q_t_joints, .ref q_t_tested, .ref q_t_knocks, .ref q_t_choices], aO E.O q_t_laps 6 t_laps]) rfl (by decide) (by decide) (by decide) (fun u hw => ?_)
  obtain ⟨r1, hu_⟩ : ∃ z, z = u := ⟨_, rfl⟩
  subst hu_
  try dsimp only at hw
  show G X E 6 [aI E.I q_t_settings 8 t_settings, ob 9 q_t [.ref q_t_signs, .ref q_t_laps, .ref q_t_breaks, .ref q_t_fraction, .ref q_t_settings, .ref q_t_rates, .ref q_t_joints, .ref q_t_tested, .ref q_t_knocks, .ref q_t_choices], aO E.O q_t_laps 6 t_laps] 0 0 18 [(4, .null), (0, .ref q_t), (1, .int p0), (2, .int p1), (3, .int p2)] [.int (bI r1), .int p1, .null]
  refine g_callS C0 (c_X9_refusalOfPull_N l E p1 r1 _ hw) dX9_rounds_18 gX9_rounds_X9_refusalOfPull rfl ddS_X9_refusalOfPull rfl (by decide) (by decide) rfl (Nat.le_of_ble_eq_true rfl) [] [0, 1, 2] rfl (wr := [aI E.I q_t_settings 8 t_settings, ob 9 q_t [.ref q_t_signs, .ref q_t_laps, .ref q_t_breaks, .ref q_t_fraction, .ref q_t_settings, .ref q_t_rates, .ref q_t_joints, .ref q_t_tested, .ref q_t_knocks, .ref q_t_choices], aO E.O q_t_laps 6 t_laps]) rfl (by decide) (by decide) (by decide) (fun u hw => ?_)
  obtain ⟨r2, hu_⟩ : ∃ z, z = u := ⟨_, rfl⟩
  subst hu_
  try dsimp only at hw
  show G X E 6 [aI E.I q_t_settings 8 t_settings, ob 9 q_t [.ref q_t_signs, .ref q_t_laps, .ref q_t_breaks, .ref q_t_fraction, .ref q_t_settings, .ref q_t_rates, .ref q_t_joints, .ref q_t_tested, .ref q_t_knocks, .ref q_t_choices], aO E.O q_t_laps 6 t_laps] 0 0 21 [(4, .null), (0, .ref q_t), (1, .int p0), (2, .int p1), (3, .int p2)] [.int r2]
  refine g_istore C0 (lv2 := [(5, .int r2), (4, .null), (0, .ref q_t), (1, .int p0), (2, .int p1), (3, .int p2)]) dX9_rounds_21 (by decide) rfl ?_
  refine g_iload C0 dX9_rounds_23 0 rfl ?_
  refine g_if_eq C0 (tgt := 33) dX9_rounds_25 (by decide) (fun c3 => ?_) (fun c3 => ?_)
  · replace hw := hw.1 c3
    refine g_aload_n C0 dX9_rounds_33 2 rfl ?_
    refine g_get C0 dX9_rounds_34 1 rfl 2 rfl rfl hinX9 (by decide) (List.mem_of_getElem? (i := 1) rfl) rfl ?_
    refine g_aloadN C0 dX9_rounds_37 1 rfl ?_
    refine g_iload_n C0 dX9_rounds_39 4 rfl ?_
    refine g_iload_n C0 dX9_rounds_40 5 rfl ?_
    refine g_aload_n C0 dX9_rounds_41 2 rfl ?_
    refine g_get C0 dX9_rounds_42 1 rfl 4 rfl rfl hinX9 (by decide) (List.mem_of_getElem? (i := 2) rfl) rfl ?_
    refine g_iconst C0 (v := 0) dX9_rounds_45 (by decide) ?_
    obtain ⟨h4, hw⟩ := hw
    refine g_iald C0 (cA := E.I) dX9_rounds_46 0 rfl h4 ?_
    exact hw.elim
  · replace hw := hw.2 c3
    refine g_iload C0 dX9_rounds_28 0 rfl ?_
    refine g_goto C0 (tgt := 50) dX9_rounds_30 (by decide) ?_
    exact g_iret C0 R1 dX9_rounds_50 r2 rfl hw [1, 2, 0] (by decide) rfl (by decide) (by decide)
def w_X9_damp_S (q_LAP : Nat) (p0 : Int32) (p1 : Int32) (p2 : Int32) (t_laps : Nat → Option Nat) (LAP_cells : Nat → Int32) (Q : Int32 → (Nat → Int32) → Prop) : Prop := w_X9_lapAt_S q_LAP p0 t_laps (w_X9_put p1 p2 0 1000 10 LAP_cells (fun (r1 : Int32) (LAP_cells_2 : Nat → Int32) => Q r1 LAP_cells_2))
theorem ddV_X9_damp : yX9_damp.cls = RX9 ∧ yX9_damp.cls ≠ "java/lang/invoke/MethodHandle" ∧ yX9_damp.cls ≠ "java/lang/invoke/VarHandle" ∧ (parseMethodDescriptor yX9_damp.desc).map (fun d => d.parameters.length) = some 3 := by decide +kernel
set_option maxHeartbeats 4000000 in
set_option maxRecDepth 100000 in
theorem c_X9_damp_S (l : Launch) (E : gE) (q_t q_LAP q_t_signs q_t_laps q_t_breaks q_t_fraction q_t_settings q_t_rates q_t_joints q_t_tested q_t_knocks q_t_choices q_LAP_glue q_LAP_upper q_LAP_under q_LAP_work q_LAP_wear q_LAP_cells : Nat) (p0 : Int32) (p1 : Int32) (p2 : Int32) (t_laps : Nat → Option Nat) (LAP_spots : Int32) (LAP_cure : Int32) (LAP_cells : Nat → Int32) (Q : Int32 → (Nat → Int32) → Prop) (hw : w_X9_damp_S q_LAP p0 p1 p2 t_laps LAP_cells Q) : Ct l E yX9_damp wsX9_damp { frames := 2, cells := 0, slots := 0, locals := 47 } [.ref q_t, .int p0, .int p1, .int p2] [ob 9 q_t [.ref q_t_signs, .ref q_t_laps, .ref q_t_breaks, .ref q_t_fraction, .ref q_t_settings, .ref q_t_rates, .ref q_t_joints, .ref q_t_tested, .ref q_t_knocks, .ref q_t_choices], aO E.O q_t_laps 6 t_laps, ob 5 q_LAP [.ref q_LAP_glue, .ref q_LAP_upper, .ref q_LAP_under, .ref q_LAP_work, .ref q_LAP_wear, .ref q_LAP_cells, .int LAP_spots, .int LAP_cure], aI E.I q_LAP_cells 10 LAP_cells] (S := Int32 × (Nat → Int32)) (fun u => some (.int u.1)) (fun u => Q u.1 u.2) (fun u => [ob 9 q_t [.ref q_t_signs, .ref q_t_laps, .ref q_t_breaks, .ref q_t_fraction, .ref q_t_settings, .ref q_t_rates, .ref q_t_joints, .ref q_t_tested, .ref q_t_knocks, .ref q_t_choices], aO E.O q_t_laps 6 t_laps, ob 5 q_LAP [.ref q_LAP_glue, .ref q_LAP_upper, .ref q_LAP_under, .ref q_LAP_work, .ref q_LAP_wear, .ref q_LAP_cells, .int LAP_spots, .int LAP_cure], aI E.I q_LAP_cells 10 u.2]) := by
  unfold w_X9_damp_S at hw
  have hinX5 : ∀ w ∈ wsX50, w ∈ wsX9_damp := fun _ h => List.mem_cons_of_mem _ (List.mem_append_left _ (List.mem_append_right _ h))
  refine g_start (cc := cX9_damp) (nL := 5) (own := RX9) (ret := (some .int)) rfl (by decide) rfl (Nat.le_of_ble_eq_true rfl) (lv0 := [(0, .ref q_t), (1, .int p0), (2, .int p1), (3, .int p2)]) rfl (fun X C0 R1 => ?_)
  refine g_aload_n C0 dX9_damp_0 0 rfl ?_
  refine g_iload_n C0 dX9_damp_1 1 rfl ?_
  refine g_callV C0 (q0 := 0) (ci := 9) (c_X9_lapAt_S l E q_t q_LAP q_t_signs q_t_laps q_t_breaks q_t_fraction q_t_settings q_t_rates q_t_joints q_t_tested q_t_knocks q_t_choices p0 t_laps _ hw) dX9_damp_2 gX9_damp_X9_lapAt rfl ddV_X9_lapAt rfl (by decide) (by decide) rfl (Nat.le_of_ble_eq_true rfl) [0, 1] [2, 3] rfl (wr := [ob 5 q_LAP [.ref q_LAP_glue, .ref q_LAP_upper, .ref q_LAP_under, .ref q_LAP_work, .ref q_LAP_wear, .ref q_LAP_cells, .int LAP_spots, .int LAP_cure], aI E.I q_LAP_cells 10 LAP_cells]) rfl (by decide) (by decide) (by decide) rfl rfl (fun u hw => ?_)
  try dsimp only at hw
  show G X E 5 [ob 5 q_LAP [.ref q_LAP_glue, .ref q_LAP_upper, .ref q_LAP_under, .ref q_LAP_work, .ref q_LAP_wear, .ref q_LAP_cells, .int LAP_spots, .int LAP_cure], aI E.I q_LAP_cells 10 LAP_cells, ob 9 q_t [.ref q_t_signs, .ref q_t_laps, .ref q_t_breaks, .ref q_t_fraction, .ref q_t_settings, .ref q_t_rates, .ref q_t_joints, .ref q_t_tested, .ref q_t_knocks, .ref q_t_choices], aO E.O q_t_laps 6 t_laps] 0 0 5 [(0, .ref q_t), (1, .int p0), (2, .int p1), (3, .int p2)] [.ref q_LAP]
  refine g_astore C0 (lv2 := [(4, .ref q_LAP), (0, .ref q_t), (1, .int p0), (2, .int p1), (3, .int p2)]) dX9_damp_5 (by decide) rfl ?_
  refine g_aload C0 dX9_damp_7 0 rfl ?_
  refine g_ifnonnull C0 (tgt := 16) dX9_damp_9 (by decide) ?_
  refine g_aload C0 dX9_damp_16 0 rfl ?_
  refine g_get C0 dX9_damp_18 0 rfl 5 rfl rfl hinX5 (by decide) (List.mem_of_getElem? (i := 1) rfl) rfl ?_
  refine g_iload_n C0 dX9_damp_21 3 rfl ?_
  refine g_iload_n C0 dX9_damp_22 4 rfl ?_
  refine g_iconst C0 (v := 0) dX9_damp_23 (by decide) ?_
  refine g_sipush C0 (v := 1000) dX9_damp_24 (by decide) ?_
  refine g_callS C0 (c_X9_put l E q_LAP_cells p1 p2 0 1000 10 LAP_cells _ hw) dX9_damp_27 gX9_damp_X9_put rfl ddS_X9_put rfl (by decide) (by decide) rfl (Nat.le_of_ble_eq_true rfl) [1] [0, 2, 3] rfl (wr := [ob 5 q_LAP [.ref q_LAP_glue, .ref q_LAP_upper, .ref q_LAP_under, .ref q_LAP_work, .ref q_LAP_wear, .ref q_LAP_cells, .int LAP_spots, .int LAP_cure], ob 9 q_t [.ref q_t_signs, .ref q_t_laps, .ref q_t_breaks, .ref q_t_fraction, .ref q_t_settings, .ref q_t_rates, .ref q_t_joints, .ref q_t_tested, .ref q_t_knocks, .ref q_t_choices], aO E.O q_t_laps 6 t_laps]) rfl (by decide) (by decide) (by decide) (fun u hw => ?_)
  obtain ⟨r1, LAP_cells_2⟩ := u
  try dsimp only at hw
  show G X E 5 [ob 5 q_LAP [.ref q_LAP_glue, .ref q_LAP_upper, .ref q_LAP_under, .ref q_LAP_work, .ref q_LAP_wear, .ref q_LAP_cells, .int LAP_spots, .int LAP_cure], ob 9 q_t [.ref q_t_signs, .ref q_t_laps, .ref q_t_breaks, .ref q_t_fraction, .ref q_t_settings, .ref q_t_rates, .ref q_t_joints, .ref q_t_tested, .ref q_t_knocks, .ref q_t_choices], aO E.O q_t_laps 6 t_laps, aI E.I q_LAP_cells 10 LAP_cells_2] 0 0 30 [(4, .ref q_LAP), (0, .ref q_t), (1, .int p0), (2, .int p1), (3, .int p2)] [.int r1]
  exact g_iret C0 R1 dX9_damp_30 (r1, LAP_cells_2) rfl hw [1, 2, 0, 3] (by decide) rfl (by decide) (by decide)
def w_X9_damp_N (p0 : Int32) (p1 : Int32) (p2 : Int32) (t_laps : Nat → Option Nat) (Q : Int32 → Prop) : Prop := w_X9_lapAt_N p0 t_laps (Q (-1))
set_option maxHeartbeats 4000000 in
set_option maxRecDepth 100000 in
theorem c_X9_damp_N (l : Launch) (E : gE) (q_t q_t_signs q_t_laps q_t_breaks q_t_fraction q_t_settings q_t_rates q_t_joints q_t_tested q_t_knocks q_t_choices : Nat) (p0 : Int32) (p1 : Int32) (p2 : Int32) (t_laps : Nat → Option Nat) (Q : Int32 → Prop) (hw : w_X9_damp_N p0 p1 p2 t_laps Q) : Ct l E yX9_damp wsX9_damp { frames := 2, cells := 0, slots := 0, locals := 43 } [.ref q_t, .int p0, .int p1, .int p2] [ob 9 q_t [.ref q_t_signs, .ref q_t_laps, .ref q_t_breaks, .ref q_t_fraction, .ref q_t_settings, .ref q_t_rates, .ref q_t_joints, .ref q_t_tested, .ref q_t_knocks, .ref q_t_choices], aO E.O q_t_laps 6 t_laps] (S := Int32) (fun u => some (.int u)) (fun u => Q u) (fun u => [ob 9 q_t [.ref q_t_signs, .ref q_t_laps, .ref q_t_breaks, .ref q_t_fraction, .ref q_t_settings, .ref q_t_rates, .ref q_t_joints, .ref q_t_tested, .ref q_t_knocks, .ref q_t_choices], aO E.O q_t_laps 6 t_laps]) := by
  unfold w_X9_damp_N at hw
  refine g_start (cc := cX9_damp) (nL := 5) (own := RX9) (ret := (some .int)) rfl (by decide) rfl (Nat.le_of_ble_eq_true rfl) (lv0 := [(0, .ref q_t), (1, .int p0), (2, .int p1), (3, .int p2)]) rfl (fun X C0 R1 => ?_)
  refine g_aload_n C0 dX9_damp_0 0 rfl ?_
  refine g_iload_n C0 dX9_damp_1 1 rfl ?_
  refine g_callV C0 (q0 := 0) (ci := 9) (c_X9_lapAt_N l E q_t q_t_signs q_t_laps q_t_breaks q_t_fraction q_t_settings q_t_rates q_t_joints q_t_tested q_t_knocks q_t_choices p0 t_laps _ hw) dX9_damp_2 gX9_damp_X9_lapAt rfl ddV_X9_lapAt rfl (by decide) (by decide) rfl (Nat.le_of_ble_eq_true rfl) [0, 1] [] rfl (wr := []) rfl (by decide) (by decide) (by decide) rfl rfl (fun u hw => ?_)
  try dsimp only at hw
  show G X E 5 [ob 9 q_t [.ref q_t_signs, .ref q_t_laps, .ref q_t_breaks, .ref q_t_fraction, .ref q_t_settings, .ref q_t_rates, .ref q_t_joints, .ref q_t_tested, .ref q_t_knocks, .ref q_t_choices], aO E.O q_t_laps 6 t_laps] 0 0 5 [(0, .ref q_t), (1, .int p0), (2, .int p1), (3, .int p2)] [.null]
  refine g_astoreN C0 (lv2 := [(4, .null), (0, .ref q_t), (1, .int p0), (2, .int p1), (3, .int p2)]) dX9_damp_5 (by decide) rfl ?_
  refine g_aloadN C0 dX9_damp_7 0 rfl ?_
  refine g_ifnonnullN C0 dX9_damp_9 ?_
  refine g_iconst C0 (v := (-1)) dX9_damp_12 (by decide) ?_
  refine g_goto C0 (tgt := 30) dX9_damp_13 (by decide) ?_
  exact g_iret C0 R1 dX9_damp_30 (-1) rfl hw [0, 1] (by decide) rfl (by decide) (by decide)
def w_X9_hours_S (q_LAP : Nat) (p0 : Int32) (p1 : Int32) (t_laps : Nat → Option Nat) (t_settings : Nat → Int32) (t_rates : Nat → Int32) (LAP_cure : Int32) (LAP_cells : Nat → Int32) (Q : Int32 → (Nat → Int32) → Int32 → Prop) : Prop := w_X9_lapAt_S q_LAP p0 t_laps (w_X9_within p1 1 1000 (fun (r1 : Bool) => (r1 = true → vp_in 3 8 ∧ (∀ x4_4 : Int32, x4_4 = ((t_settings (Int32.toNatClampNeg 3)) / 10) → (w_X9_within x4_4 0 (5 - 1) (fun (r5 : Bool) => wj1 (fun (J7 : Int32 → Prop) => (r5 = false → J7 0) ∧ (r5 = true → vp_in x4_4 5 ∧ (J7 (t_rates (Int32.toNatClampNeg x4_4))))) (fun (w6 : Int32) => ∃ n18 : Nat, wL3 (fun (K11 : Int32 → (Nat → Int32) → Int32 → Prop) (x6_8 : Int32) (LAP_cells_9 : Nat → Int32) (LAP_cure_10 : Int32) => (p1 ≤ x6_8 → Q LAP_cure_10 LAP_cells_9 LAP_cure_10) ∧ (¬ p1 ≤ x6_8 → vp_in 1 8 ∧ (vp_in 2 8 ∧ (w_X5_soak (t_settings (Int32.toNatClampNeg 1)) (t_settings (Int32.toNatClampNeg 2)) LAP_cells_9 (fun (LAP_cells_15 : Nat → Int32) => w_X5_cureBy w6 LAP_cure_10 (fun (LAP_cure_16 : Int32) => ∀ x6_17 : Int32, x6_17 = (x6_8 + 1) → (K11 x6_17 LAP_cells_15 LAP_cure_16))))))) n18 0 LAP_cells LAP_cure))))) ∧ (r1 = false → Q (-2) LAP_cells LAP_cure)))
theorem ddV_X9_hours : yX9_hours.cls = RX9 ∧ yX9_hours.cls ≠ "java/lang/invoke/MethodHandle" ∧ yX9_hours.cls ≠ "java/lang/invoke/VarHandle" ∧ (parseMethodDescriptor yX9_hours.desc).map (fun d => d.parameters.length) = some 2 := by decide +kernel
set_option maxHeartbeats 4000000 in
set_option maxRecDepth 100000 in
theorem c_X9_hours_S (l : Launch) (E : gE) (q_t q_LAP q_t_signs q_t_laps q_t_breaks q_t_fraction q_t_settings q_t_rates q_t_joints q_t_tested q_t_knocks q_t_choices q_LAP_glue q_LAP_upper q_LAP_under q_LAP_work q_LAP_wear q_LAP_cells : Nat) (p0 : Int32) (p1 : Int32) (t_laps : Nat → Option Nat) (t_settings : Nat → Int32) (t_rates : Nat → Int32) (LAP_spots : Int32) (LAP_cure : Int32) (LAP_cells : Nat → Int32) (Q : Int32 → (Nat → Int32) → Int32 → Prop) (hw : w_X9_hours_S q_LAP p0 p1 t_laps t_settings t_rates LAP_cure LAP_cells Q) : Ct l E yX9_hours wsX9_hours { frames := 2, cells := 0, slots := 0, locals := 43 } [.ref q_t, .int p0, .int p1] [ob 9 q_t [.ref q_t_signs, .ref q_t_laps, .ref q_t_breaks, .ref q_t_fraction, .ref q_t_settings, .ref q_t_rates, .ref q_t_joints, .ref q_t_tested, .ref q_t_knocks, .ref q_t_choices], aO E.O q_t_laps 6 t_laps, aI E.I q_t_settings 8 t_settings, aI E.I q_t_rates 5 t_rates, ob 5 q_LAP [.ref q_LAP_glue, .ref q_LAP_upper, .ref q_LAP_under, .ref q_LAP_work, .ref q_LAP_wear, .ref q_LAP_cells, .int LAP_spots, .int LAP_cure], aI E.I q_LAP_cells 10 LAP_cells] (S := Int32 × (Nat → Int32) × Int32) (fun u => some (.int u.1)) (fun u => Q u.1 u.2.1 u.2.2) (fun u => [ob 9 q_t [.ref q_t_signs, .ref q_t_laps, .ref q_t_breaks, .ref q_t_fraction, .ref q_t_settings, .ref q_t_rates, .ref q_t_joints, .ref q_t_tested, .ref q_t_knocks, .ref q_t_choices], aO E.O q_t_laps 6 t_laps, aI E.I q_t_settings 8 t_settings, aI E.I q_t_rates 5 t_rates, ob 5 q_LAP [.ref q_LAP_glue, .ref q_LAP_upper, .ref q_LAP_under, .ref q_LAP_work, .ref q_LAP_wear, .ref q_LAP_cells, .int LAP_spots, .int u.2.2], aI E.I q_LAP_cells 10 u.2.1]) := by
  unfold w_X9_hours_S at hw
  have hinX5 : ∀ w ∈ wsX50, w ∈ wsX9_hours := fun _ h => List.mem_cons_of_mem _ (List.mem_append_right _ h)
  have hinX9 : ∀ w ∈ wsX90, w ∈ wsX9_hours := fun _ h => List.mem_cons_of_mem _ (List.mem_append_left _ (List.mem_append_right _ h))
  refine g_start (cc := cX9_hours) (nL := 7) (own := RX9) (ret := (some .int)) rfl (by decide) rfl (Nat.le_of_ble_eq_true rfl) (lv0 := [(0, .ref q_t), (1, .int p0), (2, .int p1)]) rfl (fun X C0 R1 => ?_)
  refine g_aload_n C0 dX9_hours_0 0 rfl ?_
  refine g_iload_n C0 dX9_hours_1 1 rfl ?_
  refine g_callV C0 (q0 := 0) (ci := 9) (c_X9_lapAt_S l E q_t q_LAP q_t_signs q_t_laps q_t_breaks q_t_fraction q_t_settings q_t_rates q_t_joints q_t_tested q_t_knocks q_t_choices p0 t_laps _ hw) dX9_hours_2 gX9_hours_X9_lapAt rfl ddV_X9_lapAt rfl (by decide) (by decide) rfl (Nat.le_of_ble_eq_true rfl) [0, 1] [2, 3, 4, 5] rfl (wr := [aI E.I q_t_settings 8 t_settings, aI E.I q_t_rates 5 t_rates, ob 5 q_LAP [.ref q_LAP_glue, .ref q_LAP_upper, .ref q_LAP_under, .ref q_LAP_work, .ref q_LAP_wear, .ref q_LAP_cells, .int LAP_spots, .int LAP_cure], aI E.I q_LAP_cells 10 LAP_cells]) rfl (by decide) (by decide) (by decide) rfl rfl (fun u hw => ?_)
  try dsimp only at hw
  show G X E 7 [aI E.I q_t_settings 8 t_settings, aI E.I q_t_rates 5 t_rates, ob 5 q_LAP [.ref q_LAP_glue, .ref q_LAP_upper, .ref q_LAP_under, .ref q_LAP_work, .ref q_LAP_wear, .ref q_LAP_cells, .int LAP_spots, .int LAP_cure], aI E.I q_LAP_cells 10 LAP_cells, ob 9 q_t [.ref q_t_signs, .ref q_t_laps, .ref q_t_breaks, .ref q_t_fraction, .ref q_t_settings, .ref q_t_rates, .ref q_t_joints, .ref q_t_tested, .ref q_t_knocks, .ref q_t_choices], aO E.O q_t_laps 6 t_laps] 0 0 5 [(0, .ref q_t), (1, .int p0), (2, .int p1)] [.ref q_LAP]
  refine g_astore_n C0 (lv2 := [(3, .ref q_LAP), (0, .ref q_t), (1, .int p0), (2, .int p1)]) dX9_hours_5 (by decide) rfl ?_
  refine g_aload_n C0 dX9_hours_6 0 rfl ?_
  refine g_ifnonnull C0 (tgt := 12) dX9_hours_7 (by decide) ?_
  refine g_iload_n C0 dX9_hours_12 3 rfl ?_
  refine g_iconst C0 (v := 1) dX9_hours_13 (by decide) ?_
  refine g_sipush C0 (v := 1000) dX9_hours_14 (by decide) ?_
  refine g_callS C0 (c_X9_within l E p1 1 1000 _ hw) dX9_hours_17 gX9_hours_X9_within rfl ddS_X9_within rfl (by decide) (by decide) rfl (Nat.le_of_ble_eq_true rfl) [] [0, 1, 2, 3, 4, 5] rfl (wr := [aI E.I q_t_settings 8 t_settings, aI E.I q_t_rates 5 t_rates, ob 5 q_LAP [.ref q_LAP_glue, .ref q_LAP_upper, .ref q_LAP_under, .ref q_LAP_work, .ref q_LAP_wear, .ref q_LAP_cells, .int LAP_spots, .int LAP_cure], aI E.I q_LAP_cells 10 LAP_cells, ob 9 q_t [.ref q_t_signs, .ref q_t_laps, .ref q_t_breaks, .ref q_t_fraction, .ref q_t_settings, .ref q_t_rates, .ref q_t_joints, .ref q_t_tested, .ref q_t_knocks, .ref q_t_choices], aO E.O q_t_laps 6 t_laps]) rfl (by decide) (by decide) (by decide) (fun u hw => ?_)
  obtain ⟨r1, hu_⟩ : ∃ z, z = u := ⟨_, rfl⟩
  subst hu_
  try dsimp only at hw
  show G X E 7 [aI E.I q_t_settings 8 t_settings, aI E.I q_t_rates 5 t_rates, ob 5 q_LAP [.ref q_LAP_glue, .ref q_LAP_upper, .ref q_LAP_under, .ref q_LAP_work, .ref q_LAP_wear, .ref q_LAP_cells, .int LAP_spots, .int LAP_cure], aI E.I q_LAP_cells 10 LAP_cells, ob 9 q_t [.ref q_t_signs, .ref q_t_laps, .ref q_t_breaks, .ref q_t_fraction, .ref q_t_settings, .ref q_t_rates, .ref q_t_joints, .ref q_t_tested, .ref q_t_knocks, .ref q_t_choices], aO E.O q_t_laps 6 t_laps] 0 0 20 [(3, .ref q_LAP), (0, .ref q_t), (1, .int p0), (2, .int p1)] [.int (bI r1)]
  refine g_ifb_ne C0 (tgt := 26) dX9_hours_20 (by decide) (fun c2 => ?_) (fun c2 => ?_)
  · replace hw := hw.1 c2
    refine g_aload_n C0 dX9_hours_26 1 rfl ?_
    refine g_get C0 dX9_hours_27 4 rfl 4 rfl rfl hinX9 (by decide) (List.mem_of_getElem? (i := 1) rfl) rfl ?_
    refine g_iconst C0 (v := 3) dX9_hours_30 (by decide) ?_
    obtain ⟨h3, hw⟩ := hw
    refine g_iald C0 (cA := E.I) dX9_hours_31 0 rfl h3 ?_
    refine g_bipush C0 (v := 10) dX9_hours_32 (by decide) ?_
    refine g_idiv C0 dX9_hours_34 (by decide) ?_
    refine g_topi (fun x4_4 ex4_4 => ?_)
    replace hw := hw x4_4 ex4_4
    refine g_istore C0 (lv2 := [(4, .int x4_4), (3, .ref q_LAP), (0, .ref q_t), (1, .int p0), (2, .int p1)]) dX9_hours_35 (by decide) rfl ?_
    refine g_iload C0 dX9_hours_37 0 rfl ?_
    refine g_iconst C0 (v := 0) dX9_hours_39 (by decide) ?_
    refine g_aload_n C0 dX9_hours_40 2 rfl ?_
    refine g_get C0 dX9_hours_41 4 rfl 5 rfl rfl hinX9 (by decide) (List.mem_of_getElem? (i := 2) rfl) rfl ?_
    refine g_alen C0 (v := 5) dX9_hours_44 1 0 rfl rfl rfl ?_
    refine g_iconst C0 (v := 1) dX9_hours_45 (by decide) ?_
    refine g_isub C0 dX9_hours_46 ?_
    refine g_callS C0 (c_X9_within l E x4_4 0 (5 - 1) _ hw) dX9_hours_47 gX9_hours_X9_within rfl ddS_X9_within rfl (by decide) (by decide) rfl (Nat.le_of_ble_eq_true rfl) [] [0, 1, 2, 3, 4, 5] rfl (wr := [aI E.I q_t_settings 8 t_settings, aI E.I q_t_rates 5 t_rates, ob 5 q_LAP [.ref q_LAP_glue, .ref q_LAP_upper, .ref q_LAP_under, .ref q_LAP_work, .ref q_LAP_wear, .ref q_LAP_cells, .int LAP_spots, .int LAP_cure], aI E.I q_LAP_cells 10 LAP_cells, ob 9 q_t [.ref q_t_signs, .ref q_t_laps, .ref q_t_breaks, .ref q_t_fraction, .ref q_t_settings, .ref q_t_rates, .ref q_t_joints, .ref q_t_tested, .ref q_t_knocks, .ref q_t_choices], aO E.O q_t_laps 6 t_laps]) rfl (by decide) (by decide) (by decide) (fun u hw => ?_)
    obtain ⟨r5, hu_⟩ : ∃ z, z = u := ⟨_, rfl⟩
    subst hu_
    try dsimp only at hw
    show G X E 7 [aI E.I q_t_settings 8 t_settings, aI E.I q_t_rates 5 t_rates, ob 5 q_LAP [.ref q_LAP_glue, .ref q_LAP_upper, .ref q_LAP_under, .ref q_LAP_work, .ref q_LAP_wear, .ref q_LAP_cells, .int LAP_spots, .int LAP_cure], aI E.I q_LAP_cells 10 LAP_cells, ob 9 q_t [.ref q_t_signs, .ref q_t_laps, .ref q_t_breaks, .ref q_t_fraction, .ref q_t_settings, .ref q_t_rates, .ref q_t_joints, .ref q_t_tested, .ref q_t_knocks, .ref q_t_choices], aO E.O q_t_laps 6 t_laps] 0 0 50 [(4, .int x4_4), (3, .ref q_LAP), (0, .ref q_t), (1, .int p0), (2, .int p1)] [.int (bI r5)]
    refine wj1_go (P := fun (w6 : Int32) => G X E 7 [ob 9 q_t [.ref q_t_signs, .ref q_t_laps, .ref q_t_breaks, .ref q_t_fraction, .ref q_t_settings, .ref q_t_rates, .ref q_t_joints, .ref q_t_tested, .ref q_t_knocks, .ref q_t_choices], aO E.O q_t_laps 6 t_laps, aI E.I q_t_settings 8 t_settings, aI E.I q_t_rates 5 t_rates, ob 5 q_LAP [.ref q_LAP_glue, .ref q_LAP_upper, .ref q_LAP_under, .ref q_LAP_work, .ref q_LAP_wear, .ref q_LAP_cells, .int LAP_spots, .int LAP_cure], aI E.I q_LAP_cells 10 LAP_cells] 0 0 64 [(0, .ref q_t), (2, .int p1), (3, .ref q_LAP)] [.int w6]) hw (fun w6 hw => ?_) (fun J7 hJ7 hw => ?_)
    · refine g_istore C0 (lv2 := [(5, .int w6), (0, .ref q_t), (2, .int p1), (3, .ref q_LAP)]) dX9_hours_64 (by decide) rfl ?_
      refine g_iconst C0 (v := 0) dX9_hours_66 (by decide) ?_
      refine g_istore C0 (lv2 := [(6, .int 0), (5, .int w6), (0, .ref q_t), (2, .int p1), (3, .ref q_LAP)]) dX9_hours_67 (by decide) rfl ?_
      refine g_lv [2, 3, 4, 1, 0] (lv2 := [(0, .ref q_t), (2, .int p1), (3, .ref q_LAP), (5, .int w6), (6, .int 0)]) rfl ?_
      obtain ⟨n18, hw⟩ := hw
      refine wL3_go (P := fun (x6_8 : Int32) (LAP_cells_9 : Nat → Int32) (LAP_cure_10 : Int32) => G X E 7 [ob 9 q_t [.ref q_t_signs, .ref q_t_laps, .ref q_t_breaks, .ref q_t_fraction, .ref q_t_settings, .ref q_t_rates, .ref q_t_joints, .ref q_t_tested, .ref q_t_knocks, .ref q_t_choices], aO E.O q_t_laps 6 t_laps, aI E.I q_t_settings 8 t_settings, aI E.I q_t_rates 5 t_rates, ob 5 q_LAP [.ref q_LAP_glue, .ref q_LAP_upper, .ref q_LAP_under, .ref q_LAP_work, .ref q_LAP_wear, .ref q_LAP_cells, .int LAP_spots, .int LAP_cure_10], aI E.I q_LAP_cells 10 LAP_cells_9] 0 0 69 [(0, .ref q_t), (2, .int p1), (3, .ref q_LAP), (5, .int w6), (6, .int x6_8)] []) (fun K11 hK11 x6_8 LAP_cells_9 LAP_cure_10 hw => ?_) n18 _ _ _ hw
      refine g_iload C0 dX9_hours_69 4 rfl ?_
      refine g_iload_n C0 dX9_hours_71 1 rfl ?_
      refine g_icmp_ge C0 (tgt := 103) dX9_hours_72 (by decide) (fun c12 => ?_) (fun c12 => ?_)
      · replace hw := hw.1 c12
        refine g_aload_n C0 dX9_hours_103 2 rfl ?_
        refine g_get C0 dX9_hours_104 4 rfl 7 rfl rfl hinX5 (by decide) (List.mem_of_getElem? (i := 3) rfl) rfl ?_
        exact g_iret C0 R1 dX9_hours_107 (LAP_cure_10, LAP_cells_9, LAP_cure_10) rfl hw [0, 1, 2, 3, 4, 5] (by decide) rfl (by decide) (by decide)
      · replace hw := hw.2 c12
        refine g_aload_n C0 dX9_hours_75 2 rfl ?_
        refine g_aload_n C0 dX9_hours_76 0 rfl ?_
        refine g_get C0 dX9_hours_77 0 rfl 4 rfl rfl hinX9 (by decide) (List.mem_of_getElem? (i := 1) rfl) rfl ?_
        refine g_iconst C0 (v := 1) dX9_hours_80 (by decide) ?_
        obtain ⟨h13, hw⟩ := hw
        refine g_iald C0 (cA := E.I) dX9_hours_81 2 rfl h13 ?_
        refine g_aload_n C0 dX9_hours_82 0 rfl ?_
        refine g_get C0 dX9_hours_83 0 rfl 4 rfl rfl hinX9 (by decide) (List.mem_of_getElem? (i := 1) rfl) rfl ?_
        refine g_iconst C0 (v := 2) dX9_hours_86 (by decide) ?_
        obtain ⟨h14, hw⟩ := hw
        refine g_iald C0 (cA := E.I) dX9_hours_87 2 rfl h14 ?_
        refine g_callV C0 (q0 := 4) (ci := 5) (c_X5_soak l E q_LAP q_LAP_glue q_LAP_upper q_LAP_under q_LAP_work q_LAP_wear q_LAP_cells (t_settings (Int32.toNatClampNeg 1)) (t_settings (Int32.toNatClampNeg 2)) LAP_spots LAP_cure_10 LAP_cells_9 _ hw) dX9_hours_88 gX9_hours_X5_soak rfl ddV_X5_soak rfl (by decide) (by decide) rfl (Nat.le_of_ble_eq_true rfl) [4, 5] [0, 1, 2, 3] rfl (wr := [ob 9 q_t [.ref q_t_signs, .ref q_t_laps, .ref q_t_breaks, .ref q_t_fraction, .ref q_t_settings, .ref q_t_rates, .ref q_t_joints, .ref q_t_tested, .ref q_t_knocks, .ref q_t_choices], aO E.O q_t_laps 6 t_laps, aI E.I q_t_settings 8 t_settings, aI E.I q_t_rates 5 t_rates]) rfl (by decide) (by decide) (by decide) rfl rfl (fun u hw => ?_)
        obtain ⟨LAP_cells_15, hu_⟩ : ∃ z, z = u := ⟨_, rfl⟩
        subst hu_
        try dsimp only at hw
        show G X E 7 [ob 9 q_t [.ref q_t_signs, .ref q_t_laps, .ref q_t_breaks, .ref q_t_fraction, .ref q_t_settings, .ref q_t_rates, .ref q_t_joints, .ref q_t_tested, .ref q_t_knocks, .ref q_t_choices], aO E.O q_t_laps 6 t_laps, aI E.I q_t_settings 8 t_settings, aI E.I q_t_rates 5 t_rates, ob 5 q_LAP [.ref q_LAP_glue, .ref q_LAP_upper, .ref q_LAP_under, .ref q_LAP_work, .ref q_LAP_wear, .ref q_LAP_cells, .int LAP_spots, .int LAP_cure_10], aI E.I q_LAP_cells 10 LAP_cells_15] 0 0 91 [(0, .ref q_t), (2, .int p1), (3, .ref q_LAP), (5, .int w6), (6, .int x6_8)] []
        refine g_aload_n C0 dX9_hours_91 2 rfl ?_
        refine g_iload C0 dX9_hours_92 3 rfl ?_
        refine g_callV C0 (q0 := 4) (ci := 5) (c_X5_cureBy l E q_LAP q_LAP_glue q_LAP_upper q_LAP_under q_LAP_work q_LAP_wear q_LAP_cells w6 LAP_spots LAP_cure_10 _ hw) dX9_hours_94 gX9_hours_X5_cureBy rfl ddV_X5_cureBy rfl (by decide) (by decide) rfl (Nat.le_of_ble_eq_true rfl) [4] [0, 1, 2, 3, 5] rfl (wr := [ob 9 q_t [.ref q_t_signs, .ref q_t_laps, .ref q_t_breaks, .ref q_t_fraction, .ref q_t_settings, .ref q_t_rates, .ref q_t_joints, .ref q_t_tested, .ref q_t_knocks, .ref q_t_choices], aO E.O q_t_laps 6 t_laps, aI E.I q_t_settings 8 t_settings, aI E.I q_t_rates 5 t_rates, aI E.I q_LAP_cells 10 LAP_cells_15]) rfl (by decide) (by decide) (by decide) rfl rfl (fun u hw => ?_)
        obtain ⟨LAP_cure_16, hu_⟩ : ∃ z, z = u := ⟨_, rfl⟩
        subst hu_
        try dsimp only at hw
        show G X E 7 [ob 9 q_t [.ref q_t_signs, .ref q_t_laps, .ref q_t_breaks, .ref q_t_fraction, .ref q_t_settings, .ref q_t_rates, .ref q_t_joints, .ref q_t_tested, .ref q_t_knocks, .ref q_t_choices], aO E.O q_t_laps 6 t_laps, aI E.I q_t_settings 8 t_settings, aI E.I q_t_rates 5 t_rates, aI E.I q_LAP_cells 10 LAP_cells_15, ob 5 q_LAP [.ref q_LAP_glue, .ref q_LAP_upper, .ref q_LAP_under, .ref q_LAP_work, .ref q_LAP_wear, .ref q_LAP_cells, .int LAP_spots, .int LAP_cure_16]] 0 0 97 [(0, .ref q_t), (2, .int p1), (3, .ref q_LAP), (5, .int w6), (6, .int x6_8)] []
        obtain ⟨x6_17, ex6_17⟩ : ∃ y : Int32, y = x6_8 + 1 := ⟨_, rfl⟩
        replace hw := hw x6_17 ex6_17
        refine g_iinc C0 (v := x6_17) (lv2 := [(6, .int x6_17), (0, .ref q_t), (2, .int p1), (3, .ref q_LAP), (5, .int w6)]) dX9_hours_97 4 rfl (by rw [ex6_17]; rfl) (by decide) rfl ?_
        refine g_goto C0 (tgt := 69) dX9_hours_100 (by decide) ?_
        refine g_lv [1, 2, 3, 4, 0] (lv2 := [(0, .ref q_t), (2, .int p1), (3, .ref q_LAP), (5, .int w6), (6, .int x6_17)]) rfl ?_
        refine g_re [0, 1, 2, 3, 5, 4] (by decide) (ws2 := [ob 9 q_t [.ref q_t_signs, .ref q_t_laps, .ref q_t_breaks, .ref q_t_fraction, .ref q_t_settings, .ref q_t_rates, .ref q_t_joints, .ref q_t_tested, .ref q_t_knocks, .ref q_t_choices], aO E.O q_t_laps 6 t_laps, aI E.I q_t_settings 8 t_settings, aI E.I q_t_rates 5 t_rates, ob 5 q_LAP [.ref q_LAP_glue, .ref q_LAP_upper, .ref q_LAP_under, .ref q_LAP_work, .ref q_LAP_wear, .ref q_LAP_cells, .int LAP_spots, .int LAP_cure_16], aI E.I q_LAP_cells 10 LAP_cells_15]) rfl ?_
        exact hK11 _ _ _ hw
    · refine g_ifb_eq C0 (tgt := 63) dX9_hours_50 (by decide) (fun c19 => ?_) (fun c19 => ?_)
      · replace hw := hw.1 c19
        refine g_iconst C0 (v := 0) dX9_hours_63 (by decide) ?_
        refine g_lv [2, 4, 1] (lv2 := [(0, .ref q_t), (2, .int p1), (3, .ref q_LAP)]) rfl ?_
        refine g_re [4, 5, 0, 1, 2, 3] (by decide) (ws2 := [ob 9 q_t [.ref q_t_signs, .ref q_t_laps, .ref q_t_breaks, .ref q_t_fraction, .ref q_t_settings, .ref q_t_rates, .ref q_t_joints, .ref q_t_tested, .ref q_t_knocks, .ref q_t_choices], aO E.O q_t_laps 6 t_laps, aI E.I q_t_settings 8 t_settings, aI E.I q_t_rates 5 t_rates, ob 5 q_LAP [.ref q_LAP_glue, .ref q_LAP_upper, .ref q_LAP_under, .ref q_LAP_work, .ref q_LAP_wear, .ref q_LAP_cells, .int LAP_spots, .int LAP_cure], aI E.I q_LAP_cells 10 LAP_cells]) rfl ?_
        exact hJ7 _ hw
      · replace hw := hw.2 c19
        refine g_aload_n C0 dX9_hours_53 2 rfl ?_
        refine g_get C0 dX9_hours_54 4 rfl 5 rfl rfl hinX9 (by decide) (List.mem_of_getElem? (i := 2) rfl) rfl ?_
        refine g_iload C0 dX9_hours_57 0 rfl ?_
        obtain ⟨h20, hw⟩ := hw
        refine g_iald C0 (cA := E.I) dX9_hours_59 1 rfl h20 ?_
        refine g_goto C0 (tgt := 64) dX9_hours_60 (by decide) ?_
        refine g_lv [2, 4, 1] (lv2 := [(0, .ref q_t), (2, .int p1), (3, .ref q_LAP)]) rfl ?_
        refine g_re [4, 5, 0, 1, 2, 3] (by decide) (ws2 := [ob 9 q_t [.ref q_t_signs, .ref q_t_laps, .ref q_t_breaks, .ref q_t_fraction, .ref q_t_settings, .ref q_t_rates, .ref q_t_joints, .ref q_t_tested, .ref q_t_knocks, .ref q_t_choices], aO E.O q_t_laps 6 t_laps, aI E.I q_t_settings 8 t_settings, aI E.I q_t_rates 5 t_rates, ob 5 q_LAP [.ref q_LAP_glue, .ref q_LAP_upper, .ref q_LAP_under, .ref q_LAP_work, .ref q_LAP_wear, .ref q_LAP_cells, .int LAP_spots, .int LAP_cure], aI E.I q_LAP_cells 10 LAP_cells]) rfl ?_
        exact hJ7 _ hw
  · replace hw := hw.2 c2
    refine g_bipush C0 (v := (-2)) dX9_hours_23 (by decide) ?_
    exact g_iret C0 R1 dX9_hours_25 ((-2), LAP_cells, LAP_cure) rfl hw [4, 5, 0, 1, 2, 3] (by decide) rfl (by decide) (by decide)
def w_X9_hours_N (p0 : Int32) (p1 : Int32) (t_laps : Nat → Option Nat) (Q : Int32 → Prop) : Prop := w_X9_lapAt_N p0 t_laps (Q (-1))
set_option maxHeartbeats 4000000 in
set_option maxRecDepth 100000 in
theorem c_X9_hours_N (l : Launch) (E : gE) (q_t q_t_signs q_t_laps q_t_breaks q_t_fraction q_t_settings q_t_rates q_t_joints q_t_tested q_t_knocks q_t_choices : Nat) (p0 : Int32) (p1 : Int32) (t_laps : Nat → Option Nat) (Q : Int32 → Prop) (hw : w_X9_hours_N p0 p1 t_laps Q) : Ct l E yX9_hours wsX9_hours { frames := 2, cells := 0, slots := 0, locals := 43 } [.ref q_t, .int p0, .int p1] [ob 9 q_t [.ref q_t_signs, .ref q_t_laps, .ref q_t_breaks, .ref q_t_fraction, .ref q_t_settings, .ref q_t_rates, .ref q_t_joints, .ref q_t_tested, .ref q_t_knocks, .ref q_t_choices], aO E.O q_t_laps 6 t_laps] (S := Int32) (fun u => some (.int u)) (fun u => Q u) (fun u => [ob 9 q_t [.ref q_t_signs, .ref q_t_laps, .ref q_t_breaks, .ref q_t_fraction, .ref q_t_settings, .ref q_t_rates, .ref q_t_joints, .ref q_t_tested, .ref q_t_knocks, .ref q_t_choices], aO E.O q_t_laps 6 t_laps]) := by
  unfold w_X9_hours_N at hw
  refine g_start (cc := cX9_hours) (nL := 7) (own := RX9) (ret := (some .int)) rfl (by decide) rfl (Nat.le_of_ble_eq_true rfl) (lv0 := [(0, .ref q_t), (1, .int p0), (2, .int p1)]) rfl (fun X C0 R1 => ?_)
  refine g_aload_n C0 dX9_hours_0 0 rfl ?_
  refine g_iload_n C0 dX9_hours_1 1 rfl ?_
  refine g_callV C0 (q0 := 0) (ci := 9) (c_X9_lapAt_N l E q_t q_t_signs q_t_laps q_t_breaks q_t_fraction q_t_settings q_t_rates q_t_joints q_t_tested q_t_knocks q_t_choices p0 t_laps _ hw) dX9_hours_2 gX9_hours_X9_lapAt rfl ddV_X9_lapAt rfl (by decide) (by decide) rfl (Nat.le_of_ble_eq_true rfl) [0, 1] [] rfl (wr := []) rfl (by decide) (by decide) (by decide) rfl rfl (fun u hw => ?_)
  try dsimp only at hw
  show G X E 7 [ob 9 q_t [.ref q_t_signs, .ref q_t_laps, .ref q_t_breaks, .ref q_t_fraction, .ref q_t_settings, .ref q_t_rates, .ref q_t_joints, .ref q_t_tested, .ref q_t_knocks, .ref q_t_choices], aO E.O q_t_laps 6 t_laps] 0 0 5 [(0, .ref q_t), (1, .int p0), (2, .int p1)] [.null]
  refine g_astore_nN C0 (lv2 := [(3, .null), (0, .ref q_t), (1, .int p0), (2, .int p1)]) dX9_hours_5 (by decide) rfl ?_
  refine g_aload_nN C0 dX9_hours_6 0 rfl ?_
  refine g_ifnonnullN C0 dX9_hours_7 ?_
  refine g_iconst C0 (v := (-1)) dX9_hours_10 (by decide) ?_
  exact g_iret C0 R1 dX9_hours_11 (-1) rfl hw [0, 1] (by decide) rfl (by decide) (by decide)
def w_X9_of_S (q_LAP : Nat) (p0 : Int32) (p1 : Int32) (t_laps : Nat → Option Nat) (LAP_spots : Int32) (LAP_cure : Int32) (LAP_glue : Nat → Int32) (LAP_cells : Nat → Int32) (Q : Int32 → Prop) : Prop := w_X9_lapAt_S q_LAP p0 t_laps (w_X9_within p1 0 9 (fun (r1 : Bool) => (r1 = false → (p1 = 10 → Q LAP_cure) ∧ (¬ p1 = 10 → (p1 = 11 → Q LAP_spots) ∧ (¬ p1 = 11 → (p1 = 12 → w_X5_holding LAP_glue (fun (r4 : Int32) => Q r4)) ∧ (¬ p1 = 12 → Q (-2))))) ∧ (r1 = true → vp_in p1 10 ∧ (Q (LAP_cells (Int32.toNatClampNeg p1))))))
theorem ddV_X9_of : yX9_of.cls = RX9 ∧ yX9_of.cls ≠ "java/lang/invoke/MethodHandle" ∧ yX9_of.cls ≠ "java/lang/invoke/VarHandle" ∧ (parseMethodDescriptor yX9_of.desc).map (fun d => d.parameters.length) = some 2 := by decide +kernel
set_option maxHeartbeats 4000000 in
set_option maxRecDepth 100000 in
theorem c_X9_of_S (l : Launch) (E : gE) (q_t q_LAP q_t_signs q_t_laps q_t_breaks q_t_fraction q_t_settings q_t_rates q_t_joints q_t_tested q_t_knocks q_t_choices q_LAP_glue q_LAP_upper q_LAP_under q_LAP_work q_LAP_wear q_LAP_cells : Nat) (p0 : Int32) (p1 : Int32) (t_laps : Nat → Option Nat) (LAP_spots : Int32) (LAP_cure : Int32) (LAP_glue : Nat → Int32) (LAP_cells : Nat → Int32) (Q : Int32 → Prop) (hw : w_X9_of_S q_LAP p0 p1 t_laps LAP_spots LAP_cure LAP_glue LAP_cells Q) : Ct l E yX9_of wsX9_of { frames := 2, cells := 0, slots := 0, locals := 43 } [.ref q_t, .int p0, .int p1] [ob 9 q_t [.ref q_t_signs, .ref q_t_laps, .ref q_t_breaks, .ref q_t_fraction, .ref q_t_settings, .ref q_t_rates, .ref q_t_joints, .ref q_t_tested, .ref q_t_knocks, .ref q_t_choices], aO E.O q_t_laps 6 t_laps, ob 5 q_LAP [.ref q_LAP_glue, .ref q_LAP_upper, .ref q_LAP_under, .ref q_LAP_work, .ref q_LAP_wear, .ref q_LAP_cells, .int LAP_spots, .int LAP_cure], aI E.I q_LAP_glue 5 LAP_glue, aI E.I q_LAP_cells 10 LAP_cells] (S := Int32) (fun u => some (.int u)) (fun u => Q u) (fun u => [ob 9 q_t [.ref q_t_signs, .ref q_t_laps, .ref q_t_breaks, .ref q_t_fraction, .ref q_t_settings, .ref q_t_rates, .ref q_t_joints, .ref q_t_tested, .ref q_t_knocks, .ref q_t_choices], aO E.O q_t_laps 6 t_laps, ob 5 q_LAP [.ref q_LAP_glue, .ref q_LAP_upper, .ref q_LAP_under, .ref q_LAP_work, .ref q_LAP_wear, .ref q_LAP_cells, .int LAP_spots, .int LAP_cure], aI E.I q_LAP_glue 5 LAP_glue, aI E.I q_LAP_cells 10 LAP_cells]) := by
  unfold w_X9_of_S at hw
  have hinX5 : ∀ w ∈ wsX50, w ∈ wsX9_of := fun _ h => List.mem_cons_of_mem _ (List.mem_append_left _ (List.mem_append_right _ h))
  refine g_start (cc := cX9_of) (nL := 4) (own := RX9) (ret := (some .int)) rfl (by decide) rfl (Nat.le_of_ble_eq_true rfl) (lv0 := [(0, .ref q_t), (1, .int p0), (2, .int p1)]) rfl (fun X C0 R1 => ?_)
  refine g_aload_n C0 dX9_of_0 0 rfl ?_
  refine g_iload_n C0 dX9_of_1 1 rfl ?_
  refine g_callV C0 (q0 := 0) (ci := 9) (c_X9_lapAt_S l E q_t q_LAP q_t_signs q_t_laps q_t_breaks q_t_fraction q_t_settings q_t_rates q_t_joints q_t_tested q_t_knocks q_t_choices p0 t_laps _ hw) dX9_of_2 gX9_of_X9_lapAt rfl ddV_X9_lapAt rfl (by decide) (by decide) rfl (Nat.le_of_ble_eq_true rfl) [0, 1] [2, 3, 4] rfl (wr := [ob 5 q_LAP [.ref q_LAP_glue, .ref q_LAP_upper, .ref q_LAP_under, .ref q_LAP_work, .ref q_LAP_wear, .ref q_LAP_cells, .int LAP_spots, .int LAP_cure], aI E.I q_LAP_glue 5 LAP_glue, aI E.I q_LAP_cells 10 LAP_cells]) rfl (by decide) (by decide) (by decide) rfl rfl (fun u hw => ?_)
  try dsimp only at hw
  show G X E 4 [ob 5 q_LAP [.ref q_LAP_glue, .ref q_LAP_upper, .ref q_LAP_under, .ref q_LAP_work, .ref q_LAP_wear, .ref q_LAP_cells, .int LAP_spots, .int LAP_cure], aI E.I q_LAP_glue 5 LAP_glue, aI E.I q_LAP_cells 10 LAP_cells, ob 9 q_t [.ref q_t_signs, .ref q_t_laps, .ref q_t_breaks, .ref q_t_fraction, .ref q_t_settings, .ref q_t_rates, .ref q_t_joints, .ref q_t_tested, .ref q_t_knocks, .ref q_t_choices], aO E.O q_t_laps 6 t_laps] 0 0 5 [(0, .ref q_t), (1, .int p0), (2, .int p1)] [.ref q_LAP]
  refine g_astore_n C0 (lv2 := [(3, .ref q_LAP), (0, .ref q_t), (1, .int p0), (2, .int p1)]) dX9_of_5 (by decide) rfl ?_
  refine g_aload_n C0 dX9_of_6 0 rfl ?_
  refine g_ifnonnull C0 (tgt := 12) dX9_of_7 (by decide) ?_
  refine g_iload_n C0 dX9_of_12 3 rfl ?_
  refine g_iconst C0 (v := 0) dX9_of_13 (by decide) ?_
  refine g_bipush C0 (v := 9) dX9_of_14 (by decide) ?_
  refine g_callS C0 (c_X9_within l E p1 0 9 _ hw) dX9_of_16 gX9_of_X9_within rfl ddS_X9_within rfl (by decide) (by decide) rfl (Nat.le_of_ble_eq_true rfl) [] [0, 1, 2, 3, 4] rfl (wr := [ob 5 q_LAP [.ref q_LAP_glue, .ref q_LAP_upper, .ref q_LAP_under, .ref q_LAP_work, .ref q_LAP_wear, .ref q_LAP_cells, .int LAP_spots, .int LAP_cure], aI E.I q_LAP_glue 5 LAP_glue, aI E.I q_LAP_cells 10 LAP_cells, ob 9 q_t [.ref q_t_signs, .ref q_t_laps, .ref q_t_breaks, .ref q_t_fraction, .ref q_t_settings, .ref q_t_rates, .ref q_t_joints, .ref q_t_tested, .ref q_t_knocks, .ref q_t_choices], aO E.O q_t_laps 6 t_laps]) rfl (by decide) (by decide) (by decide) (fun u hw => ?_)
  obtain ⟨r1, hu_⟩ : ∃ z, z = u := ⟨_, rfl⟩
  subst hu_
  try dsimp only at hw
  show G X E 4 [ob 5 q_LAP [.ref q_LAP_glue, .ref q_LAP_upper, .ref q_LAP_under, .ref q_LAP_work, .ref q_LAP_wear, .ref q_LAP_cells, .int LAP_spots, .int LAP_cure], aI E.I q_LAP_glue 5 LAP_glue, aI E.I q_LAP_cells 10 LAP_cells, ob 9 q_t [.ref q_t_signs, .ref q_t_laps, .ref q_t_breaks, .ref q_t_fraction, .ref q_t_settings, .ref q_t_rates, .ref q_t_joints, .ref q_t_tested, .ref q_t_knocks, .ref q_t_choices], aO E.O q_t_laps 6 t_laps] 0 0 19 [(3, .ref q_LAP), (0, .ref q_t), (1, .int p0), (2, .int p1)] [.int (bI r1)]
  refine g_ifb_eq C0 (tgt := 29) dX9_of_19 (by decide) (fun c2 => ?_) (fun c2 => ?_)
  · replace hw := hw.1 c2
    refine g_iload_n C0 dX9_of_29 3 rfl ?_
    by_cases c3_0 : p1 = 10
    · replace hw := hw.1 c3_0
      refine g_tabIn C0 (off := 26) (tgt := 56) dX9_of_30 10 (by rw [c3_0]; rfl) (by decide) (by decide) rfl (by decide) ?_
      refine g_aload_n C0 dX9_of_56 0 rfl ?_
      refine g_get C0 dX9_of_57 0 rfl 7 rfl rfl hinX5 (by decide) (List.mem_of_getElem? (i := 2) rfl) rfl ?_
      exact g_iret C0 R1 dX9_of_60 LAP_cure rfl hw [3, 4, 0, 1, 2] (by decide) rfl (by decide) (by decide)
    · replace hw := hw.2 c3_0
      by_cases c3_1 : p1 = 11
      · replace hw := hw.1 c3_1
        refine g_tabIn C0 (off := 31) (tgt := 61) dX9_of_30 11 (by rw [c3_1]; rfl) (by decide) (by decide) rfl (by decide) ?_
        refine g_aload_n C0 dX9_of_61 0 rfl ?_
        refine g_get C0 dX9_of_62 0 rfl 6 rfl rfl hinX5 (by decide) (List.mem_of_getElem? (i := 3) rfl) rfl ?_
        exact g_iret C0 R1 dX9_of_65 LAP_spots rfl hw [3, 4, 0, 1, 2] (by decide) rfl (by decide) (by decide)
      · replace hw := hw.2 c3_1
        by_cases c3_2 : p1 = 12
        · replace hw := hw.1 c3_2
          refine g_tabIn C0 (off := 36) (tgt := 66) dX9_of_30 12 (by rw [c3_2]; rfl) (by decide) (by decide) rfl (by decide) ?_
          refine g_aload_n C0 dX9_of_66 0 rfl ?_
          refine g_callV C0 (q0 := 0) (ci := 5) (c_X5_holding l E q_LAP q_LAP_glue q_LAP_upper q_LAP_under q_LAP_work q_LAP_wear q_LAP_cells LAP_spots LAP_cure LAP_glue _ hw) dX9_of_67 gX9_of_X5_holding rfl ddV_X5_holding rfl (by decide) (by decide) rfl (Nat.le_of_ble_eq_true rfl) [0, 1] [2, 3, 4] rfl (wr := [aI E.I q_LAP_cells 10 LAP_cells, ob 9 q_t [.ref q_t_signs, .ref q_t_laps, .ref q_t_breaks, .ref q_t_fraction, .ref q_t_settings, .ref q_t_rates, .ref q_t_joints, .ref q_t_tested, .ref q_t_knocks, .ref q_t_choices], aO E.O q_t_laps 6 t_laps]) rfl (by decide) (by decide) (by decide) rfl rfl (fun u hw => ?_)
          obtain ⟨r4, hu_⟩ : ∃ z, z = u := ⟨_, rfl⟩
          subst hu_
          try dsimp only at hw
          show G X E 4 [aI E.I q_LAP_cells 10 LAP_cells, ob 9 q_t [.ref q_t_signs, .ref q_t_laps, .ref q_t_breaks, .ref q_t_fraction, .ref q_t_settings, .ref q_t_rates, .ref q_t_joints, .ref q_t_tested, .ref q_t_knocks, .ref q_t_choices], aO E.O q_t_laps 6 t_laps, ob 5 q_LAP [.ref q_LAP_glue, .ref q_LAP_upper, .ref q_LAP_under, .ref q_LAP_work, .ref q_LAP_wear, .ref q_LAP_cells, .int LAP_spots, .int LAP_cure], aI E.I q_LAP_glue 5 LAP_glue] 0 0 70 [(3, .ref q_LAP), (0, .ref q_t), (1, .int p0), (2, .int p1)] [.int r4]
          exact g_iret C0 R1 dX9_of_70 r4 rfl hw [1, 2, 3, 4, 0] (by decide) rfl (by decide) (by decide)
        · replace hw := hw.2 c3_2
          refine g_tabOut C0 (tgt := 71) dX9_of_30 (by have e0 := neI (z := 10) c3_0 rfl; have e1 := neI (z := 11) c3_1 rfl; have e2 := neI (z := 12) c3_2 rfl; omega) (by decide) ?_
          refine g_bipush C0 (v := (-2)) dX9_of_71 (by decide) ?_
          exact g_iret C0 R1 dX9_of_73 (-2) rfl hw [3, 4, 0, 1, 2] (by decide) rfl (by decide) (by decide)
  · replace hw := hw.2 c2
    refine g_aload_n C0 dX9_of_22 0 rfl ?_
    refine g_get C0 dX9_of_23 0 rfl 5 rfl rfl hinX5 (by decide) (List.mem_of_getElem? (i := 1) rfl) rfl ?_
    refine g_iload_n C0 dX9_of_26 3 rfl ?_
    obtain ⟨h5, hw⟩ := hw
    refine g_iald C0 (cA := E.I) dX9_of_27 2 rfl h5 ?_
    exact g_iret C0 R1 dX9_of_28 (LAP_cells (Int32.toNatClampNeg p1)) rfl hw [3, 4, 0, 1, 2] (by decide) rfl (by decide) (by decide)
def w_X9_of_N (p0 : Int32) (p1 : Int32) (t_laps : Nat → Option Nat) (Q : Int32 → Prop) : Prop := w_X9_lapAt_N p0 t_laps (Q (-1))
set_option maxHeartbeats 4000000 in
set_option maxRecDepth 100000 in
theorem c_X9_of_N (l : Launch) (E : gE) (q_t q_t_signs q_t_laps q_t_breaks q_t_fraction q_t_settings q_t_rates q_t_joints q_t_tested q_t_knocks q_t_choices : Nat) (p0 : Int32) (p1 : Int32) (t_laps : Nat → Option Nat) (Q : Int32 → Prop) (hw : w_X9_of_N p0 p1 t_laps Q) : Ct l E yX9_of wsX9_of { frames := 2, cells := 0, slots := 0, locals := 43 } [.ref q_t, .int p0, .int p1] [ob 9 q_t [.ref q_t_signs, .ref q_t_laps, .ref q_t_breaks, .ref q_t_fraction, .ref q_t_settings, .ref q_t_rates, .ref q_t_joints, .ref q_t_tested, .ref q_t_knocks, .ref q_t_choices], aO E.O q_t_laps 6 t_laps] (S := Int32) (fun u => some (.int u)) (fun u => Q u) (fun u => [ob 9 q_t [.ref q_t_signs, .ref q_t_laps, .ref q_t_breaks, .ref q_t_fraction, .ref q_t_settings, .ref q_t_rates, .ref q_t_joints, .ref q_t_tested, .ref q_t_knocks, .ref q_t_choices], aO E.O q_t_laps 6 t_laps]) := by
  unfold w_X9_of_N at hw
  refine g_start (cc := cX9_of) (nL := 4) (own := RX9) (ret := (some .int)) rfl (by decide) rfl (Nat.le_of_ble_eq_true rfl) (lv0 := [(0, .ref q_t), (1, .int p0), (2, .int p1)]) rfl (fun X C0 R1 => ?_)
  refine g_aload_n C0 dX9_of_0 0 rfl ?_
  refine g_iload_n C0 dX9_of_1 1 rfl ?_
  refine g_callV C0 (q0 := 0) (ci := 9) (c_X9_lapAt_N l E q_t q_t_signs q_t_laps q_t_breaks q_t_fraction q_t_settings q_t_rates q_t_joints q_t_tested q_t_knocks q_t_choices p0 t_laps _ hw) dX9_of_2 gX9_of_X9_lapAt rfl ddV_X9_lapAt rfl (by decide) (by decide) rfl (Nat.le_of_ble_eq_true rfl) [0, 1] [] rfl (wr := []) rfl (by decide) (by decide) (by decide) rfl rfl (fun u hw => ?_)
  try dsimp only at hw
  show G X E 4 [ob 9 q_t [.ref q_t_signs, .ref q_t_laps, .ref q_t_breaks, .ref q_t_fraction, .ref q_t_settings, .ref q_t_rates, .ref q_t_joints, .ref q_t_tested, .ref q_t_knocks, .ref q_t_choices], aO E.O q_t_laps 6 t_laps] 0 0 5 [(0, .ref q_t), (1, .int p0), (2, .int p1)] [.null]
  refine g_astore_nN C0 (lv2 := [(3, .null), (0, .ref q_t), (1, .int p0), (2, .int p1)]) dX9_of_5 (by decide) rfl ?_
  refine g_aload_nN C0 dX9_of_6 0 rfl ?_
  refine g_ifnonnullN C0 dX9_of_7 ?_
  refine g_iconst C0 (v := (-1)) dX9_of_10 (by decide) ?_
  exact g_iret C0 R1 dX9_of_11 (-1) rfl hw [0, 1] (by decide) rfl (by decide) (by decide)
def w_X9_rate (p0 : Int32) (p1 : Int32) (t_rates : Nat → Int32) (Q : Int32 → (Nat → Int32) → Prop) : Prop := w_X9_put p0 p1 0 100 5 t_rates (fun (r1 : Int32) (t_rates_2 : Nat → Int32) => Q r1 t_rates_2)
theorem ddV_X9_rate : yX9_rate.cls = RX9 ∧ yX9_rate.cls ≠ "java/lang/invoke/MethodHandle" ∧ yX9_rate.cls ≠ "java/lang/invoke/VarHandle" ∧ (parseMethodDescriptor yX9_rate.desc).map (fun d => d.parameters.length) = some 2 := by decide +kernel
set_option maxHeartbeats 4000000 in
set_option maxRecDepth 100000 in
theorem c_X9_rate (l : Launch) (E : gE) (q_t q_t_signs q_t_laps q_t_breaks q_t_fraction q_t_settings q_t_rates q_t_joints q_t_tested q_t_knocks q_t_choices : Nat) (p0 : Int32) (p1 : Int32) (t_rates : Nat → Int32) (Q : Int32 → (Nat → Int32) → Prop) (hw : w_X9_rate p0 p1 t_rates Q) : Ct l E yX9_rate wsX9_rate { frames := 2, cells := 0, slots := 0, locals := 47 } [.ref q_t, .int p0, .int p1] [ob 9 q_t [.ref q_t_signs, .ref q_t_laps, .ref q_t_breaks, .ref q_t_fraction, .ref q_t_settings, .ref q_t_rates, .ref q_t_joints, .ref q_t_tested, .ref q_t_knocks, .ref q_t_choices], aI E.I q_t_rates 5 t_rates] (S := Int32 × (Nat → Int32)) (fun u => some (.int u.1)) (fun u => Q u.1 u.2) (fun u => [ob 9 q_t [.ref q_t_signs, .ref q_t_laps, .ref q_t_breaks, .ref q_t_fraction, .ref q_t_settings, .ref q_t_rates, .ref q_t_joints, .ref q_t_tested, .ref q_t_knocks, .ref q_t_choices], aI E.I q_t_rates 5 u.2]) := by
  unfold w_X9_rate at hw
  have hinX9 : ∀ w ∈ wsX90, w ∈ wsX9_rate := fun _ h => List.mem_cons_of_mem _ (List.mem_append_right _ h)
  refine g_start (cc := cX9_rate) (nL := 3) (own := RX9) (ret := (some .int)) rfl (by decide) rfl (Nat.le_of_ble_eq_true rfl) (lv0 := [(0, .ref q_t), (1, .int p0), (2, .int p1)]) rfl (fun X C0 R1 => ?_)
  refine g_aload_n C0 dX9_rate_0 0 rfl ?_
  refine g_get C0 dX9_rate_1 0 rfl 5 rfl rfl hinX9 (by decide) (List.mem_of_getElem? (i := 1) rfl) rfl ?_
  refine g_iload_n C0 dX9_rate_4 1 rfl ?_
  refine g_iload_n C0 dX9_rate_5 2 rfl ?_
  refine g_iconst C0 (v := 0) dX9_rate_6 (by decide) ?_
  refine g_bipush C0 (v := 100) dX9_rate_7 (by decide) ?_
  refine g_callS C0 (c_X9_put l E q_t_rates p0 p1 0 100 5 t_rates _ hw) dX9_rate_9 gX9_rate_X9_put rfl ddS_X9_put rfl (by decide) (by decide) rfl (Nat.le_of_ble_eq_true rfl) [1] [0] rfl (wr := [ob 9 q_t [.ref q_t_signs, .ref q_t_laps, .ref q_t_breaks, .ref q_t_fraction, .ref q_t_settings, .ref q_t_rates, .ref q_t_joints, .ref q_t_tested, .ref q_t_knocks, .ref q_t_choices]]) rfl (by decide) (by decide) (by decide) (fun u hw => ?_)
  obtain ⟨r1, t_rates_2⟩ := u
  try dsimp only at hw
  show G X E 3 [ob 9 q_t [.ref q_t_signs, .ref q_t_laps, .ref q_t_breaks, .ref q_t_fraction, .ref q_t_settings, .ref q_t_rates, .ref q_t_joints, .ref q_t_tested, .ref q_t_knocks, .ref q_t_choices], aI E.I q_t_rates 5 t_rates_2] 0 0 12 [(0, .ref q_t), (1, .int p0), (2, .int p1)] [.int r1]
  exact g_iret C0 R1 dX9_rate_12 (r1, t_rates_2) rfl hw [0, 1] (by decide) rfl (by decide) (by decide)
def w_X9_joint (p0 : Int32) (p1 : Int32) (p2 : Int32) (t_joints_solvedClamps : Int32) (t_joints_hours : Nat → Int32) (t_joints_needs : Nat → Int32) (Q : Int32 → (Nat → Int32) → (Nat → Int32) → Int32 → Prop) : Prop := w_X9_within p0 0 6 (fun (r1 : Bool) => (r1 = true → w_X9_within p1 0 100 (fun (r3 : Bool) => (r3 = false → Q (-2) t_joints_hours t_joints_needs t_joints_solvedClamps) ∧ (r3 = true → w_X9_within p2 0 127 (fun (r5 : Bool) => (r5 = true → w_X3_change p0 p1 p2 t_joints_solvedClamps t_joints_hours t_joints_needs (fun (r7 : Int32) (t_joints_hours_8 : Nat → Int32) (t_joints_needs_9 : Nat → Int32) (t_joints_solvedClamps_10 : Int32) => Q r7 t_joints_hours_8 t_joints_needs_9 t_joints_solvedClamps_10)) ∧ (r5 = false → Q (-2) t_joints_hours t_joints_needs t_joints_solvedClamps))))) ∧ (r1 = false → Q (-1) t_joints_hours t_joints_needs t_joints_solvedClamps))
theorem ddV_X9_joint : yX9_joint.cls = RX9 ∧ yX9_joint.cls ≠ "java/lang/invoke/MethodHandle" ∧ yX9_joint.cls ≠ "java/lang/invoke/VarHandle" ∧ (parseMethodDescriptor yX9_joint.desc).map (fun d => d.parameters.length) = some 3 := by decide +kernel
set_option maxHeartbeats 4000000 in
set_option maxRecDepth 100000 in
theorem c_X9_joint (l : Launch) (E : gE) (q_t q_t_signs q_t_laps q_t_breaks q_t_fraction q_t_settings q_t_rates q_t_joints q_t_tested q_t_knocks q_t_choices q_t_joints_hours q_t_joints_needs q_t_joints_freeAt q_t_joints_order q_t_joints_starts q_t_joints_bestOrder q_t_joints_bestStarts : Nat) (p0 : Int32) (p1 : Int32) (p2 : Int32) (t_joints_bestEnd : Int32) (t_joints_clamps : Int32) (t_joints_there : Int32) (t_joints_solvedClamps : Int32) (t_joints_hours : Nat → Int32) (t_joints_needs : Nat → Int32) (Q : Int32 → (Nat → Int32) → (Nat → Int32) → Int32 → Prop) (hw : w_X9_joint p0 p1 p2 t_joints_solvedClamps t_joints_hours t_joints_needs Q) : Ct l E yX9_joint wsX9_joint { frames := 2, cells := 0, slots := 0, locals := 46 } [.ref q_t, .int p0, .int p1, .int p2] [ob 9 q_t [.ref q_t_signs, .ref q_t_laps, .ref q_t_breaks, .ref q_t_fraction, .ref q_t_settings, .ref q_t_rates, .ref q_t_joints, .ref q_t_tested, .ref q_t_knocks, .ref q_t_choices], ob 3 q_t_joints [.ref q_t_joints_hours, .ref q_t_joints_needs, .ref q_t_joints_freeAt, .ref q_t_joints_order, .ref q_t_joints_starts, .ref q_t_joints_bestOrder, .ref q_t_joints_bestStarts, .int t_joints_bestEnd, .int t_joints_clamps, .int t_joints_there, .int t_joints_solvedClamps], aI E.I q_t_joints_hours 7 t_joints_hours, aI E.I q_t_joints_needs 7 t_joints_needs] (S := Int32 × (Nat → Int32) × (Nat → Int32) × Int32) (fun u => some (.int u.1)) (fun u => Q u.1 u.2.1 u.2.2.1 u.2.2.2) (fun u => [ob 9 q_t [.ref q_t_signs, .ref q_t_laps, .ref q_t_breaks, .ref q_t_fraction, .ref q_t_settings, .ref q_t_rates, .ref q_t_joints, .ref q_t_tested, .ref q_t_knocks, .ref q_t_choices], ob 3 q_t_joints [.ref q_t_joints_hours, .ref q_t_joints_needs, .ref q_t_joints_freeAt, .ref q_t_joints_order, .ref q_t_joints_starts, .ref q_t_joints_bestOrder, .ref q_t_joints_bestStarts, .int t_joints_bestEnd, .int t_joints_clamps, .int t_joints_there, .int u.2.2.2], aI E.I q_t_joints_hours 7 u.2.1, aI E.I q_t_joints_needs 7 u.2.2.1]) := by
  unfold w_X9_joint at hw
  have hinX9 : ∀ w ∈ wsX90, w ∈ wsX9_joint := fun _ h => List.mem_cons_of_mem _ (List.mem_append_left _ (List.mem_append_right _ h))
  refine g_start (cc := cX9_joint) (nL := 4) (own := RX9) (ret := (some .int)) rfl (by decide) rfl (Nat.le_of_ble_eq_true rfl) (lv0 := [(0, .ref q_t), (1, .int p0), (2, .int p1), (3, .int p2)]) rfl (fun X C0 R1 => ?_)
  refine g_iload_n C0 dX9_joint_0 1 rfl ?_
  refine g_iconst C0 (v := 0) dX9_joint_1 (by decide) ?_
  refine g_bipush C0 (v := 6) dX9_joint_2 (by decide) ?_
  refine g_callS C0 (c_X9_within l E p0 0 6 _ hw) dX9_joint_4 gX9_joint_X9_within rfl ddS_X9_within rfl (by decide) (by decide) rfl (Nat.le_of_ble_eq_true rfl) [] [0, 1, 2, 3] rfl (wr := [ob 9 q_t [.ref q_t_signs, .ref q_t_laps, .ref q_t_breaks, .ref q_t_fraction, .ref q_t_settings, .ref q_t_rates, .ref q_t_joints, .ref q_t_tested, .ref q_t_knocks, .ref q_t_choices], ob 3 q_t_joints [.ref q_t_joints_hours, .ref q_t_joints_needs, .ref q_t_joints_freeAt, .ref q_t_joints_order, .ref q_t_joints_starts, .ref q_t_joints_bestOrder, .ref q_t_joints_bestStarts, .int t_joints_bestEnd, .int t_joints_clamps, .int t_joints_there, .int t_joints_solvedClamps], aI E.I q_t_joints_hours 7 t_joints_hours, aI E.I q_t_joints_needs 7 t_joints_needs]) rfl (by decide) (by decide) (by decide) (fun u hw => ?_)
  obtain ⟨r1, hu_⟩ : ∃ z, z = u := ⟨_, rfl⟩
  subst hu_
  try dsimp only at hw
  show G X E 4 [ob 9 q_t [.ref q_t_signs, .ref q_t_laps, .ref q_t_breaks, .ref q_t_fraction, .ref q_t_settings, .ref q_t_rates, .ref q_t_joints, .ref q_t_tested, .ref q_t_knocks, .ref q_t_choices], ob 3 q_t_joints [.ref q_t_joints_hours, .ref q_t_joints_needs, .ref q_t_joints_freeAt, .ref q_t_joints_order, .ref q_t_joints_starts, .ref q_t_joints_bestOrder, .ref q_t_joints_bestStarts, .int t_joints_bestEnd, .int t_joints_clamps, .int t_joints_there, .int t_joints_solvedClamps], aI E.I q_t_joints_hours 7 t_joints_hours, aI E.I q_t_joints_needs 7 t_joints_needs] 0 0 7 [(0, .ref q_t), (1, .int p0), (2, .int p1), (3, .int p2)] [.int (bI r1)]
  refine g_ifb_ne C0 (tgt := 12) dX9_joint_7 (by decide) (fun c2 => ?_) (fun c2 => ?_)
  · replace hw := hw.1 c2
    refine g_iload_n C0 dX9_joint_12 2 rfl ?_
    refine g_iconst C0 (v := 0) dX9_joint_13 (by decide) ?_
    refine g_bipush C0 (v := 100) dX9_joint_14 (by decide) ?_
    refine g_callS C0 (c_X9_within l E p1 0 100 _ hw) dX9_joint_16 gX9_joint_X9_within rfl ddS_X9_within rfl (by decide) (by decide) rfl (Nat.le_of_ble_eq_true rfl) [] [0, 1, 2, 3] rfl (wr := [ob 9 q_t [.ref q_t_signs, .ref q_t_laps, .ref q_t_breaks, .ref q_t_fraction, .ref q_t_settings, .ref q_t_rates, .ref q_t_joints, .ref q_t_tested, .ref q_t_knocks, .ref q_t_choices], ob 3 q_t_joints [.ref q_t_joints_hours, .ref q_t_joints_needs, .ref q_t_joints_freeAt, .ref q_t_joints_order, .ref q_t_joints_starts, .ref q_t_joints_bestOrder, .ref q_t_joints_bestStarts, .int t_joints_bestEnd, .int t_joints_clamps, .int t_joints_there, .int t_joints_solvedClamps], aI E.I q_t_joints_hours 7 t_joints_hours, aI E.I q_t_joints_needs 7 t_joints_needs]) rfl (by decide) (by decide) (by decide) (fun u hw => ?_)
    obtain ⟨r3, hu_⟩ : ∃ z, z = u := ⟨_, rfl⟩
    subst hu_
    try dsimp only at hw
    show G X E 4 [ob 9 q_t [.ref q_t_signs, .ref q_t_laps, .ref q_t_breaks, .ref q_t_fraction, .ref q_t_settings, .ref q_t_rates, .ref q_t_joints, .ref q_t_tested, .ref q_t_knocks, .ref q_t_choices], ob 3 q_t_joints [.ref q_t_joints_hours, .ref q_t_joints_needs, .ref q_t_joints_freeAt, .ref q_t_joints_order, .ref q_t_joints_starts, .ref q_t_joints_bestOrder, .ref q_t_joints_bestStarts, .int t_joints_bestEnd, .int t_joints_clamps, .int t_joints_there, .int t_joints_solvedClamps], aI E.I q_t_joints_hours 7 t_joints_hours, aI E.I q_t_joints_needs 7 t_joints_needs] 0 0 19 [(0, .ref q_t), (1, .int p0), (2, .int p1), (3, .int p2)] [.int (bI r3)]
    refine g_ifb_eq C0 (tgt := 32) dX9_joint_19 (by decide) (fun c4 => ?_) (fun c4 => ?_)
    · replace hw := hw.1 c4
      refine g_bipush C0 (v := (-2)) dX9_joint_32 (by decide) ?_
      exact g_iret C0 R1 dX9_joint_34 ((-2), t_joints_hours, t_joints_needs, t_joints_solvedClamps) rfl hw [0, 1, 2, 3] (by decide) rfl (by decide) (by decide)
    · replace hw := hw.2 c4
      refine g_iload_n C0 dX9_joint_22 3 rfl ?_
      refine g_iconst C0 (v := 0) dX9_joint_23 (by decide) ?_
      refine g_bipush C0 (v := 127) dX9_joint_24 (by decide) ?_
      refine g_callS C0 (c_X9_within l E p2 0 127 _ hw) dX9_joint_26 gX9_joint_X9_within rfl ddS_X9_within rfl (by decide) (by decide) rfl (Nat.le_of_ble_eq_true rfl) [] [0, 1, 2, 3] rfl (wr := [ob 9 q_t [.ref q_t_signs, .ref q_t_laps, .ref q_t_breaks, .ref q_t_fraction, .ref q_t_settings, .ref q_t_rates, .ref q_t_joints, .ref q_t_tested, .ref q_t_knocks, .ref q_t_choices], ob 3 q_t_joints [.ref q_t_joints_hours, .ref q_t_joints_needs, .ref q_t_joints_freeAt, .ref q_t_joints_order, .ref q_t_joints_starts, .ref q_t_joints_bestOrder, .ref q_t_joints_bestStarts, .int t_joints_bestEnd, .int t_joints_clamps, .int t_joints_there, .int t_joints_solvedClamps], aI E.I q_t_joints_hours 7 t_joints_hours, aI E.I q_t_joints_needs 7 t_joints_needs]) rfl (by decide) (by decide) (by decide) (fun u hw => ?_)
      obtain ⟨r5, hu_⟩ : ∃ z, z = u := ⟨_, rfl⟩
      subst hu_
      try dsimp only at hw
      show G X E 4 [ob 9 q_t [.ref q_t_signs, .ref q_t_laps, .ref q_t_breaks, .ref q_t_fraction, .ref q_t_settings, .ref q_t_rates, .ref q_t_joints, .ref q_t_tested, .ref q_t_knocks, .ref q_t_choices], ob 3 q_t_joints [.ref q_t_joints_hours, .ref q_t_joints_needs, .ref q_t_joints_freeAt, .ref q_t_joints_order, .ref q_t_joints_starts, .ref q_t_joints_bestOrder, .ref q_t_joints_bestStarts, .int t_joints_bestEnd, .int t_joints_clamps, .int t_joints_there, .int t_joints_solvedClamps], aI E.I q_t_joints_hours 7 t_joints_hours, aI E.I q_t_joints_needs 7 t_joints_needs] 0 0 29 [(0, .ref q_t), (1, .int p0), (2, .int p1), (3, .int p2)] [.int (bI r5)]
      refine g_ifb_ne C0 (tgt := 35) dX9_joint_29 (by decide) (fun c6 => ?_) (fun c6 => ?_)
      · replace hw := hw.1 c6
        refine g_aload_n C0 dX9_joint_35 0 rfl ?_
        refine g_get C0 dX9_joint_36 0 rfl 6 rfl rfl hinX9 (by decide) (List.mem_of_getElem? (i := 1) rfl) rfl ?_
        refine g_iload_n C0 dX9_joint_39 1 rfl ?_
        refine g_iload_n C0 dX9_joint_40 2 rfl ?_
        refine g_iload_n C0 dX9_joint_41 3 rfl ?_
        refine g_callV C0 (q0 := 1) (ci := 3) (c_X3_change l E q_t_joints q_t_joints_hours q_t_joints_needs q_t_joints_freeAt q_t_joints_order q_t_joints_starts q_t_joints_bestOrder q_t_joints_bestStarts p0 p1 p2 t_joints_bestEnd t_joints_clamps t_joints_there t_joints_solvedClamps t_joints_hours t_joints_needs _ hw) dX9_joint_42 gX9_joint_X3_change rfl ddV_X3_change rfl (by decide) (by decide) rfl (Nat.le_of_ble_eq_true rfl) [1, 2, 3] [0] rfl (wr := [ob 9 q_t [.ref q_t_signs, .ref q_t_laps, .ref q_t_breaks, .ref q_t_fraction, .ref q_t_settings, .ref q_t_rates, .ref q_t_joints, .ref q_t_tested, .ref q_t_knocks, .ref q_t_choices]]) rfl (by decide) (by decide) (by decide) rfl rfl (fun u hw => ?_)
        obtain ⟨r7, t_joints_hours_8, t_joints_needs_9, t_joints_solvedClamps_10⟩ := u
        try dsimp only at hw
        show G X E 4 [ob 9 q_t [.ref q_t_signs, .ref q_t_laps, .ref q_t_breaks, .ref q_t_fraction, .ref q_t_settings, .ref q_t_rates, .ref q_t_joints, .ref q_t_tested, .ref q_t_knocks, .ref q_t_choices], ob 3 q_t_joints [.ref q_t_joints_hours, .ref q_t_joints_needs, .ref q_t_joints_freeAt, .ref q_t_joints_order, .ref q_t_joints_starts, .ref q_t_joints_bestOrder, .ref q_t_joints_bestStarts, .int t_joints_bestEnd, .int t_joints_clamps, .int t_joints_there, .int t_joints_solvedClamps_10], aI E.I q_t_joints_hours 7 t_joints_hours_8, aI E.I q_t_joints_needs 7 t_joints_needs_9] 0 0 45 [(0, .ref q_t), (1, .int p0), (2, .int p1), (3, .int p2)] [.int r7]
        exact g_iret C0 R1 dX9_joint_45 (r7, t_joints_hours_8, t_joints_needs_9, t_joints_solvedClamps_10) rfl hw [0, 1, 2, 3] (by decide) rfl (by decide) (by decide)
      · replace hw := hw.2 c6
        refine g_bipush C0 (v := (-2)) dX9_joint_32 (by decide) ?_
        exact g_iret C0 R1 dX9_joint_34 ((-2), t_joints_hours, t_joints_needs, t_joints_solvedClamps) rfl hw [0, 1, 2, 3] (by decide) rfl (by decide) (by decide)
  · replace hw := hw.2 c2
    refine g_iconst C0 (v := (-1)) dX9_joint_10 (by decide) ?_
    exact g_iret C0 R1 dX9_joint_11 ((-1), t_joints_hours, t_joints_needs, t_joints_solvedClamps) rfl hw [0, 1, 2, 3] (by decide) rfl (by decide) (by decide)
def w_X9_strip (p0 : Int32) (t_tested_count : Int32) (t_tested_strength : Nat → Int32) (Q : Int32 → (Nat → Int32) → Int32 → Prop) : Prop := w_X9_within p0 0 10000 (fun (r1 : Bool) => (r1 = false → Q (-2) t_tested_strength t_tested_count) ∧ (r1 = true → w_X8_append p0 t_tested_count t_tested_strength (fun (r3 : Int32) (t_tested_strength_4 : Nat → Int32) (t_tested_count_5 : Int32) => Q r3 t_tested_strength_4 t_tested_count_5)))
theorem ddV_X9_strip : yX9_strip.cls = RX9 ∧ yX9_strip.cls ≠ "java/lang/invoke/MethodHandle" ∧ yX9_strip.cls ≠ "java/lang/invoke/VarHandle" ∧ (parseMethodDescriptor yX9_strip.desc).map (fun d => d.parameters.length) = some 1 := by decide +kernel
set_option maxHeartbeats 4000000 in
set_option maxRecDepth 100000 in
theorem c_X9_strip (l : Launch) (E : gE) (q_t q_t_signs q_t_laps q_t_breaks q_t_fraction q_t_settings q_t_rates q_t_joints q_t_tested q_t_knocks q_t_choices q_t_tested_strength q_t_tested_barred q_t_tested_weights : Nat) (p0 : Int32) (t_tested_count : Int32) (t_tested_strength : Nat → Int32) (Q : Int32 → (Nat → Int32) → Int32 → Prop) (hw : w_X9_strip p0 t_tested_count t_tested_strength Q) : Ct l E yX9_strip wsX9_strip { frames := 1, cells := 0, slots := 0, locals := 22 } [.ref q_t, .int p0] [ob 9 q_t [.ref q_t_signs, .ref q_t_laps, .ref q_t_breaks, .ref q_t_fraction, .ref q_t_settings, .ref q_t_rates, .ref q_t_joints, .ref q_t_tested, .ref q_t_knocks, .ref q_t_choices], ob 8 q_t_tested [.ref q_t_tested_strength, .ref q_t_tested_barred, .ref q_t_tested_weights, .int t_tested_count], aI E.I q_t_tested_strength 20 t_tested_strength] (S := Int32 × (Nat → Int32) × Int32) (fun u => some (.int u.1)) (fun u => Q u.1 u.2.1 u.2.2) (fun u => [ob 9 q_t [.ref q_t_signs, .ref q_t_laps, .ref q_t_breaks, .ref q_t_fraction, .ref q_t_settings, .ref q_t_rates, .ref q_t_joints, .ref q_t_tested, .ref q_t_knocks, .ref q_t_choices], ob 8 q_t_tested [.ref q_t_tested_strength, .ref q_t_tested_barred, .ref q_t_tested_weights, .int u.2.2], aI E.I q_t_tested_strength 20 u.2.1]) := by
  unfold w_X9_strip at hw
  have hinX9 : ∀ w ∈ wsX90, w ∈ wsX9_strip := fun _ h => List.mem_cons_of_mem _ (List.mem_append_left _ (List.mem_append_right _ h))
  refine g_start (cc := cX9_strip) (nL := 2) (own := RX9) (ret := (some .int)) rfl (by decide) rfl (Nat.le_of_ble_eq_true rfl) (lv0 := [(0, .ref q_t), (1, .int p0)]) rfl (fun X C0 R1 => ?_)
  refine g_iload_n C0 dX9_strip_0 1 rfl ?_
  refine g_iconst C0 (v := 0) dX9_strip_1 (by decide) ?_
  refine g_sipush C0 (v := 10000) dX9_strip_2 (by decide) ?_
  refine g_callS C0 (c_X9_within l E p0 0 10000 _ hw) dX9_strip_5 gX9_strip_X9_within rfl ddS_X9_within rfl (by decide) (by decide) rfl (Nat.le_of_ble_eq_true rfl) [] [0, 1, 2] rfl (wr := [ob 9 q_t [.ref q_t_signs, .ref q_t_laps, .ref q_t_breaks, .ref q_t_fraction, .ref q_t_settings, .ref q_t_rates, .ref q_t_joints, .ref q_t_tested, .ref q_t_knocks, .ref q_t_choices], ob 8 q_t_tested [.ref q_t_tested_strength, .ref q_t_tested_barred, .ref q_t_tested_weights, .int t_tested_count], aI E.I q_t_tested_strength 20 t_tested_strength]) rfl (by decide) (by decide) (by decide) (fun u hw => ?_)
  obtain ⟨r1, hu_⟩ : ∃ z, z = u := ⟨_, rfl⟩
  subst hu_
  try dsimp only at hw
  show G X E 2 [ob 9 q_t [.ref q_t_signs, .ref q_t_laps, .ref q_t_breaks, .ref q_t_fraction, .ref q_t_settings, .ref q_t_rates, .ref q_t_joints, .ref q_t_tested, .ref q_t_knocks, .ref q_t_choices], ob 8 q_t_tested [.ref q_t_tested_strength, .ref q_t_tested_barred, .ref q_t_tested_weights, .int t_tested_count], aI E.I q_t_tested_strength 20 t_tested_strength] 0 0 8 [(0, .ref q_t), (1, .int p0)] [.int (bI r1)]
  refine g_ifb_eq C0 (tgt := 22) dX9_strip_8 (by decide) (fun c2 => ?_) (fun c2 => ?_)
  · replace hw := hw.1 c2
    refine g_bipush C0 (v := (-2)) dX9_strip_22 (by decide) ?_
    exact g_iret C0 R1 dX9_strip_24 ((-2), t_tested_strength, t_tested_count) rfl hw [0, 1, 2] (by decide) rfl (by decide) (by decide)
  · replace hw := hw.2 c2
    refine g_aload_n C0 dX9_strip_11 0 rfl ?_
    refine g_get C0 dX9_strip_12 0 rfl 7 rfl rfl hinX9 (by decide) (List.mem_of_getElem? (i := 1) rfl) rfl ?_
    refine g_iload_n C0 dX9_strip_15 1 rfl ?_
    refine g_callV C0 (q0 := 1) (ci := 8) (c_X8_append l E q_t_tested q_t_tested_strength q_t_tested_barred q_t_tested_weights p0 t_tested_count t_tested_strength _ hw) dX9_strip_16 gX9_strip_X8_append rfl ddV_X8_append rfl (by decide) (by decide) rfl (Nat.le_of_ble_eq_true rfl) [1, 2] [0] rfl (wr := [ob 9 q_t [.ref q_t_signs, .ref q_t_laps, .ref q_t_breaks, .ref q_t_fraction, .ref q_t_settings, .ref q_t_rates, .ref q_t_joints, .ref q_t_tested, .ref q_t_knocks, .ref q_t_choices]]) rfl (by decide) (by decide) (by decide) rfl rfl (fun u hw => ?_)
    obtain ⟨r3, t_tested_strength_4, t_tested_count_5⟩ := u
    try dsimp only at hw
    show G X E 2 [ob 9 q_t [.ref q_t_signs, .ref q_t_laps, .ref q_t_breaks, .ref q_t_fraction, .ref q_t_settings, .ref q_t_rates, .ref q_t_joints, .ref q_t_tested, .ref q_t_knocks, .ref q_t_choices], ob 8 q_t_tested [.ref q_t_tested_strength, .ref q_t_tested_barred, .ref q_t_tested_weights, .int t_tested_count_5], aI E.I q_t_tested_strength 20 t_tested_strength_4] 0 0 19 [(0, .ref q_t), (1, .int p0)] [.int r3]
    refine g_goto C0 (tgt := 24) dX9_strip_19 (by decide) ?_
    exact g_iret C0 R1 dX9_strip_24 (r3, t_tested_strength_4, t_tested_count_5) rfl hw [0, 1, 2] (by decide) rfl (by decide) (by decide)
def w_X9_bar (p0 : Int32) (p1 : Bool) (t_tested_count : Int32) (t_tested_barred : Nat → Bool) (Q : Int32 → (Nat → Bool) → Prop) : Prop := w_X8_changeBarred p0 p1 t_tested_count t_tested_barred (fun (r1 : Int32) (t_tested_barred_2 : Nat → Bool) => Q r1 t_tested_barred_2)
theorem ddV_X9_bar : yX9_bar.cls = RX9 ∧ yX9_bar.cls ≠ "java/lang/invoke/MethodHandle" ∧ yX9_bar.cls ≠ "java/lang/invoke/VarHandle" ∧ (parseMethodDescriptor yX9_bar.desc).map (fun d => d.parameters.length) = some 2 := by decide +kernel
set_option maxHeartbeats 4000000 in
set_option maxRecDepth 100000 in
theorem c_X9_bar (l : Launch) (E : gE) (q_t q_t_signs q_t_laps q_t_breaks q_t_fraction q_t_settings q_t_rates q_t_joints q_t_tested q_t_knocks q_t_choices q_t_tested_strength q_t_tested_barred q_t_tested_weights : Nat) (p0 : Int32) (p1 : Bool) (t_tested_count : Int32) (t_tested_barred : Nat → Bool) (Q : Int32 → (Nat → Bool) → Prop) (hw : w_X9_bar p0 p1 t_tested_count t_tested_barred Q) : Ct l E yX9_bar wsX9_bar { frames := 2, cells := 0, slots := 0, locals := 45 } [.ref q_t, .int p0, .int (bI p1)] [ob 9 q_t [.ref q_t_signs, .ref q_t_laps, .ref q_t_breaks, .ref q_t_fraction, .ref q_t_settings, .ref q_t_rates, .ref q_t_joints, .ref q_t_tested, .ref q_t_knocks, .ref q_t_choices], ob 8 q_t_tested [.ref q_t_tested_strength, .ref q_t_tested_barred, .ref q_t_tested_weights, .int t_tested_count], aZ E.Z q_t_tested_barred 20 t_tested_barred] (S := Int32 × (Nat → Bool)) (fun u => some (.int u.1)) (fun u => Q u.1 u.2) (fun u => [ob 9 q_t [.ref q_t_signs, .ref q_t_laps, .ref q_t_breaks, .ref q_t_fraction, .ref q_t_settings, .ref q_t_rates, .ref q_t_joints, .ref q_t_tested, .ref q_t_knocks, .ref q_t_choices], ob 8 q_t_tested [.ref q_t_tested_strength, .ref q_t_tested_barred, .ref q_t_tested_weights, .int t_tested_count], aZ E.Z q_t_tested_barred 20 u.2]) := by
  unfold w_X9_bar at hw
  have hinX9 : ∀ w ∈ wsX90, w ∈ wsX9_bar := fun _ h => List.mem_cons_of_mem _ (List.mem_append_left _ (List.mem_append_right _ h))
  refine g_start (cc := cX9_bar) (nL := 3) (own := RX9) (ret := (some .int)) rfl (by decide) rfl (Nat.le_of_ble_eq_true rfl) (lv0 := [(0, .ref q_t), (1, .int p0), (2, .int (bI p1))]) rfl (fun X C0 R1 => ?_)
  refine g_aload_n C0 dX9_bar_0 0 rfl ?_
  refine g_get C0 dX9_bar_1 0 rfl 7 rfl rfl hinX9 (by decide) (List.mem_of_getElem? (i := 1) rfl) rfl ?_
  refine g_iload_n C0 dX9_bar_4 1 rfl ?_
  refine g_iload_n C0 dX9_bar_5 2 rfl ?_
  refine g_callV C0 (q0 := 1) (ci := 8) (c_X8_changeBarred l E q_t_tested q_t_tested_strength q_t_tested_barred q_t_tested_weights p0 p1 t_tested_count t_tested_barred _ hw) dX9_bar_6 gX9_bar_X8_changeBarred rfl ddV_X8_changeBarred rfl (by decide) (by decide) rfl (Nat.le_of_ble_eq_true rfl) [1, 2] [0] rfl (wr := [ob 9 q_t [.ref q_t_signs, .ref q_t_laps, .ref q_t_breaks, .ref q_t_fraction, .ref q_t_settings, .ref q_t_rates, .ref q_t_joints, .ref q_t_tested, .ref q_t_knocks, .ref q_t_choices]]) rfl (by decide) (by decide) (by decide) rfl rfl (fun u hw => ?_)
  obtain ⟨r1, t_tested_barred_2⟩ := u
  try dsimp only at hw
  show G X E 3 [ob 9 q_t [.ref q_t_signs, .ref q_t_laps, .ref q_t_breaks, .ref q_t_fraction, .ref q_t_settings, .ref q_t_rates, .ref q_t_joints, .ref q_t_tested, .ref q_t_knocks, .ref q_t_choices], ob 8 q_t_tested [.ref q_t_tested_strength, .ref q_t_tested_barred, .ref q_t_tested_weights, .int t_tested_count], aZ E.Z q_t_tested_barred 20 t_tested_barred_2] 0 0 9 [(0, .ref q_t), (1, .int p0), (2, .int (bI p1))] [.int r1]
  exact g_iret C0 R1 dX9_bar_9 (r1, t_tested_barred_2) rfl hw [0, 1, 2] (by decide) rfl (by decide) (by decide)
def w_X9_strips (p0 : Int32) (p1 : Int32) (t_tested_count : Int32) (t_tested_barred : Nat → Bool) (t_tested_strength : Nat → Int32) (t_fraction_upper : Int64) (t_fraction_lower : Int64) (Q : Int64 → Int64 → Int64 → Prop) : Prop := w_X9_within p0 0 1 (fun (r1 : Bool) => (r1 = false → Q (-1000000000000000002) t_fraction_upper t_fraction_lower) ∧ (r1 = true → w_X9_isPart p1 (fun (r3 : Bool) => (r3 = true → w_X8_kept t_tested_count t_tested_barred (fun (r5 : Int32) => (¬ r5 = 0 → wj2 (fun (J9 : Int64 → Int64 → Prop) => (¬ p0 = 0 → w_X8_tellSpread t_tested_count t_tested_barred t_tested_strength t_fraction_upper t_fraction_lower (fun (t_fraction_upper_12 : Int64) (t_fraction_lower_13 : Int64) => J9 t_fraction_upper_12 t_fraction_lower_13)) ∧ (p0 = 0 → w_X8_tellMean t_tested_count t_tested_barred t_tested_strength t_fraction_upper t_fraction_lower (fun (t_fraction_upper_14 : Int64) (t_fraction_lower_15 : Int64) => J9 t_fraction_upper_14 t_fraction_lower_15))) (fun (t_fraction_upper_7 : Int64) (t_fraction_lower_8 : Int64) => w_X2_number p1 t_fraction_upper_7 t_fraction_lower_8 (fun (r10 : Int64) => Q r10 t_fraction_upper_7 t_fraction_lower_8))) ∧ (r5 = 0 → Q (-1000000000000000003) t_fraction_upper t_fraction_lower))) ∧ (r3 = false → Q (-1000000000000000002) t_fraction_upper t_fraction_lower))))
theorem ddV_X9_strips : yX9_strips.cls = RX9 ∧ yX9_strips.cls ≠ "java/lang/invoke/MethodHandle" ∧ yX9_strips.cls ≠ "java/lang/invoke/VarHandle" ∧ (parseMethodDescriptor yX9_strips.desc).map (fun d => d.parameters.length) = some 2 := by decide +kernel
set_option maxHeartbeats 4000000 in
set_option maxRecDepth 100000 in
theorem c_X9_strips (l : Launch) (E : gE) (q_t q_t_signs q_t_laps q_t_breaks q_t_fraction q_t_settings q_t_rates q_t_joints q_t_tested q_t_knocks q_t_choices q_t_tested_strength q_t_tested_barred q_t_tested_weights : Nat) (p0 : Int32) (p1 : Int32) (t_tested_count : Int32) (t_tested_barred : Nat → Bool) (t_tested_strength : Nat → Int32) (t_fraction_upper : Int64) (t_fraction_lower : Int64) (Q : Int64 → Int64 → Int64 → Prop) (hw : w_X9_strips p0 p1 t_tested_count t_tested_barred t_tested_strength t_fraction_upper t_fraction_lower Q) : Ct l E yX9_strips wsX9_strips { frames := 3, cells := 0, slots := 0, locals := 81 } [.ref q_t, .int p0, .int p1] [ob 9 q_t [.ref q_t_signs, .ref q_t_laps, .ref q_t_breaks, .ref q_t_fraction, .ref q_t_settings, .ref q_t_rates, .ref q_t_joints, .ref q_t_tested, .ref q_t_knocks, .ref q_t_choices], ob 8 q_t_tested [.ref q_t_tested_strength, .ref q_t_tested_barred, .ref q_t_tested_weights, .int t_tested_count], aZ E.Z q_t_tested_barred 20 t_tested_barred, aI E.I q_t_tested_strength 20 t_tested_strength, ob 2 q_t_fraction [.long t_fraction_upper, .long t_fraction_lower]] (S := Int64 × Int64 × Int64) (fun u => some (.long u.1)) (fun u => Q u.1 u.2.1 u.2.2) (fun u => [ob 9 q_t [.ref q_t_signs, .ref q_t_laps, .ref q_t_breaks, .ref q_t_fraction, .ref q_t_settings, .ref q_t_rates, .ref q_t_joints, .ref q_t_tested, .ref q_t_knocks, .ref q_t_choices], ob 8 q_t_tested [.ref q_t_tested_strength, .ref q_t_tested_barred, .ref q_t_tested_weights, .int t_tested_count], aZ E.Z q_t_tested_barred 20 t_tested_barred, aI E.I q_t_tested_strength 20 t_tested_strength, ob 2 q_t_fraction [.long u.2.1, .long u.2.2]]) := by
  unfold w_X9_strips at hw
  have hinX9 : ∀ w ∈ wsX90, w ∈ wsX9_strips := fun _ h => List.mem_cons_of_mem _ (List.mem_append_left _ (List.mem_append_left _ (List.mem_append_right _ h)))
  refine g_start (cc := cX9_strips) (nL := 3) (own := RX9) (ret := (some .long)) rfl (by decide) rfl (Nat.le_of_ble_eq_true rfl) (lv0 := [(0, .ref q_t), (1, .int p0), (2, .int p1)]) rfl (fun X C0 R1 => ?_)
  refine g_iload_n C0 dX9_strips_0 1 rfl ?_
  refine g_iconst C0 (v := 0) dX9_strips_1 (by decide) ?_
  refine g_iconst C0 (v := 1) dX9_strips_2 (by decide) ?_
  refine g_callS C0 (c_X9_within l E p0 0 1 _ hw) dX9_strips_3 gX9_strips_X9_within rfl ddS_X9_within rfl (by decide) (by decide) rfl (Nat.le_of_ble_eq_true rfl) [] [0, 1, 2, 3, 4] rfl (wr := [ob 9 q_t [.ref q_t_signs, .ref q_t_laps, .ref q_t_breaks, .ref q_t_fraction, .ref q_t_settings, .ref q_t_rates, .ref q_t_joints, .ref q_t_tested, .ref q_t_knocks, .ref q_t_choices], ob 8 q_t_tested [.ref q_t_tested_strength, .ref q_t_tested_barred, .ref q_t_tested_weights, .int t_tested_count], aZ E.Z q_t_tested_barred 20 t_tested_barred, aI E.I q_t_tested_strength 20 t_tested_strength, ob 2 q_t_fraction [.long t_fraction_upper, .long t_fraction_lower]]) rfl (by decide) (by decide) (by decide) (fun u hw => ?_)
  obtain ⟨r1, hu_⟩ : ∃ z, z = u := ⟨_, rfl⟩
  subst hu_
  try dsimp only at hw
  show G X E 3 [ob 9 q_t [.ref q_t_signs, .ref q_t_laps, .ref q_t_breaks, .ref q_t_fraction, .ref q_t_settings, .ref q_t_rates, .ref q_t_joints, .ref q_t_tested, .ref q_t_knocks, .ref q_t_choices], ob 8 q_t_tested [.ref q_t_tested_strength, .ref q_t_tested_barred, .ref q_t_tested_weights, .int t_tested_count], aZ E.Z q_t_tested_barred 20 t_tested_barred, aI E.I q_t_tested_strength 20 t_tested_strength, ob 2 q_t_fraction [.long t_fraction_upper, .long t_fraction_lower]] 0 0 6 [(0, .ref q_t), (1, .int p0), (2, .int p1)] [.int (bI r1)]
  refine g_ifb_eq C0 (tgt := 16) dX9_strips_6 (by decide) (fun c2 => ?_) (fun c2 => ?_)
  · replace hw := hw.1 c2
    refine g_ldc2 C0 (v := (-1000000000000000002)) dX9_strips_16 (List.mem_of_getElem? (i := 1) rfl) ?_
    exact g_lret C0 R1 dX9_strips_19 ((-1000000000000000002), t_fraction_upper, t_fraction_lower) rfl hw [0, 1, 2, 3, 4] (by decide) rfl (by decide) (by decide)
  · replace hw := hw.2 c2
    refine g_iload_n C0 dX9_strips_9 2 rfl ?_
    refine g_callS C0 (c_X9_isPart l E p1 _ hw) dX9_strips_10 gX9_strips_X9_isPart rfl ddS_X9_isPart rfl (by decide) (by decide) rfl (Nat.le_of_ble_eq_true rfl) [] [0, 1, 2, 3, 4] rfl (wr := [ob 9 q_t [.ref q_t_signs, .ref q_t_laps, .ref q_t_breaks, .ref q_t_fraction, .ref q_t_settings, .ref q_t_rates, .ref q_t_joints, .ref q_t_tested, .ref q_t_knocks, .ref q_t_choices], ob 8 q_t_tested [.ref q_t_tested_strength, .ref q_t_tested_barred, .ref q_t_tested_weights, .int t_tested_count], aZ E.Z q_t_tested_barred 20 t_tested_barred, aI E.I q_t_tested_strength 20 t_tested_strength, ob 2 q_t_fraction [.long t_fraction_upper, .long t_fraction_lower]]) rfl (by decide) (by decide) (by decide) (fun u hw => ?_)
    obtain ⟨r3, hu_⟩ : ∃ z, z = u := ⟨_, rfl⟩
    subst hu_
    try dsimp only at hw
    show G X E 3 [ob 9 q_t [.ref q_t_signs, .ref q_t_laps, .ref q_t_breaks, .ref q_t_fraction, .ref q_t_settings, .ref q_t_rates, .ref q_t_joints, .ref q_t_tested, .ref q_t_knocks, .ref q_t_choices], ob 8 q_t_tested [.ref q_t_tested_strength, .ref q_t_tested_barred, .ref q_t_tested_weights, .int t_tested_count], aZ E.Z q_t_tested_barred 20 t_tested_barred, aI E.I q_t_tested_strength 20 t_tested_strength, ob 2 q_t_fraction [.long t_fraction_upper, .long t_fraction_lower]] 0 0 13 [(0, .ref q_t), (1, .int p0), (2, .int p1)] [.int (bI r3)]
    refine g_ifb_ne C0 (tgt := 20) dX9_strips_13 (by decide) (fun c4 => ?_) (fun c4 => ?_)
    · replace hw := hw.1 c4
      refine g_aload_n C0 dX9_strips_20 0 rfl ?_
      refine g_get C0 dX9_strips_21 0 rfl 7 rfl rfl hinX9 (by decide) (List.mem_of_getElem? (i := 2) rfl) rfl ?_
      refine g_callV C0 (q0 := 1) (ci := 8) (c_X8_kept l E q_t_tested q_t_tested_strength q_t_tested_barred q_t_tested_weights t_tested_count t_tested_barred _ hw) dX9_strips_24 gX9_strips_X8_kept rfl ddV_X8_kept rfl (by decide) (by decide) rfl (Nat.le_of_ble_eq_true rfl) [1, 2] [0, 3, 4] rfl (wr := [ob 9 q_t [.ref q_t_signs, .ref q_t_laps, .ref q_t_breaks, .ref q_t_fraction, .ref q_t_settings, .ref q_t_rates, .ref q_t_joints, .ref q_t_tested, .ref q_t_knocks, .ref q_t_choices], aI E.I q_t_tested_strength 20 t_tested_strength, ob 2 q_t_fraction [.long t_fraction_upper, .long t_fraction_lower]]) rfl (by decide) (by decide) (by decide) rfl rfl (fun u hw => ?_)
      obtain ⟨r5, hu_⟩ : ∃ z, z = u := ⟨_, rfl⟩
      subst hu_
      try dsimp only at hw
      show G X E 3 [ob 9 q_t [.ref q_t_signs, .ref q_t_laps, .ref q_t_breaks, .ref q_t_fraction, .ref q_t_settings, .ref q_t_rates, .ref q_t_joints, .ref q_t_tested, .ref q_t_knocks, .ref q_t_choices], aI E.I q_t_tested_strength 20 t_tested_strength, ob 2 q_t_fraction [.long t_fraction_upper, .long t_fraction_lower], ob 8 q_t_tested [.ref q_t_tested_strength, .ref q_t_tested_barred, .ref q_t_tested_weights, .int t_tested_count], aZ E.Z q_t_tested_barred 20 t_tested_barred] 0 0 27 [(0, .ref q_t), (1, .int p0), (2, .int p1)] [.int r5]
      refine g_if_ne C0 (tgt := 34) dX9_strips_27 (by decide) (fun c6 => ?_) (fun c6 => ?_)
      · replace hw := hw.1 c6
        refine g_iload_n C0 dX9_strips_34 1 rfl ?_
        refine wj2_go (P := fun (t_fraction_upper_7 : Int64) (t_fraction_lower_8 : Int64) => G X E 3 [ob 9 q_t [.ref q_t_signs, .ref q_t_laps, .ref q_t_breaks, .ref q_t_fraction, .ref q_t_settings, .ref q_t_rates, .ref q_t_joints, .ref q_t_tested, .ref q_t_knocks, .ref q_t_choices], ob 8 q_t_tested [.ref q_t_tested_strength, .ref q_t_tested_barred, .ref q_t_tested_weights, .int t_tested_count], aZ E.Z q_t_tested_barred 20 t_tested_barred, aI E.I q_t_tested_strength 20 t_tested_strength, ob 2 q_t_fraction [.long t_fraction_upper_7, .long t_fraction_lower_8]] 0 0 63 [(0, .ref q_t), (2, .int p1)] []) hw (fun t_fraction_upper_7 t_fraction_lower_8 hw => ?_) (fun J9 hJ9 hw => ?_)
        · refine g_aload_n C0 dX9_strips_63 0 rfl ?_
          refine g_get C0 dX9_strips_64 0 rfl 3 rfl rfl hinX9 (by decide) (List.mem_of_getElem? (i := 4) rfl) rfl ?_
          refine g_iload_n C0 dX9_strips_67 1 rfl ?_
          refine g_callV C0 (q0 := 4) (ci := 2) (c_X2_number l E q_t_fraction p1 t_fraction_upper_7 t_fraction_lower_8 _ hw) dX9_strips_68 gX9_strips_X2_number rfl ddV_X2_number rfl (by decide) (by decide) rfl (Nat.le_of_ble_eq_true rfl) [4] [0, 1, 2, 3] rfl (wr := [ob 9 q_t [.ref q_t_signs, .ref q_t_laps, .ref q_t_breaks, .ref q_t_fraction, .ref q_t_settings, .ref q_t_rates, .ref q_t_joints, .ref q_t_tested, .ref q_t_knocks, .ref q_t_choices], ob 8 q_t_tested [.ref q_t_tested_strength, .ref q_t_tested_barred, .ref q_t_tested_weights, .int t_tested_count], aZ E.Z q_t_tested_barred 20 t_tested_barred, aI E.I q_t_tested_strength 20 t_tested_strength]) rfl (by decide) (by decide) (by decide) rfl rfl (fun u hw => ?_)
          obtain ⟨r10, hu_⟩ : ∃ z, z = u := ⟨_, rfl⟩
          subst hu_
          try dsimp only at hw
          show G X E 3 [ob 9 q_t [.ref q_t_signs, .ref q_t_laps, .ref q_t_breaks, .ref q_t_fraction, .ref q_t_settings, .ref q_t_rates, .ref q_t_joints, .ref q_t_tested, .ref q_t_knocks, .ref q_t_choices], ob 8 q_t_tested [.ref q_t_tested_strength, .ref q_t_tested_barred, .ref q_t_tested_weights, .int t_tested_count], aZ E.Z q_t_tested_barred 20 t_tested_barred, aI E.I q_t_tested_strength 20 t_tested_strength, ob 2 q_t_fraction [.long t_fraction_upper_7, .long t_fraction_lower_8]] 0 0 71 [(0, .ref q_t), (2, .int p1)] [.long r10]
          exact g_lret C0 R1 dX9_strips_71 (r10, t_fraction_upper_7, t_fraction_lower_8) rfl hw [0, 1, 2, 3, 4] (by decide) rfl (by decide) (by decide)
        · refine g_if_ne C0 (tgt := 52) dX9_strips_35 (by decide) (fun c11 => ?_) (fun c11 => ?_)
          · replace hw := hw.1 c11
            refine g_aload_n C0 dX9_strips_52 0 rfl ?_
            refine g_get C0 dX9_strips_53 0 rfl 7 rfl rfl hinX9 (by decide) (List.mem_of_getElem? (i := 2) rfl) rfl ?_
            refine g_aload_n C0 dX9_strips_56 0 rfl ?_
            refine g_get C0 dX9_strips_57 0 rfl 3 rfl rfl hinX9 (by decide) (List.mem_of_getElem? (i := 4) rfl) rfl ?_
            refine g_callV C0 (q0 := 3) (ci := 8) (c_X8_tellSpread l E q_t_tested q_t_fraction q_t_tested_strength q_t_tested_barred q_t_tested_weights t_tested_count t_tested_barred t_tested_strength t_fraction_upper t_fraction_lower _ hw) dX9_strips_60 gX9_strips_X8_tellSpread rfl ddV_X8_tellSpread rfl (by decide) (by decide) rfl (Nat.le_of_ble_eq_true rfl) [3, 4, 1, 2] [0] rfl (wr := [ob 9 q_t [.ref q_t_signs, .ref q_t_laps, .ref q_t_breaks, .ref q_t_fraction, .ref q_t_settings, .ref q_t_rates, .ref q_t_joints, .ref q_t_tested, .ref q_t_knocks, .ref q_t_choices]]) rfl (by decide) (by decide) (by decide) rfl rfl (fun u hw => ?_)
            obtain ⟨t_fraction_upper_12, t_fraction_lower_13⟩ := u
            try dsimp only at hw
            show G X E 3 [ob 9 q_t [.ref q_t_signs, .ref q_t_laps, .ref q_t_breaks, .ref q_t_fraction, .ref q_t_settings, .ref q_t_rates, .ref q_t_joints, .ref q_t_tested, .ref q_t_knocks, .ref q_t_choices], ob 8 q_t_tested [.ref q_t_tested_strength, .ref q_t_tested_barred, .ref q_t_tested_weights, .int t_tested_count], aZ E.Z q_t_tested_barred 20 t_tested_barred, aI E.I q_t_tested_strength 20 t_tested_strength, ob 2 q_t_fraction [.long t_fraction_upper_12, .long t_fraction_lower_13]] 0 0 63 [(0, .ref q_t), (1, .int p0), (2, .int p1)] []
            refine g_lv [0, 2] (lv2 := [(0, .ref q_t), (2, .int p1)]) rfl ?_
            exact hJ9 _ _ hw
          · replace hw := hw.2 c11
            refine g_aload_n C0 dX9_strips_38 0 rfl ?_
            refine g_get C0 dX9_strips_39 0 rfl 7 rfl rfl hinX9 (by decide) (List.mem_of_getElem? (i := 2) rfl) rfl ?_
            refine g_aload_n C0 dX9_strips_42 0 rfl ?_
            refine g_get C0 dX9_strips_43 0 rfl 3 rfl rfl hinX9 (by decide) (List.mem_of_getElem? (i := 4) rfl) rfl ?_
            refine g_callV C0 (q0 := 3) (ci := 8) (c_X8_tellMean l E q_t_tested q_t_fraction q_t_tested_strength q_t_tested_barred q_t_tested_weights t_tested_count t_tested_barred t_tested_strength t_fraction_upper t_fraction_lower _ hw) dX9_strips_46 gX9_strips_X8_tellMean rfl ddV_X8_tellMean rfl (by decide) (by decide) rfl (Nat.le_of_ble_eq_true rfl) [3, 4, 1, 2] [0] rfl (wr := [ob 9 q_t [.ref q_t_signs, .ref q_t_laps, .ref q_t_breaks, .ref q_t_fraction, .ref q_t_settings, .ref q_t_rates, .ref q_t_joints, .ref q_t_tested, .ref q_t_knocks, .ref q_t_choices]]) rfl (by decide) (by decide) (by decide) rfl rfl (fun u hw => ?_)
            obtain ⟨t_fraction_upper_14, t_fraction_lower_15⟩ := u
            try dsimp only at hw
            show G X E 3 [ob 9 q_t [.ref q_t_signs, .ref q_t_laps, .ref q_t_breaks, .ref q_t_fraction, .ref q_t_settings, .ref q_t_rates, .ref q_t_joints, .ref q_t_tested, .ref q_t_knocks, .ref q_t_choices], ob 8 q_t_tested [.ref q_t_tested_strength, .ref q_t_tested_barred, .ref q_t_tested_weights, .int t_tested_count], aZ E.Z q_t_tested_barred 20 t_tested_barred, aI E.I q_t_tested_strength 20 t_tested_strength, ob 2 q_t_fraction [.long t_fraction_upper_14, .long t_fraction_lower_15]] 0 0 49 [(0, .ref q_t), (1, .int p0), (2, .int p1)] []
            refine g_goto C0 (tgt := 63) dX9_strips_49 (by decide) ?_
            refine g_lv [0, 2] (lv2 := [(0, .ref q_t), (2, .int p1)]) rfl ?_
            exact hJ9 _ _ hw
      · replace hw := hw.2 c6
        refine g_ldc2 C0 (v := (-1000000000000000003)) dX9_strips_30 (List.mem_of_getElem? (i := 3) rfl) ?_
        exact g_lret C0 R1 dX9_strips_33 ((-1000000000000000003), t_fraction_upper, t_fraction_lower) rfl hw [0, 3, 4, 1, 2] (by decide) rfl (by decide) (by decide)
    · replace hw := hw.2 c4
      refine g_ldc2 C0 (v := (-1000000000000000002)) dX9_strips_16 (List.mem_of_getElem? (i := 1) rfl) ?_
      exact g_lret C0 R1 dX9_strips_19 ((-1000000000000000002), t_fraction_upper, t_fraction_lower) rfl hw [0, 1, 2, 3, 4] (by decide) rfl (by decide) (by decide)
def w_X9_weak (t_settings : Nat → Int32) (t_tested_count : Int32) (t_tested_barred : Nat → Bool) (t_tested_strength : Nat → Int32) (Q : Int32 → Prop) : Prop := vp_in 5 8 ∧ (w_X8_countWeak (t_settings (Int32.toNatClampNeg 5)) t_tested_count t_tested_barred t_tested_strength (fun (r2 : Int32) => Q r2))
theorem ddV_X9_weak : yX9_weak.cls = RX9 ∧ yX9_weak.cls ≠ "java/lang/invoke/MethodHandle" ∧ yX9_weak.cls ≠ "java/lang/invoke/VarHandle" ∧ (parseMethodDescriptor yX9_weak.desc).map (fun d => d.parameters.length) = some 0 := by decide +kernel
set_option maxHeartbeats 4000000 in
set_option maxRecDepth 100000 in
theorem c_X9_weak (l : Launch) (E : gE) (q_t q_t_signs q_t_laps q_t_breaks q_t_fraction q_t_settings q_t_rates q_t_joints q_t_tested q_t_knocks q_t_choices q_t_tested_strength q_t_tested_barred q_t_tested_weights : Nat) (t_settings : Nat → Int32) (t_tested_count : Int32) (t_tested_barred : Nat → Bool) (t_tested_strength : Nat → Int32) (Q : Int32 → Prop) (hw : w_X9_weak t_settings t_tested_count t_tested_barred t_tested_strength Q) : Ct l E yX9_weak wsX9_weak { frames := 2, cells := 0, slots := 0, locals := 46 } [.ref q_t] [ob 9 q_t [.ref q_t_signs, .ref q_t_laps, .ref q_t_breaks, .ref q_t_fraction, .ref q_t_settings, .ref q_t_rates, .ref q_t_joints, .ref q_t_tested, .ref q_t_knocks, .ref q_t_choices], aI E.I q_t_settings 8 t_settings, ob 8 q_t_tested [.ref q_t_tested_strength, .ref q_t_tested_barred, .ref q_t_tested_weights, .int t_tested_count], aZ E.Z q_t_tested_barred 20 t_tested_barred, aI E.I q_t_tested_strength 20 t_tested_strength] (S := Int32) (fun u => some (.int u)) (fun u => Q u) (fun u => [ob 9 q_t [.ref q_t_signs, .ref q_t_laps, .ref q_t_breaks, .ref q_t_fraction, .ref q_t_settings, .ref q_t_rates, .ref q_t_joints, .ref q_t_tested, .ref q_t_knocks, .ref q_t_choices], aI E.I q_t_settings 8 t_settings, ob 8 q_t_tested [.ref q_t_tested_strength, .ref q_t_tested_barred, .ref q_t_tested_weights, .int t_tested_count], aZ E.Z q_t_tested_barred 20 t_tested_barred, aI E.I q_t_tested_strength 20 t_tested_strength]) := by
  unfold w_X9_weak at hw
  have hinX9 : ∀ w ∈ wsX90, w ∈ wsX9_weak := fun _ h => List.mem_cons_of_mem _ (List.mem_append_left _ (List.mem_append_right _ h))
  refine g_start (cc := cX9_weak) (nL := 1) (own := RX9) (ret := (some .int)) rfl (by decide) rfl (Nat.le_of_ble_eq_true rfl) (lv0 := [(0, .ref q_t)]) rfl (fun X C0 R1 => ?_)
  refine g_aload_n C0 dX9_weak_0 0 rfl ?_
  refine g_get C0 dX9_weak_1 0 rfl 7 rfl rfl hinX9 (by decide) (List.mem_of_getElem? (i := 1) rfl) rfl ?_
  refine g_aload_n C0 dX9_weak_4 0 rfl ?_
  refine g_get C0 dX9_weak_5 0 rfl 4 rfl rfl hinX9 (by decide) (List.mem_of_getElem? (i := 2) rfl) rfl ?_
  refine g_iconst C0 (v := 5) dX9_weak_8 (by decide) ?_
  obtain ⟨h1, hw⟩ := hw
  refine g_iald C0 (cA := E.I) dX9_weak_9 1 rfl h1 ?_
  refine g_callV C0 (q0 := 2) (ci := 8) (c_X8_countWeak l E q_t_tested q_t_tested_strength q_t_tested_barred q_t_tested_weights (t_settings (Int32.toNatClampNeg 5)) t_tested_count t_tested_barred t_tested_strength _ hw) dX9_weak_10 gX9_weak_X8_countWeak rfl ddV_X8_countWeak rfl (by decide) (by decide) rfl (Nat.le_of_ble_eq_true rfl) [2, 3, 4] [0, 1] rfl (wr := [ob 9 q_t [.ref q_t_signs, .ref q_t_laps, .ref q_t_breaks, .ref q_t_fraction, .ref q_t_settings, .ref q_t_rates, .ref q_t_joints, .ref q_t_tested, .ref q_t_knocks, .ref q_t_choices], aI E.I q_t_settings 8 t_settings]) rfl (by decide) (by decide) (by decide) rfl rfl (fun u hw => ?_)
  obtain ⟨r2, hu_⟩ : ∃ z, z = u := ⟨_, rfl⟩
  subst hu_
  try dsimp only at hw
  show G X E 1 [ob 9 q_t [.ref q_t_signs, .ref q_t_laps, .ref q_t_breaks, .ref q_t_fraction, .ref q_t_settings, .ref q_t_rates, .ref q_t_joints, .ref q_t_tested, .ref q_t_knocks, .ref q_t_choices], aI E.I q_t_settings 8 t_settings, ob 8 q_t_tested [.ref q_t_tested_strength, .ref q_t_tested_barred, .ref q_t_tested_weights, .int t_tested_count], aZ E.Z q_t_tested_barred 20 t_tested_barred, aI E.I q_t_tested_strength 20 t_tested_strength] 0 0 13 [(0, .ref q_t)] [.int r2]
  exact g_iret C0 R1 dX9_weak_13 r2 rfl hw [0, 1, 2, 3, 4] (by decide) rfl (by decide) (by decide)
def w_X9_odd (p0 : Int32) (p1 : Int32) (t_tested_count : Int32) (t_tested_barred : Nat → Bool) (t_settings : Nat → Int32) (t_tested_weights : Nat → Int64) (t_tested_strength : Nat → Int32) (t_fraction_upper : Int64) (t_fraction_lower : Int64) (Q : Int64 → (Nat → Int64) → Int64 → Int64 → Prop) : Prop := w_X9_within p0 1 19 (fun (r1 : Bool) => (r1 = false → Q (-1000000000000000002) t_tested_weights t_fraction_upper t_fraction_lower) ∧ (r1 = true → w_X9_isPart p1 (fun (r3 : Bool) => (r3 = true → w_X8_kept t_tested_count t_tested_barred (fun (r5 : Int32) => (¬ r5 = 0 → vp_in 5 8 ∧ (w_X8_tellOdds p0 (t_settings (Int32.toNatClampNeg 5)) t_tested_count t_tested_barred t_tested_weights t_tested_strength t_fraction_upper t_fraction_lower (fun (t_tested_weights_8 : Nat → Int64) (t_fraction_upper_9 : Int64) (t_fraction_lower_10 : Int64) => w_X2_number p1 t_fraction_upper_9 t_fraction_lower_10 (fun (r11 : Int64) => Q r11 t_tested_weights_8 t_fraction_upper_9 t_fraction_lower_10)))) ∧ (r5 = 0 → Q (-1000000000000000003) t_tested_weights t_fraction_upper t_fraction_lower))) ∧ (r3 = false → Q (-1000000000000000002) t_tested_weights t_fraction_upper t_fraction_lower))))
theorem ddV_X9_odd : yX9_odd.cls = RX9 ∧ yX9_odd.cls ≠ "java/lang/invoke/MethodHandle" ∧ yX9_odd.cls ≠ "java/lang/invoke/VarHandle" ∧ (parseMethodDescriptor yX9_odd.desc).map (fun d => d.parameters.length) = some 2 := by decide +kernel
set_option maxHeartbeats 4000000 in
set_option maxRecDepth 100000 in
theorem c_X9_odd (l : Launch) (E : gE) (q_t q_t_signs q_t_laps q_t_breaks q_t_fraction q_t_settings q_t_rates q_t_joints q_t_tested q_t_knocks q_t_choices q_t_tested_strength q_t_tested_barred q_t_tested_weights : Nat) (p0 : Int32) (p1 : Int32) (t_tested_count : Int32) (t_tested_barred : Nat → Bool) (t_settings : Nat → Int32) (t_tested_weights : Nat → Int64) (t_tested_strength : Nat → Int32) (t_fraction_upper : Int64) (t_fraction_lower : Int64) (Q : Int64 → (Nat → Int64) → Int64 → Int64 → Prop) (hw : w_X9_odd p0 p1 t_tested_count t_tested_barred t_settings t_tested_weights t_tested_strength t_fraction_upper t_fraction_lower Q) : Ct l E yX9_odd wsX9_odd { frames := 3, cells := 0, slots := 0, locals := 86 } [.ref q_t, .int p0, .int p1] [ob 9 q_t [.ref q_t_signs, .ref q_t_laps, .ref q_t_breaks, .ref q_t_fraction, .ref q_t_settings, .ref q_t_rates, .ref q_t_joints, .ref q_t_tested, .ref q_t_knocks, .ref q_t_choices], ob 8 q_t_tested [.ref q_t_tested_strength, .ref q_t_tested_barred, .ref q_t_tested_weights, .int t_tested_count], aZ E.Z q_t_tested_barred 20 t_tested_barred, aI E.I q_t_settings 8 t_settings, aJ E.J q_t_tested_weights 13 t_tested_weights, aI E.I q_t_tested_strength 20 t_tested_strength, ob 2 q_t_fraction [.long t_fraction_upper, .long t_fraction_lower]] (S := Int64 × (Nat → Int64) × Int64 × Int64) (fun u => some (.long u.1)) (fun u => Q u.1 u.2.1 u.2.2.1 u.2.2.2) (fun u => [ob 9 q_t [.ref q_t_signs, .ref q_t_laps, .ref q_t_breaks, .ref q_t_fraction, .ref q_t_settings, .ref q_t_rates, .ref q_t_joints, .ref q_t_tested, .ref q_t_knocks, .ref q_t_choices], ob 8 q_t_tested [.ref q_t_tested_strength, .ref q_t_tested_barred, .ref q_t_tested_weights, .int t_tested_count], aZ E.Z q_t_tested_barred 20 t_tested_barred, aI E.I q_t_settings 8 t_settings, aJ E.J q_t_tested_weights 13 u.2.1, aI E.I q_t_tested_strength 20 t_tested_strength, ob 2 q_t_fraction [.long u.2.2.1, .long u.2.2.2]]) := by
  unfold w_X9_odd at hw
  have hinX9 : ∀ w ∈ wsX90, w ∈ wsX9_odd := fun _ h => List.mem_cons_of_mem _ (List.mem_append_left _ (List.mem_append_left _ (List.mem_append_right _ h)))
  refine g_start (cc := cX9_odd) (nL := 3) (own := RX9) (ret := (some .long)) rfl (by decide) rfl (Nat.le_of_ble_eq_true rfl) (lv0 := [(0, .ref q_t), (1, .int p0), (2, .int p1)]) rfl (fun X C0 R1 => ?_)
  refine g_iload_n C0 dX9_odd_0 1 rfl ?_
  refine g_iconst C0 (v := 1) dX9_odd_1 (by decide) ?_
  refine g_bipush C0 (v := 19) dX9_odd_2 (by decide) ?_
  refine g_callS C0 (c_X9_within l E p0 1 19 _ hw) dX9_odd_4 gX9_odd_X9_within rfl ddS_X9_within rfl (by decide) (by decide) rfl (Nat.le_of_ble_eq_true rfl) [] [0, 1, 2, 3, 4, 5, 6] rfl (wr := [ob 9 q_t [.ref q_t_signs, .ref q_t_laps, .ref q_t_breaks, .ref q_t_fraction, .ref q_t_settings, .ref q_t_rates, .ref q_t_joints, .ref q_t_tested, .ref q_t_knocks, .ref q_t_choices], ob 8 q_t_tested [.ref q_t_tested_strength, .ref q_t_tested_barred, .ref q_t_tested_weights, .int t_tested_count], aZ E.Z q_t_tested_barred 20 t_tested_barred, aI E.I q_t_settings 8 t_settings, aJ E.J q_t_tested_weights 13 t_tested_weights, aI E.I q_t_tested_strength 20 t_tested_strength, ob 2 q_t_fraction [.long t_fraction_upper, .long t_fraction_lower]]) rfl (by decide) (by decide) (by decide) (fun u hw => ?_)
  obtain ⟨r1, hu_⟩ : ∃ z, z = u := ⟨_, rfl⟩
  subst hu_
  try dsimp only at hw
  show G X E 3 [ob 9 q_t [.ref q_t_signs, .ref q_t_laps, .ref q_t_breaks, .ref q_t_fraction, .ref q_t_settings, .ref q_t_rates, .ref q_t_joints, .ref q_t_tested, .ref q_t_knocks, .ref q_t_choices], ob 8 q_t_tested [.ref q_t_tested_strength, .ref q_t_tested_barred, .ref q_t_tested_weights, .int t_tested_count], aZ E.Z q_t_tested_barred 20 t_tested_barred, aI E.I q_t_settings 8 t_settings, aJ E.J q_t_tested_weights 13 t_tested_weights, aI E.I q_t_tested_strength 20 t_tested_strength, ob 2 q_t_fraction [.long t_fraction_upper, .long t_fraction_lower]] 0 0 7 [(0, .ref q_t), (1, .int p0), (2, .int p1)] [.int (bI r1)]
  refine g_ifb_eq C0 (tgt := 17) dX9_odd_7 (by decide) (fun c2 => ?_) (fun c2 => ?_)
  · replace hw := hw.1 c2
    refine g_ldc2 C0 (v := (-1000000000000000002)) dX9_odd_17 (List.mem_of_getElem? (i := 1) rfl) ?_
    exact g_lret C0 R1 dX9_odd_20 ((-1000000000000000002), t_tested_weights, t_fraction_upper, t_fraction_lower) rfl hw [0, 1, 2, 3, 4, 5, 6] (by decide) rfl (by decide) (by decide)
  · replace hw := hw.2 c2
    refine g_iload_n C0 dX9_odd_10 2 rfl ?_
    refine g_callS C0 (c_X9_isPart l E p1 _ hw) dX9_odd_11 gX9_odd_X9_isPart rfl ddS_X9_isPart rfl (by decide) (by decide) rfl (Nat.le_of_ble_eq_true rfl) [] [0, 1, 2, 3, 4, 5, 6] rfl (wr := [ob 9 q_t [.ref q_t_signs, .ref q_t_laps, .ref q_t_breaks, .ref q_t_fraction, .ref q_t_settings, .ref q_t_rates, .ref q_t_joints, .ref q_t_tested, .ref q_t_knocks, .ref q_t_choices], ob 8 q_t_tested [.ref q_t_tested_strength, .ref q_t_tested_barred, .ref q_t_tested_weights, .int t_tested_count], aZ E.Z q_t_tested_barred 20 t_tested_barred, aI E.I q_t_settings 8 t_settings, aJ E.J q_t_tested_weights 13 t_tested_weights, aI E.I q_t_tested_strength 20 t_tested_strength, ob 2 q_t_fraction [.long t_fraction_upper, .long t_fraction_lower]]) rfl (by decide) (by decide) (by decide) (fun u hw => ?_)
    obtain ⟨r3, hu_⟩ : ∃ z, z = u := ⟨_, rfl⟩
    subst hu_
    try dsimp only at hw
    show G X E 3 [ob 9 q_t [.ref q_t_signs, .ref q_t_laps, .ref q_t_breaks, .ref q_t_fraction, .ref q_t_settings, .ref q_t_rates, .ref q_t_joints, .ref q_t_tested, .ref q_t_knocks, .ref q_t_choices], ob 8 q_t_tested [.ref q_t_tested_strength, .ref q_t_tested_barred, .ref q_t_tested_weights, .int t_tested_count], aZ E.Z q_t_tested_barred 20 t_tested_barred, aI E.I q_t_settings 8 t_settings, aJ E.J q_t_tested_weights 13 t_tested_weights, aI E.I q_t_tested_strength 20 t_tested_strength, ob 2 q_t_fraction [.long t_fraction_upper, .long t_fraction_lower]] 0 0 14 [(0, .ref q_t), (1, .int p0), (2, .int p1)] [.int (bI r3)]
    refine g_ifb_ne C0 (tgt := 21) dX9_odd_14 (by decide) (fun c4 => ?_) (fun c4 => ?_)
    · replace hw := hw.1 c4
      refine g_aload_n C0 dX9_odd_21 0 rfl ?_
      refine g_get C0 dX9_odd_22 0 rfl 7 rfl rfl hinX9 (by decide) (List.mem_of_getElem? (i := 2) rfl) rfl ?_
      refine g_callV C0 (q0 := 1) (ci := 8) (c_X8_kept l E q_t_tested q_t_tested_strength q_t_tested_barred q_t_tested_weights t_tested_count t_tested_barred _ hw) dX9_odd_25 gX9_odd_X8_kept rfl ddV_X8_kept rfl (by decide) (by decide) rfl (Nat.le_of_ble_eq_true rfl) [1, 2] [0, 3, 4, 5, 6] rfl (wr := [ob 9 q_t [.ref q_t_signs, .ref q_t_laps, .ref q_t_breaks, .ref q_t_fraction, .ref q_t_settings, .ref q_t_rates, .ref q_t_joints, .ref q_t_tested, .ref q_t_knocks, .ref q_t_choices], aI E.I q_t_settings 8 t_settings, aJ E.J q_t_tested_weights 13 t_tested_weights, aI E.I q_t_tested_strength 20 t_tested_strength, ob 2 q_t_fraction [.long t_fraction_upper, .long t_fraction_lower]]) rfl (by decide) (by decide) (by decide) rfl rfl (fun u hw => ?_)
      obtain ⟨r5, hu_⟩ : ∃ z, z = u := ⟨_, rfl⟩
      subst hu_
      try dsimp only at hw
      show G X E 3 [ob 9 q_t [.ref q_t_signs, .ref q_t_laps, .ref q_t_breaks, .ref q_t_fraction, .ref q_t_settings, .ref q_t_rates, .ref q_t_joints, .ref q_t_tested, .ref q_t_knocks, .ref q_t_choices], aI E.I q_t_settings 8 t_settings, aJ E.J q_t_tested_weights 13 t_tested_weights, aI E.I q_t_tested_strength 20 t_tested_strength, ob 2 q_t_fraction [.long t_fraction_upper, .long t_fraction_lower], ob 8 q_t_tested [.ref q_t_tested_strength, .ref q_t_tested_barred, .ref q_t_tested_weights, .int t_tested_count], aZ E.Z q_t_tested_barred 20 t_tested_barred] 0 0 28 [(0, .ref q_t), (1, .int p0), (2, .int p1)] [.int r5]
      refine g_if_ne C0 (tgt := 35) dX9_odd_28 (by decide) (fun c6 => ?_) (fun c6 => ?_)
      · replace hw := hw.1 c6
        refine g_aload_n C0 dX9_odd_35 0 rfl ?_
        refine g_get C0 dX9_odd_36 0 rfl 7 rfl rfl hinX9 (by decide) (List.mem_of_getElem? (i := 2) rfl) rfl ?_
        refine g_iload_n C0 dX9_odd_39 1 rfl ?_
        refine g_aload_n C0 dX9_odd_40 0 rfl ?_
        refine g_get C0 dX9_odd_41 0 rfl 4 rfl rfl hinX9 (by decide) (List.mem_of_getElem? (i := 4) rfl) rfl ?_
        refine g_iconst C0 (v := 5) dX9_odd_44 (by decide) ?_
        obtain ⟨h7, hw⟩ := hw
        refine g_iald C0 (cA := E.I) dX9_odd_45 1 rfl h7 ?_
        refine g_aload_n C0 dX9_odd_46 0 rfl ?_
        refine g_get C0 dX9_odd_47 0 rfl 3 rfl rfl hinX9 (by decide) (List.mem_of_getElem? (i := 5) rfl) rfl ?_
        refine g_callV C0 (q0 := 5) (ci := 8) (c_X8_tellOdds l E q_t_tested q_t_fraction q_t_tested_strength q_t_tested_barred q_t_tested_weights p0 (t_settings (Int32.toNatClampNeg 5)) t_tested_count t_tested_barred t_tested_weights t_tested_strength t_fraction_upper t_fraction_lower _ hw) dX9_odd_50 gX9_odd_X8_tellOdds rfl ddV_X8_tellOdds rfl (by decide) (by decide) rfl (Nat.le_of_ble_eq_true rfl) [5, 6, 2, 3, 4] [0, 1] rfl (wr := [ob 9 q_t [.ref q_t_signs, .ref q_t_laps, .ref q_t_breaks, .ref q_t_fraction, .ref q_t_settings, .ref q_t_rates, .ref q_t_joints, .ref q_t_tested, .ref q_t_knocks, .ref q_t_choices], aI E.I q_t_settings 8 t_settings]) rfl (by decide) (by decide) (by decide) rfl rfl (fun u hw => ?_)
        obtain ⟨t_tested_weights_8, t_fraction_upper_9, t_fraction_lower_10⟩ := u
        try dsimp only at hw
        show G X E 3 [ob 9 q_t [.ref q_t_signs, .ref q_t_laps, .ref q_t_breaks, .ref q_t_fraction, .ref q_t_settings, .ref q_t_rates, .ref q_t_joints, .ref q_t_tested, .ref q_t_knocks, .ref q_t_choices], aI E.I q_t_settings 8 t_settings, ob 8 q_t_tested [.ref q_t_tested_strength, .ref q_t_tested_barred, .ref q_t_tested_weights, .int t_tested_count], aZ E.Z q_t_tested_barred 20 t_tested_barred, aJ E.J q_t_tested_weights 13 t_tested_weights_8, aI E.I q_t_tested_strength 20 t_tested_strength, ob 2 q_t_fraction [.long t_fraction_upper_9, .long t_fraction_lower_10]] 0 0 53 [(0, .ref q_t), (1, .int p0), (2, .int p1)] []
        refine g_aload_n C0 dX9_odd_53 0 rfl ?_
        refine g_get C0 dX9_odd_54 0 rfl 3 rfl rfl hinX9 (by decide) (List.mem_of_getElem? (i := 5) rfl) rfl ?_
        refine g_iload_n C0 dX9_odd_57 2 rfl ?_
        refine g_callV C0 (q0 := 6) (ci := 2) (c_X2_number l E q_t_fraction p1 t_fraction_upper_9 t_fraction_lower_10 _ hw) dX9_odd_58 gX9_odd_X2_number rfl ddV_X2_number rfl (by decide) (by decide) rfl (Nat.le_of_ble_eq_true rfl) [6] [0, 1, 2, 3, 4, 5] rfl (wr := [ob 9 q_t [.ref q_t_signs, .ref q_t_laps, .ref q_t_breaks, .ref q_t_fraction, .ref q_t_settings, .ref q_t_rates, .ref q_t_joints, .ref q_t_tested, .ref q_t_knocks, .ref q_t_choices], aI E.I q_t_settings 8 t_settings, ob 8 q_t_tested [.ref q_t_tested_strength, .ref q_t_tested_barred, .ref q_t_tested_weights, .int t_tested_count], aZ E.Z q_t_tested_barred 20 t_tested_barred, aJ E.J q_t_tested_weights 13 t_tested_weights_8, aI E.I q_t_tested_strength 20 t_tested_strength]) rfl (by decide) (by decide) (by decide) rfl rfl (fun u hw => ?_)
        obtain ⟨r11, hu_⟩ : ∃ z, z = u := ⟨_, rfl⟩
        subst hu_
        try dsimp only at hw
        show G X E 3 [ob 9 q_t [.ref q_t_signs, .ref q_t_laps, .ref q_t_breaks, .ref q_t_fraction, .ref q_t_settings, .ref q_t_rates, .ref q_t_joints, .ref q_t_tested, .ref q_t_knocks, .ref q_t_choices], aI E.I q_t_settings 8 t_settings, ob 8 q_t_tested [.ref q_t_tested_strength, .ref q_t_tested_barred, .ref q_t_tested_weights, .int t_tested_count], aZ E.Z q_t_tested_barred 20 t_tested_barred, aJ E.J q_t_tested_weights 13 t_tested_weights_8, aI E.I q_t_tested_strength 20 t_tested_strength, ob 2 q_t_fraction [.long t_fraction_upper_9, .long t_fraction_lower_10]] 0 0 61 [(0, .ref q_t), (1, .int p0), (2, .int p1)] [.long r11]
        exact g_lret C0 R1 dX9_odd_61 (r11, t_tested_weights_8, t_fraction_upper_9, t_fraction_lower_10) rfl hw [0, 2, 3, 1, 4, 5, 6] (by decide) rfl (by decide) (by decide)
      · replace hw := hw.2 c6
        refine g_ldc2 C0 (v := (-1000000000000000003)) dX9_odd_31 (List.mem_of_getElem? (i := 3) rfl) ?_
        exact g_lret C0 R1 dX9_odd_34 ((-1000000000000000003), t_tested_weights, t_fraction_upper, t_fraction_lower) rfl hw [0, 5, 6, 1, 2, 3, 4] (by decide) rfl (by decide) (by decide)
    · replace hw := hw.2 c4
      refine g_ldc2 C0 (v := (-1000000000000000002)) dX9_odd_17 (List.mem_of_getElem? (i := 1) rfl) ?_
      exact g_lret C0 R1 dX9_odd_20 ((-1000000000000000002), t_tested_weights, t_fraction_upper, t_fraction_lower) rfl hw [0, 1, 2, 3, 4, 5, 6] (by decide) rfl (by decide) (by decide)
def w_X9_knock (p0 : Int32) (p1 : Int32) (t_knocks_heard : Nat → Int32) (Q : Int32 → (Nat → Int32) → Prop) : Prop := w_X9_within p0 0 9 (fun (r1 : Bool) => (r1 = true → w_X9_put p0 p1 (-1) 9 10 t_knocks_heard (fun (r3 : Int32) (t_knocks_heard_4 : Nat → Int32) => (¬ r3 = (-1) → Q r3 t_knocks_heard_4) ∧ (r3 = (-1) → Q (-6) t_knocks_heard_4))) ∧ (r1 = false → Q (-1) t_knocks_heard))
theorem ddV_X9_knock : yX9_knock.cls = RX9 ∧ yX9_knock.cls ≠ "java/lang/invoke/MethodHandle" ∧ yX9_knock.cls ≠ "java/lang/invoke/VarHandle" ∧ (parseMethodDescriptor yX9_knock.desc).map (fun d => d.parameters.length) = some 2 := by decide +kernel
set_option maxHeartbeats 4000000 in
set_option maxRecDepth 100000 in
theorem c_X9_knock (l : Launch) (E : gE) (q_t q_t_signs q_t_laps q_t_breaks q_t_fraction q_t_settings q_t_rates q_t_joints q_t_tested q_t_knocks q_t_choices q_t_knocks_heard q_t_knocks_sheetOf q_t_knocks_soundOf q_t_knocks_ways q_t_knocks_nextWays : Nat) (p0 : Int32) (p1 : Int32) (t_knocks_heard : Nat → Int32) (Q : Int32 → (Nat → Int32) → Prop) (hw : w_X9_knock p0 p1 t_knocks_heard Q) : Ct l E yX9_knock wsX9_knock { frames := 2, cells := 0, slots := 0, locals := 47 } [.ref q_t, .int p0, .int p1] [ob 9 q_t [.ref q_t_signs, .ref q_t_laps, .ref q_t_breaks, .ref q_t_fraction, .ref q_t_settings, .ref q_t_rates, .ref q_t_joints, .ref q_t_tested, .ref q_t_knocks, .ref q_t_choices], ob 4 q_t_knocks [.ref q_t_knocks_heard, .ref q_t_knocks_sheetOf, .ref q_t_knocks_soundOf, .ref q_t_knocks_ways, .ref q_t_knocks_nextWays], aI E.I q_t_knocks_heard 10 t_knocks_heard] (S := Int32 × (Nat → Int32)) (fun u => some (.int u.1)) (fun u => Q u.1 u.2) (fun u => [ob 9 q_t [.ref q_t_signs, .ref q_t_laps, .ref q_t_breaks, .ref q_t_fraction, .ref q_t_settings, .ref q_t_rates, .ref q_t_joints, .ref q_t_tested, .ref q_t_knocks, .ref q_t_choices], ob 4 q_t_knocks [.ref q_t_knocks_heard, .ref q_t_knocks_sheetOf, .ref q_t_knocks_soundOf, .ref q_t_knocks_ways, .ref q_t_knocks_nextWays], aI E.I q_t_knocks_heard 10 u.2]) := by
  unfold w_X9_knock at hw
  have hinX4 : ∀ w ∈ wsX40, w ∈ wsX9_knock := fun _ h => List.mem_cons_of_mem _ (List.mem_append_right _ h)
  have hinX9 : ∀ w ∈ wsX90, w ∈ wsX9_knock := fun _ h => List.mem_cons_of_mem _ (List.mem_append_left _ (List.mem_append_right _ h))
  refine g_start (cc := cX9_knock) (nL := 4) (own := RX9) (ret := (some .int)) rfl (by decide) rfl (Nat.le_of_ble_eq_true rfl) (lv0 := [(0, .ref q_t), (1, .int p0), (2, .int p1)]) rfl (fun X C0 R1 => ?_)
  refine g_iload_n C0 dX9_knock_0 1 rfl ?_
  refine g_iconst C0 (v := 0) dX9_knock_1 (by decide) ?_
  refine g_bipush C0 (v := 9) dX9_knock_2 (by decide) ?_
  refine g_callS C0 (c_X9_within l E p0 0 9 _ hw) dX9_knock_4 gX9_knock_X9_within rfl ddS_X9_within rfl (by decide) (by decide) rfl (Nat.le_of_ble_eq_true rfl) [] [0, 1, 2] rfl (wr := [ob 9 q_t [.ref q_t_signs, .ref q_t_laps, .ref q_t_breaks, .ref q_t_fraction, .ref q_t_settings, .ref q_t_rates, .ref q_t_joints, .ref q_t_tested, .ref q_t_knocks, .ref q_t_choices], ob 4 q_t_knocks [.ref q_t_knocks_heard, .ref q_t_knocks_sheetOf, .ref q_t_knocks_soundOf, .ref q_t_knocks_ways, .ref q_t_knocks_nextWays], aI E.I q_t_knocks_heard 10 t_knocks_heard]) rfl (by decide) (by decide) (by decide) (fun u hw => ?_)
  obtain ⟨r1, hu_⟩ : ∃ z, z = u := ⟨_, rfl⟩
  subst hu_
  try dsimp only at hw
  show G X E 4 [ob 9 q_t [.ref q_t_signs, .ref q_t_laps, .ref q_t_breaks, .ref q_t_fraction, .ref q_t_settings, .ref q_t_rates, .ref q_t_joints, .ref q_t_tested, .ref q_t_knocks, .ref q_t_choices], ob 4 q_t_knocks [.ref q_t_knocks_heard, .ref q_t_knocks_sheetOf, .ref q_t_knocks_soundOf, .ref q_t_knocks_ways, .ref q_t_knocks_nextWays], aI E.I q_t_knocks_heard 10 t_knocks_heard] 0 0 7 [(0, .ref q_t), (1, .int p0), (2, .int p1)] [.int (bI r1)]
  refine g_ifb_ne C0 (tgt := 12) dX9_knock_7 (by decide) (fun c2 => ?_) (fun c2 => ?_)
  · replace hw := hw.1 c2
    refine g_aload_n C0 dX9_knock_12 0 rfl ?_
    refine g_get C0 dX9_knock_13 0 rfl 8 rfl rfl hinX9 (by decide) (List.mem_of_getElem? (i := 1) rfl) rfl ?_
    refine g_get C0 dX9_knock_16 1 rfl 0 rfl rfl hinX4 (by decide) (List.mem_of_getElem? (i := 2) rfl) rfl ?_
    refine g_iload_n C0 dX9_knock_19 1 rfl ?_
    refine g_iload_n C0 dX9_knock_20 2 rfl ?_
    refine g_iconst C0 (v := (-1)) dX9_knock_21 (by decide) ?_
    refine g_bipush C0 (v := 9) dX9_knock_22 (by decide) ?_
    refine g_callS C0 (c_X9_put l E q_t_knocks_heard p0 p1 (-1) 9 10 t_knocks_heard _ hw) dX9_knock_24 gX9_knock_X9_put rfl ddS_X9_put rfl (by decide) (by decide) rfl (Nat.le_of_ble_eq_true rfl) [2] [0, 1] rfl (wr := [ob 9 q_t [.ref q_t_signs, .ref q_t_laps, .ref q_t_breaks, .ref q_t_fraction, .ref q_t_settings, .ref q_t_rates, .ref q_t_joints, .ref q_t_tested, .ref q_t_knocks, .ref q_t_choices], ob 4 q_t_knocks [.ref q_t_knocks_heard, .ref q_t_knocks_sheetOf, .ref q_t_knocks_soundOf, .ref q_t_knocks_ways, .ref q_t_knocks_nextWays]]) rfl (by decide) (by decide) (by decide) (fun u hw => ?_)
    obtain ⟨r3, t_knocks_heard_4⟩ := u
    try dsimp only at hw
    show G X E 4 [ob 9 q_t [.ref q_t_signs, .ref q_t_laps, .ref q_t_breaks, .ref q_t_fraction, .ref q_t_settings, .ref q_t_rates, .ref q_t_joints, .ref q_t_tested, .ref q_t_knocks, .ref q_t_choices], ob 4 q_t_knocks [.ref q_t_knocks_heard, .ref q_t_knocks_sheetOf, .ref q_t_knocks_soundOf, .ref q_t_knocks_ways, .ref q_t_knocks_nextWays], aI E.I q_t_knocks_heard 10 t_knocks_heard_4] 0 0 27 [(0, .ref q_t), (1, .int p0), (2, .int p1)] [.int r3]
    refine g_istore_n C0 (lv2 := [(3, .int r3), (0, .ref q_t), (1, .int p0), (2, .int p1)]) dX9_knock_27 (by decide) rfl ?_
    refine g_iload_n C0 dX9_knock_28 0 rfl ?_
    refine g_iconst C0 (v := (-1)) dX9_knock_29 (by decide) ?_
    refine g_icmp_ne C0 (tgt := 38) dX9_knock_30 (by decide) (fun c5 => ?_) (fun c5 => ?_)
    · replace hw := hw.1 c5
      refine g_iload_n C0 dX9_knock_38 0 rfl ?_
      exact g_iret C0 R1 dX9_knock_39 (r3, t_knocks_heard_4) rfl hw [0, 1, 2] (by decide) rfl (by decide) (by decide)
    · replace hw := hw.2 c5
      refine g_bipush C0 (v := (-6)) dX9_knock_33 (by decide) ?_
      refine g_goto C0 (tgt := 39) dX9_knock_35 (by decide) ?_
      exact g_iret C0 R1 dX9_knock_39 ((-6), t_knocks_heard_4) rfl hw [0, 1, 2] (by decide) rfl (by decide) (by decide)
  · replace hw := hw.2 c2
    refine g_iconst C0 (v := (-1)) dX9_knock_10 (by decide) ?_
    exact g_iret C0 R1 dX9_knock_11 ((-1), t_knocks_heard) rfl hw [0, 1, 2] (by decide) rfl (by decide) (by decide)
def w_X9_sheet (p0 : Int32) (p1 : Int32) (t_knocks_sheetOf : Nat → Int32) (Q : Int32 → (Nat → Int32) → Prop) : Prop := w_X9_within p0 0 9 (fun (r1 : Bool) => (r1 = true → w_X9_put p0 p1 0 3 10 t_knocks_sheetOf (fun (r3 : Int32) (t_knocks_sheetOf_4 : Nat → Int32) => Q r3 t_knocks_sheetOf_4)) ∧ (r1 = false → Q (-1) t_knocks_sheetOf))
theorem ddV_X9_sheet : yX9_sheet.cls = RX9 ∧ yX9_sheet.cls ≠ "java/lang/invoke/MethodHandle" ∧ yX9_sheet.cls ≠ "java/lang/invoke/VarHandle" ∧ (parseMethodDescriptor yX9_sheet.desc).map (fun d => d.parameters.length) = some 2 := by decide +kernel
set_option maxHeartbeats 4000000 in
set_option maxRecDepth 100000 in
theorem c_X9_sheet (l : Launch) (E : gE) (q_t q_t_signs q_t_laps q_t_breaks q_t_fraction q_t_settings q_t_rates q_t_joints q_t_tested q_t_knocks q_t_choices q_t_knocks_heard q_t_knocks_sheetOf q_t_knocks_soundOf q_t_knocks_ways q_t_knocks_nextWays : Nat) (p0 : Int32) (p1 : Int32) (t_knocks_sheetOf : Nat → Int32) (Q : Int32 → (Nat → Int32) → Prop) (hw : w_X9_sheet p0 p1 t_knocks_sheetOf Q) : Ct l E yX9_sheet wsX9_sheet { frames := 2, cells := 0, slots := 0, locals := 47 } [.ref q_t, .int p0, .int p1] [ob 9 q_t [.ref q_t_signs, .ref q_t_laps, .ref q_t_breaks, .ref q_t_fraction, .ref q_t_settings, .ref q_t_rates, .ref q_t_joints, .ref q_t_tested, .ref q_t_knocks, .ref q_t_choices], ob 4 q_t_knocks [.ref q_t_knocks_heard, .ref q_t_knocks_sheetOf, .ref q_t_knocks_soundOf, .ref q_t_knocks_ways, .ref q_t_knocks_nextWays], aI E.I q_t_knocks_sheetOf 10 t_knocks_sheetOf] (S := Int32 × (Nat → Int32)) (fun u => some (.int u.1)) (fun u => Q u.1 u.2) (fun u => [ob 9 q_t [.ref q_t_signs, .ref q_t_laps, .ref q_t_breaks, .ref q_t_fraction, .ref q_t_settings, .ref q_t_rates, .ref q_t_joints, .ref q_t_tested, .ref q_t_knocks, .ref q_t_choices], ob 4 q_t_knocks [.ref q_t_knocks_heard, .ref q_t_knocks_sheetOf, .ref q_t_knocks_soundOf, .ref q_t_knocks_ways, .ref q_t_knocks_nextWays], aI E.I q_t_knocks_sheetOf 10 u.2]) := by
  unfold w_X9_sheet at hw
  have hinX4 : ∀ w ∈ wsX40, w ∈ wsX9_sheet := fun _ h => List.mem_cons_of_mem _ (List.mem_append_right _ h)
  have hinX9 : ∀ w ∈ wsX90, w ∈ wsX9_sheet := fun _ h => List.mem_cons_of_mem _ (List.mem_append_left _ (List.mem_append_right _ h))
  refine g_start (cc := cX9_sheet) (nL := 3) (own := RX9) (ret := (some .int)) rfl (by decide) rfl (Nat.le_of_ble_eq_true rfl) (lv0 := [(0, .ref q_t), (1, .int p0), (2, .int p1)]) rfl (fun X C0 R1 => ?_)
  refine g_iload_n C0 dX9_sheet_0 1 rfl ?_
  refine g_iconst C0 (v := 0) dX9_sheet_1 (by decide) ?_
  refine g_bipush C0 (v := 9) dX9_sheet_2 (by decide) ?_
  refine g_callS C0 (c_X9_within l E p0 0 9 _ hw) dX9_sheet_4 gX9_sheet_X9_within rfl ddS_X9_within rfl (by decide) (by decide) rfl (Nat.le_of_ble_eq_true rfl) [] [0, 1, 2] rfl (wr := [ob 9 q_t [.ref q_t_signs, .ref q_t_laps, .ref q_t_breaks, .ref q_t_fraction, .ref q_t_settings, .ref q_t_rates, .ref q_t_joints, .ref q_t_tested, .ref q_t_knocks, .ref q_t_choices], ob 4 q_t_knocks [.ref q_t_knocks_heard, .ref q_t_knocks_sheetOf, .ref q_t_knocks_soundOf, .ref q_t_knocks_ways, .ref q_t_knocks_nextWays], aI E.I q_t_knocks_sheetOf 10 t_knocks_sheetOf]) rfl (by decide) (by decide) (by decide) (fun u hw => ?_)
  obtain ⟨r1, hu_⟩ : ∃ z, z = u := ⟨_, rfl⟩
  subst hu_
  try dsimp only at hw
  show G X E 3 [ob 9 q_t [.ref q_t_signs, .ref q_t_laps, .ref q_t_breaks, .ref q_t_fraction, .ref q_t_settings, .ref q_t_rates, .ref q_t_joints, .ref q_t_tested, .ref q_t_knocks, .ref q_t_choices], ob 4 q_t_knocks [.ref q_t_knocks_heard, .ref q_t_knocks_sheetOf, .ref q_t_knocks_soundOf, .ref q_t_knocks_ways, .ref q_t_knocks_nextWays], aI E.I q_t_knocks_sheetOf 10 t_knocks_sheetOf] 0 0 7 [(0, .ref q_t), (1, .int p0), (2, .int p1)] [.int (bI r1)]
  refine g_ifb_ne C0 (tgt := 12) dX9_sheet_7 (by decide) (fun c2 => ?_) (fun c2 => ?_)
  · replace hw := hw.1 c2
    refine g_aload_n C0 dX9_sheet_12 0 rfl ?_
    refine g_get C0 dX9_sheet_13 0 rfl 8 rfl rfl hinX9 (by decide) (List.mem_of_getElem? (i := 1) rfl) rfl ?_
    refine g_get C0 dX9_sheet_16 1 rfl 1 rfl rfl hinX4 (by decide) (List.mem_of_getElem? (i := 2) rfl) rfl ?_
    refine g_iload_n C0 dX9_sheet_19 1 rfl ?_
    refine g_iload_n C0 dX9_sheet_20 2 rfl ?_
    refine g_iconst C0 (v := 0) dX9_sheet_21 (by decide) ?_
    refine g_iconst C0 (v := 3) dX9_sheet_22 (by decide) ?_
    refine g_callS C0 (c_X9_put l E q_t_knocks_sheetOf p0 p1 0 3 10 t_knocks_sheetOf _ hw) dX9_sheet_23 gX9_sheet_X9_put rfl ddS_X9_put rfl (by decide) (by decide) rfl (Nat.le_of_ble_eq_true rfl) [2] [0, 1] rfl (wr := [ob 9 q_t [.ref q_t_signs, .ref q_t_laps, .ref q_t_breaks, .ref q_t_fraction, .ref q_t_settings, .ref q_t_rates, .ref q_t_joints, .ref q_t_tested, .ref q_t_knocks, .ref q_t_choices], ob 4 q_t_knocks [.ref q_t_knocks_heard, .ref q_t_knocks_sheetOf, .ref q_t_knocks_soundOf, .ref q_t_knocks_ways, .ref q_t_knocks_nextWays]]) rfl (by decide) (by decide) (by decide) (fun u hw => ?_)
    obtain ⟨r3, t_knocks_sheetOf_4⟩ := u
    try dsimp only at hw
    show G X E 3 [ob 9 q_t [.ref q_t_signs, .ref q_t_laps, .ref q_t_breaks, .ref q_t_fraction, .ref q_t_settings, .ref q_t_rates, .ref q_t_joints, .ref q_t_tested, .ref q_t_knocks, .ref q_t_choices], ob 4 q_t_knocks [.ref q_t_knocks_heard, .ref q_t_knocks_sheetOf, .ref q_t_knocks_soundOf, .ref q_t_knocks_ways, .ref q_t_knocks_nextWays], aI E.I q_t_knocks_sheetOf 10 t_knocks_sheetOf_4] 0 0 26 [(0, .ref q_t), (1, .int p0), (2, .int p1)] [.int r3]
    exact g_iret C0 R1 dX9_sheet_26 (r3, t_knocks_sheetOf_4) rfl hw [0, 1, 2] (by decide) rfl (by decide) (by decide)
  · replace hw := hw.2 c2
    refine g_iconst C0 (v := (-1)) dX9_sheet_10 (by decide) ?_
    exact g_iret C0 R1 dX9_sheet_11 ((-1), t_knocks_sheetOf) rfl hw [0, 1, 2] (by decide) rfl (by decide) (by decide)
def w_X9_table (p0 : Int32) (p1 : Int32) (p2 : Int32) (t_knocks_soundOf : Nat → Int32) (Q : Int32 → (Nat → Int32) → Prop) : Prop := w_X9_within p0 0 3 (fun (r1 : Bool) => (r1 = false → Q (-2) t_knocks_soundOf) ∧ (r1 = true → w_X9_within p1 0 3 (fun (r3 : Bool) => (r3 = true → w_X9_put ((p0 * 4) + p1) p2 0 9 16 t_knocks_soundOf (fun (r5 : Int32) (t_knocks_soundOf_6 : Nat → Int32) => Q r5 t_knocks_soundOf_6)) ∧ (r3 = false → Q (-2) t_knocks_soundOf))))
theorem ddV_X9_table : yX9_table.cls = RX9 ∧ yX9_table.cls ≠ "java/lang/invoke/MethodHandle" ∧ yX9_table.cls ≠ "java/lang/invoke/VarHandle" ∧ (parseMethodDescriptor yX9_table.desc).map (fun d => d.parameters.length) = some 3 := by decide +kernel
set_option maxHeartbeats 4000000 in
set_option maxRecDepth 100000 in
theorem c_X9_table (l : Launch) (E : gE) (q_t q_t_signs q_t_laps q_t_breaks q_t_fraction q_t_settings q_t_rates q_t_joints q_t_tested q_t_knocks q_t_choices q_t_knocks_heard q_t_knocks_sheetOf q_t_knocks_soundOf q_t_knocks_ways q_t_knocks_nextWays : Nat) (p0 : Int32) (p1 : Int32) (p2 : Int32) (t_knocks_soundOf : Nat → Int32) (Q : Int32 → (Nat → Int32) → Prop) (hw : w_X9_table p0 p1 p2 t_knocks_soundOf Q) : Ct l E yX9_table wsX9_table { frames := 2, cells := 0, slots := 0, locals := 47 } [.ref q_t, .int p0, .int p1, .int p2] [ob 9 q_t [.ref q_t_signs, .ref q_t_laps, .ref q_t_breaks, .ref q_t_fraction, .ref q_t_settings, .ref q_t_rates, .ref q_t_joints, .ref q_t_tested, .ref q_t_knocks, .ref q_t_choices], ob 4 q_t_knocks [.ref q_t_knocks_heard, .ref q_t_knocks_sheetOf, .ref q_t_knocks_soundOf, .ref q_t_knocks_ways, .ref q_t_knocks_nextWays], aI E.I q_t_knocks_soundOf 16 t_knocks_soundOf] (S := Int32 × (Nat → Int32)) (fun u => some (.int u.1)) (fun u => Q u.1 u.2) (fun u => [ob 9 q_t [.ref q_t_signs, .ref q_t_laps, .ref q_t_breaks, .ref q_t_fraction, .ref q_t_settings, .ref q_t_rates, .ref q_t_joints, .ref q_t_tested, .ref q_t_knocks, .ref q_t_choices], ob 4 q_t_knocks [.ref q_t_knocks_heard, .ref q_t_knocks_sheetOf, .ref q_t_knocks_soundOf, .ref q_t_knocks_ways, .ref q_t_knocks_nextWays], aI E.I q_t_knocks_soundOf 16 u.2]) := by
  unfold w_X9_table at hw
  have hinX4 : ∀ w ∈ wsX40, w ∈ wsX9_table := fun _ h => List.mem_cons_of_mem _ (List.mem_append_right _ h)
  have hinX9 : ∀ w ∈ wsX90, w ∈ wsX9_table := fun _ h => List.mem_cons_of_mem _ (List.mem_append_left _ (List.mem_append_right _ h))
  refine g_start (cc := cX9_table) (nL := 4) (own := RX9) (ret := (some .int)) rfl (by decide) rfl (Nat.le_of_ble_eq_true rfl) (lv0 := [(0, .ref q_t), (1, .int p0), (2, .int p1), (3, .int p2)]) rfl (fun X C0 R1 => ?_)
  refine g_iload_n C0 dX9_table_0 1 rfl ?_
  refine g_iconst C0 (v := 0) dX9_table_1 (by decide) ?_
  refine g_iconst C0 (v := 3) dX9_table_2 (by decide) ?_
  refine g_callS C0 (c_X9_within l E p0 0 3 _ hw) dX9_table_3 gX9_table_X9_within rfl ddS_X9_within rfl (by decide) (by decide) rfl (Nat.le_of_ble_eq_true rfl) [] [0, 1, 2] rfl (wr := [ob 9 q_t [.ref q_t_signs, .ref q_t_laps, .ref q_t_breaks, .ref q_t_fraction, .ref q_t_settings, .ref q_t_rates, .ref q_t_joints, .ref q_t_tested, .ref q_t_knocks, .ref q_t_choices], ob 4 q_t_knocks [.ref q_t_knocks_heard, .ref q_t_knocks_sheetOf, .ref q_t_knocks_soundOf, .ref q_t_knocks_ways, .ref q_t_knocks_nextWays], aI E.I q_t_knocks_soundOf 16 t_knocks_soundOf]) rfl (by decide) (by decide) (by decide) (fun u hw => ?_)
  obtain ⟨r1, hu_⟩ : ∃ z, z = u := ⟨_, rfl⟩
  subst hu_
  try dsimp only at hw
  show G X E 4 [ob 9 q_t [.ref q_t_signs, .ref q_t_laps, .ref q_t_breaks, .ref q_t_fraction, .ref q_t_settings, .ref q_t_rates, .ref q_t_joints, .ref q_t_tested, .ref q_t_knocks, .ref q_t_choices], ob 4 q_t_knocks [.ref q_t_knocks_heard, .ref q_t_knocks_sheetOf, .ref q_t_knocks_soundOf, .ref q_t_knocks_ways, .ref q_t_knocks_nextWays], aI E.I q_t_knocks_soundOf 16 t_knocks_soundOf] 0 0 6 [(0, .ref q_t), (1, .int p0), (2, .int p1), (3, .int p2)] [.int (bI r1)]
  refine g_ifb_eq C0 (tgt := 18) dX9_table_6 (by decide) (fun c2 => ?_) (fun c2 => ?_)
  · replace hw := hw.1 c2
    refine g_bipush C0 (v := (-2)) dX9_table_18 (by decide) ?_
    exact g_iret C0 R1 dX9_table_20 ((-2), t_knocks_soundOf) rfl hw [0, 1, 2] (by decide) rfl (by decide) (by decide)
  · replace hw := hw.2 c2
    refine g_iload_n C0 dX9_table_9 2 rfl ?_
    refine g_iconst C0 (v := 0) dX9_table_10 (by decide) ?_
    refine g_iconst C0 (v := 3) dX9_table_11 (by decide) ?_
    refine g_callS C0 (c_X9_within l E p1 0 3 _ hw) dX9_table_12 gX9_table_X9_within rfl ddS_X9_within rfl (by decide) (by decide) rfl (Nat.le_of_ble_eq_true rfl) [] [0, 1, 2] rfl (wr := [ob 9 q_t [.ref q_t_signs, .ref q_t_laps, .ref q_t_breaks, .ref q_t_fraction, .ref q_t_settings, .ref q_t_rates, .ref q_t_joints, .ref q_t_tested, .ref q_t_knocks, .ref q_t_choices], ob 4 q_t_knocks [.ref q_t_knocks_heard, .ref q_t_knocks_sheetOf, .ref q_t_knocks_soundOf, .ref q_t_knocks_ways, .ref q_t_knocks_nextWays], aI E.I q_t_knocks_soundOf 16 t_knocks_soundOf]) rfl (by decide) (by decide) (by decide) (fun u hw => ?_)
    obtain ⟨r3, hu_⟩ : ∃ z, z = u := ⟨_, rfl⟩
    subst hu_
    try dsimp only at hw
    show G X E 4 [ob 9 q_t [.ref q_t_signs, .ref q_t_laps, .ref q_t_breaks, .ref q_t_fraction, .ref q_t_settings, .ref q_t_rates, .ref q_t_joints, .ref q_t_tested, .ref q_t_knocks, .ref q_t_choices], ob 4 q_t_knocks [.ref q_t_knocks_heard, .ref q_t_knocks_sheetOf, .ref q_t_knocks_soundOf, .ref q_t_knocks_ways, .ref q_t_knocks_nextWays], aI E.I q_t_knocks_soundOf 16 t_knocks_soundOf] 0 0 15 [(0, .ref q_t), (1, .int p0), (2, .int p1), (3, .int p2)] [.int (bI r3)]
    refine g_ifb_ne C0 (tgt := 21) dX9_table_15 (by decide) (fun c4 => ?_) (fun c4 => ?_)
    · replace hw := hw.1 c4
      refine g_aload_n C0 dX9_table_21 0 rfl ?_
      refine g_get C0 dX9_table_22 0 rfl 8 rfl rfl hinX9 (by decide) (List.mem_of_getElem? (i := 1) rfl) rfl ?_
      refine g_get C0 dX9_table_25 1 rfl 2 rfl rfl hinX4 (by decide) (List.mem_of_getElem? (i := 2) rfl) rfl ?_
      refine g_iload_n C0 dX9_table_28 1 rfl ?_
      refine g_iconst C0 (v := 4) dX9_table_29 (by decide) ?_
      refine g_imul C0 dX9_table_30 ?_
      refine g_iload_n C0 dX9_table_31 2 rfl ?_
      refine g_iadd C0 dX9_table_32 ?_
      refine g_iload_n C0 dX9_table_33 3 rfl ?_
      refine g_iconst C0 (v := 0) dX9_table_34 (by decide) ?_
      refine g_bipush C0 (v := 9) dX9_table_35 (by decide) ?_
      refine g_callS C0 (c_X9_put l E q_t_knocks_soundOf ((p0 * 4) + p1) p2 0 9 16 t_knocks_soundOf _ hw) dX9_table_37 gX9_table_X9_put rfl ddS_X9_put rfl (by decide) (by decide) rfl (Nat.le_of_ble_eq_true rfl) [2] [0, 1] rfl (wr := [ob 9 q_t [.ref q_t_signs, .ref q_t_laps, .ref q_t_breaks, .ref q_t_fraction, .ref q_t_settings, .ref q_t_rates, .ref q_t_joints, .ref q_t_tested, .ref q_t_knocks, .ref q_t_choices], ob 4 q_t_knocks [.ref q_t_knocks_heard, .ref q_t_knocks_sheetOf, .ref q_t_knocks_soundOf, .ref q_t_knocks_ways, .ref q_t_knocks_nextWays]]) rfl (by decide) (by decide) (by decide) (fun u hw => ?_)
      obtain ⟨r5, t_knocks_soundOf_6⟩ := u
      try dsimp only at hw
      show G X E 4 [ob 9 q_t [.ref q_t_signs, .ref q_t_laps, .ref q_t_breaks, .ref q_t_fraction, .ref q_t_settings, .ref q_t_rates, .ref q_t_joints, .ref q_t_tested, .ref q_t_knocks, .ref q_t_choices], ob 4 q_t_knocks [.ref q_t_knocks_heard, .ref q_t_knocks_sheetOf, .ref q_t_knocks_soundOf, .ref q_t_knocks_ways, .ref q_t_knocks_nextWays], aI E.I q_t_knocks_soundOf 16 t_knocks_soundOf_6] 0 0 40 [(0, .ref q_t), (1, .int p0), (2, .int p1), (3, .int p2)] [.int r5]
      exact g_iret C0 R1 dX9_table_40 (r5, t_knocks_soundOf_6) rfl hw [0, 1, 2] (by decide) rfl (by decide) (by decide)
    · replace hw := hw.2 c4
      refine g_bipush C0 (v := (-2)) dX9_table_18 (by decide) ?_
      exact g_iret C0 R1 dX9_table_20 ((-2), t_knocks_soundOf) rfl hw [0, 1, 2] (by decide) rfl (by decide) (by decide)
def w_X9_fit (p0 : Int32) (t_knocks_heard : Nat → Int32) (t_knocks_sheetOf : Nat → Int32) (t_knocks_soundOf : Nat → Int32) (Q : Int32 → Prop) : Prop := w_X9_within p0 0 9 (fun (r1 : Bool) => (r1 = false → Q (-1)) ∧ (r1 = true → w_X4_gapsThatFit p0 t_knocks_heard t_knocks_sheetOf t_knocks_soundOf (fun (r3 : Int32) => Q r3)))
theorem ddV_X9_fit : yX9_fit.cls = RX9 ∧ yX9_fit.cls ≠ "java/lang/invoke/MethodHandle" ∧ yX9_fit.cls ≠ "java/lang/invoke/VarHandle" ∧ (parseMethodDescriptor yX9_fit.desc).map (fun d => d.parameters.length) = some 1 := by decide +kernel
set_option maxHeartbeats 4000000 in
set_option maxRecDepth 100000 in
theorem c_X9_fit (l : Launch) (E : gE) (q_t q_t_signs q_t_laps q_t_breaks q_t_fraction q_t_settings q_t_rates q_t_joints q_t_tested q_t_knocks q_t_choices q_t_knocks_heard q_t_knocks_sheetOf q_t_knocks_soundOf q_t_knocks_ways q_t_knocks_nextWays : Nat) (p0 : Int32) (t_knocks_heard : Nat → Int32) (t_knocks_sheetOf : Nat → Int32) (t_knocks_soundOf : Nat → Int32) (Q : Int32 → Prop) (hw : w_X9_fit p0 t_knocks_heard t_knocks_sheetOf t_knocks_soundOf Q) : Ct l E yX9_fit wsX9_fit { frames := 3, cells := 0, slots := 0, locals := 69 } [.ref q_t, .int p0] [ob 9 q_t [.ref q_t_signs, .ref q_t_laps, .ref q_t_breaks, .ref q_t_fraction, .ref q_t_settings, .ref q_t_rates, .ref q_t_joints, .ref q_t_tested, .ref q_t_knocks, .ref q_t_choices], ob 4 q_t_knocks [.ref q_t_knocks_heard, .ref q_t_knocks_sheetOf, .ref q_t_knocks_soundOf, .ref q_t_knocks_ways, .ref q_t_knocks_nextWays], aI E.I q_t_knocks_heard 10 t_knocks_heard, aI E.I q_t_knocks_sheetOf 10 t_knocks_sheetOf, aI E.I q_t_knocks_soundOf 16 t_knocks_soundOf] (S := Int32) (fun u => some (.int u)) (fun u => Q u) (fun u => [ob 9 q_t [.ref q_t_signs, .ref q_t_laps, .ref q_t_breaks, .ref q_t_fraction, .ref q_t_settings, .ref q_t_rates, .ref q_t_joints, .ref q_t_tested, .ref q_t_knocks, .ref q_t_choices], ob 4 q_t_knocks [.ref q_t_knocks_heard, .ref q_t_knocks_sheetOf, .ref q_t_knocks_soundOf, .ref q_t_knocks_ways, .ref q_t_knocks_nextWays], aI E.I q_t_knocks_heard 10 t_knocks_heard, aI E.I q_t_knocks_sheetOf 10 t_knocks_sheetOf, aI E.I q_t_knocks_soundOf 16 t_knocks_soundOf]) := by
  unfold w_X9_fit at hw
  have hinX9 : ∀ w ∈ wsX90, w ∈ wsX9_fit := fun _ h => List.mem_cons_of_mem _ (List.mem_append_left _ (List.mem_append_right _ h))
  refine g_start (cc := cX9_fit) (nL := 2) (own := RX9) (ret := (some .int)) rfl (by decide) rfl (Nat.le_of_ble_eq_true rfl) (lv0 := [(0, .ref q_t), (1, .int p0)]) rfl (fun X C0 R1 => ?_)
  refine g_iload_n C0 dX9_fit_0 1 rfl ?_
  refine g_iconst C0 (v := 0) dX9_fit_1 (by decide) ?_
  refine g_bipush C0 (v := 9) dX9_fit_2 (by decide) ?_
  refine g_callS C0 (c_X9_within l E p0 0 9 _ hw) dX9_fit_4 gX9_fit_X9_within rfl ddS_X9_within rfl (by decide) (by decide) rfl (Nat.le_of_ble_eq_true rfl) [] [0, 1, 2, 3, 4] rfl (wr := [ob 9 q_t [.ref q_t_signs, .ref q_t_laps, .ref q_t_breaks, .ref q_t_fraction, .ref q_t_settings, .ref q_t_rates, .ref q_t_joints, .ref q_t_tested, .ref q_t_knocks, .ref q_t_choices], ob 4 q_t_knocks [.ref q_t_knocks_heard, .ref q_t_knocks_sheetOf, .ref q_t_knocks_soundOf, .ref q_t_knocks_ways, .ref q_t_knocks_nextWays], aI E.I q_t_knocks_heard 10 t_knocks_heard, aI E.I q_t_knocks_sheetOf 10 t_knocks_sheetOf, aI E.I q_t_knocks_soundOf 16 t_knocks_soundOf]) rfl (by decide) (by decide) (by decide) (fun u hw => ?_)
  obtain ⟨r1, hu_⟩ : ∃ z, z = u := ⟨_, rfl⟩
  subst hu_
  try dsimp only at hw
  show G X E 2 [ob 9 q_t [.ref q_t_signs, .ref q_t_laps, .ref q_t_breaks, .ref q_t_fraction, .ref q_t_settings, .ref q_t_rates, .ref q_t_joints, .ref q_t_tested, .ref q_t_knocks, .ref q_t_choices], ob 4 q_t_knocks [.ref q_t_knocks_heard, .ref q_t_knocks_sheetOf, .ref q_t_knocks_soundOf, .ref q_t_knocks_ways, .ref q_t_knocks_nextWays], aI E.I q_t_knocks_heard 10 t_knocks_heard, aI E.I q_t_knocks_sheetOf 10 t_knocks_sheetOf, aI E.I q_t_knocks_soundOf 16 t_knocks_soundOf] 0 0 7 [(0, .ref q_t), (1, .int p0)] [.int (bI r1)]
  refine g_ifb_eq C0 (tgt := 21) dX9_fit_7 (by decide) (fun c2 => ?_) (fun c2 => ?_)
  · replace hw := hw.1 c2
    refine g_iconst C0 (v := (-1)) dX9_fit_21 (by decide) ?_
    exact g_iret C0 R1 dX9_fit_22 (-1) rfl hw [0, 1, 2, 3, 4] (by decide) rfl (by decide) (by decide)
  · replace hw := hw.2 c2
    refine g_aload_n C0 dX9_fit_10 0 rfl ?_
    refine g_get C0 dX9_fit_11 0 rfl 8 rfl rfl hinX9 (by decide) (List.mem_of_getElem? (i := 1) rfl) rfl ?_
    refine g_iload_n C0 dX9_fit_14 1 rfl ?_
    refine g_callV C0 (q0 := 1) (ci := 4) (c_X4_gapsThatFit l E q_t_knocks q_t_knocks_heard q_t_knocks_sheetOf q_t_knocks_soundOf q_t_knocks_ways q_t_knocks_nextWays p0 t_knocks_heard t_knocks_sheetOf t_knocks_soundOf _ hw) dX9_fit_15 gX9_fit_X4_gapsThatFit rfl ddV_X4_gapsThatFit rfl (by decide) (by decide) rfl (Nat.le_of_ble_eq_true rfl) [1, 2, 3, 4] [0] rfl (wr := [ob 9 q_t [.ref q_t_signs, .ref q_t_laps, .ref q_t_breaks, .ref q_t_fraction, .ref q_t_settings, .ref q_t_rates, .ref q_t_joints, .ref q_t_tested, .ref q_t_knocks, .ref q_t_choices]]) rfl (by decide) (by decide) (by decide) rfl rfl (fun u hw => ?_)
    obtain ⟨r3, hu_⟩ : ∃ z, z = u := ⟨_, rfl⟩
    subst hu_
    try dsimp only at hw
    show G X E 2 [ob 9 q_t [.ref q_t_signs, .ref q_t_laps, .ref q_t_breaks, .ref q_t_fraction, .ref q_t_settings, .ref q_t_rates, .ref q_t_joints, .ref q_t_tested, .ref q_t_knocks, .ref q_t_choices], ob 4 q_t_knocks [.ref q_t_knocks_heard, .ref q_t_knocks_sheetOf, .ref q_t_knocks_soundOf, .ref q_t_knocks_ways, .ref q_t_knocks_nextWays], aI E.I q_t_knocks_heard 10 t_knocks_heard, aI E.I q_t_knocks_sheetOf 10 t_knocks_sheetOf, aI E.I q_t_knocks_soundOf 16 t_knocks_soundOf] 0 0 18 [(0, .ref q_t), (1, .int p0)] [.int r3]
    refine g_goto C0 (tgt := 22) dX9_fit_18 (by decide) ?_
    exact g_iret C0 R1 dX9_fit_22 r3 rfl hw [0, 1, 2, 3, 4] (by decide) rfl (by decide) (by decide)
def w_X9_fits (t_settings : Nat → Int32) (t_knocks_ways : Nat → Int32) (t_knocks_heard : Nat → Int32) (t_knocks_sheetOf : Nat → Int32) (t_knocks_soundOf : Nat → Int32) (t_knocks_nextWays : Nat → Int32) (Q : Int32 → (Nat → Int32) → (Nat → Int32) → Prop) : Prop := vp_in 6 8 ∧ (w_X4_rowsThatFit (t_settings (Int32.toNatClampNeg 6)) t_knocks_ways t_knocks_heard t_knocks_sheetOf t_knocks_soundOf t_knocks_nextWays (fun (r2 : Int32) (t_knocks_ways_3 : Nat → Int32) (t_knocks_nextWays_4 : Nat → Int32) => Q r2 t_knocks_ways_3 t_knocks_nextWays_4))
theorem ddV_X9_fits : yX9_fits.cls = RX9 ∧ yX9_fits.cls ≠ "java/lang/invoke/MethodHandle" ∧ yX9_fits.cls ≠ "java/lang/invoke/VarHandle" ∧ (parseMethodDescriptor yX9_fits.desc).map (fun d => d.parameters.length) = some 0 := by decide +kernel
set_option maxHeartbeats 4000000 in
set_option maxRecDepth 100000 in
theorem c_X9_fits (l : Launch) (E : gE) (q_t q_t_signs q_t_laps q_t_breaks q_t_fraction q_t_settings q_t_rates q_t_joints q_t_tested q_t_knocks q_t_choices q_t_knocks_heard q_t_knocks_sheetOf q_t_knocks_soundOf q_t_knocks_ways q_t_knocks_nextWays : Nat) (t_settings : Nat → Int32) (t_knocks_ways : Nat → Int32) (t_knocks_heard : Nat → Int32) (t_knocks_sheetOf : Nat → Int32) (t_knocks_soundOf : Nat → Int32) (t_knocks_nextWays : Nat → Int32) (Q : Int32 → (Nat → Int32) → (Nat → Int32) → Prop) (hw : w_X9_fits t_settings t_knocks_ways t_knocks_heard t_knocks_sheetOf t_knocks_soundOf t_knocks_nextWays Q) : Ct l E yX9_fits wsX9_fits { frames := 4, cells := 0, slots := 0, locals := 106 } [.ref q_t] [ob 9 q_t [.ref q_t_signs, .ref q_t_laps, .ref q_t_breaks, .ref q_t_fraction, .ref q_t_settings, .ref q_t_rates, .ref q_t_joints, .ref q_t_tested, .ref q_t_knocks, .ref q_t_choices], aI E.I q_t_settings 8 t_settings, ob 4 q_t_knocks [.ref q_t_knocks_heard, .ref q_t_knocks_sheetOf, .ref q_t_knocks_soundOf, .ref q_t_knocks_ways, .ref q_t_knocks_nextWays], aI E.I q_t_knocks_ways 4 t_knocks_ways, aI E.I q_t_knocks_heard 10 t_knocks_heard, aI E.I q_t_knocks_sheetOf 10 t_knocks_sheetOf, aI E.I q_t_knocks_soundOf 16 t_knocks_soundOf, aI E.I q_t_knocks_nextWays 4 t_knocks_nextWays] (S := Int32 × (Nat → Int32) × (Nat → Int32)) (fun u => some (.int u.1)) (fun u => Q u.1 u.2.1 u.2.2) (fun u => [ob 9 q_t [.ref q_t_signs, .ref q_t_laps, .ref q_t_breaks, .ref q_t_fraction, .ref q_t_settings, .ref q_t_rates, .ref q_t_joints, .ref q_t_tested, .ref q_t_knocks, .ref q_t_choices], aI E.I q_t_settings 8 t_settings, ob 4 q_t_knocks [.ref q_t_knocks_heard, .ref q_t_knocks_sheetOf, .ref q_t_knocks_soundOf, .ref q_t_knocks_ways, .ref q_t_knocks_nextWays], aI E.I q_t_knocks_ways 4 u.2.1, aI E.I q_t_knocks_heard 10 t_knocks_heard, aI E.I q_t_knocks_sheetOf 10 t_knocks_sheetOf, aI E.I q_t_knocks_soundOf 16 t_knocks_soundOf, aI E.I q_t_knocks_nextWays 4 u.2.2]) := by
  unfold w_X9_fits at hw
  have hinX9 : ∀ w ∈ wsX90, w ∈ wsX9_fits := fun _ h => List.mem_cons_of_mem _ (List.mem_append_left _ (List.mem_append_right _ h))
  refine g_start (cc := cX9_fits) (nL := 1) (own := RX9) (ret := (some .int)) rfl (by decide) rfl (Nat.le_of_ble_eq_true rfl) (lv0 := [(0, .ref q_t)]) rfl (fun X C0 R1 => ?_)
  refine g_aload_n C0 dX9_fits_0 0 rfl ?_
  refine g_get C0 dX9_fits_1 0 rfl 8 rfl rfl hinX9 (by decide) (List.mem_of_getElem? (i := 1) rfl) rfl ?_
  refine g_aload_n C0 dX9_fits_4 0 rfl ?_
  refine g_get C0 dX9_fits_5 0 rfl 4 rfl rfl hinX9 (by decide) (List.mem_of_getElem? (i := 2) rfl) rfl ?_
  refine g_bipush C0 (v := 6) dX9_fits_8 (by decide) ?_
  obtain ⟨h1, hw⟩ := hw
  refine g_iald C0 (cA := E.I) dX9_fits_10 1 rfl h1 ?_
  refine g_callV C0 (q0 := 2) (ci := 4) (c_X4_rowsThatFit l E q_t_knocks q_t_knocks_heard q_t_knocks_sheetOf q_t_knocks_soundOf q_t_knocks_ways q_t_knocks_nextWays (t_settings (Int32.toNatClampNeg 6)) t_knocks_ways t_knocks_heard t_knocks_sheetOf t_knocks_soundOf t_knocks_nextWays _ hw) dX9_fits_11 gX9_fits_X4_rowsThatFit rfl ddV_X4_rowsThatFit rfl (by decide) (by decide) rfl (Nat.le_of_ble_eq_true rfl) [2, 3, 4, 5, 6, 7] [0, 1] rfl (wr := [ob 9 q_t [.ref q_t_signs, .ref q_t_laps, .ref q_t_breaks, .ref q_t_fraction, .ref q_t_settings, .ref q_t_rates, .ref q_t_joints, .ref q_t_tested, .ref q_t_knocks, .ref q_t_choices], aI E.I q_t_settings 8 t_settings]) rfl (by decide) (by decide) (by decide) rfl rfl (fun u hw => ?_)
  obtain ⟨r2, t_knocks_ways_3, t_knocks_nextWays_4⟩ := u
  try dsimp only at hw
  show G X E 1 [ob 9 q_t [.ref q_t_signs, .ref q_t_laps, .ref q_t_breaks, .ref q_t_fraction, .ref q_t_settings, .ref q_t_rates, .ref q_t_joints, .ref q_t_tested, .ref q_t_knocks, .ref q_t_choices], aI E.I q_t_settings 8 t_settings, ob 4 q_t_knocks [.ref q_t_knocks_heard, .ref q_t_knocks_sheetOf, .ref q_t_knocks_soundOf, .ref q_t_knocks_ways, .ref q_t_knocks_nextWays], aI E.I q_t_knocks_ways 4 t_knocks_ways_3, aI E.I q_t_knocks_heard 10 t_knocks_heard, aI E.I q_t_knocks_sheetOf 10 t_knocks_sheetOf, aI E.I q_t_knocks_soundOf 16 t_knocks_soundOf, aI E.I q_t_knocks_nextWays 4 t_knocks_nextWays_4] 0 0 14 [(0, .ref q_t)] [.int r2]
  exact g_iret C0 R1 dX9_fits_14 (r2, t_knocks_ways_3, t_knocks_nextWays_4) rfl hw [0, 1, 2, 3, 4, 5, 6, 7] (by decide) rfl (by decide) (by decide)
def w_X9_sure (p0 : Int32) (t_settings : Nat → Int32) (t_knocks_heard : Nat → Int32) (t_knocks_sheetOf : Nat → Int32) (t_knocks_soundOf : Nat → Int32) (Q : Int32 → Prop) : Prop := w_X9_within p0 0 9 (fun (r1 : Bool) => (r1 = false → Q (-1)) ∧ (r1 = true → vp_in 6 8 ∧ (w_X4_onlyGap p0 (t_settings (Int32.toNatClampNeg 6)) t_knocks_heard t_knocks_sheetOf t_knocks_soundOf (fun (r4 : Int32) => Q r4))))
theorem ddV_X9_sure : yX9_sure.cls = RX9 ∧ yX9_sure.cls ≠ "java/lang/invoke/MethodHandle" ∧ yX9_sure.cls ≠ "java/lang/invoke/VarHandle" ∧ (parseMethodDescriptor yX9_sure.desc).map (fun d => d.parameters.length) = some 1 := by decide +kernel
set_option maxHeartbeats 4000000 in
set_option maxRecDepth 100000 in
theorem c_X9_sure (l : Launch) (E : gE) (q_t q_t_signs q_t_laps q_t_breaks q_t_fraction q_t_settings q_t_rates q_t_joints q_t_tested q_t_knocks q_t_choices q_t_knocks_heard q_t_knocks_sheetOf q_t_knocks_soundOf q_t_knocks_ways q_t_knocks_nextWays : Nat) (p0 : Int32) (t_settings : Nat → Int32) (t_knocks_heard : Nat → Int32) (t_knocks_sheetOf : Nat → Int32) (t_knocks_soundOf : Nat → Int32) (Q : Int32 → Prop) (hw : w_X9_sure p0 t_settings t_knocks_heard t_knocks_sheetOf t_knocks_soundOf Q) : Ct l E yX9_sure wsX9_sure { frames := 5, cells := 0, slots := 0, locals := 117 } [.ref q_t, .int p0] [ob 9 q_t [.ref q_t_signs, .ref q_t_laps, .ref q_t_breaks, .ref q_t_fraction, .ref q_t_settings, .ref q_t_rates, .ref q_t_joints, .ref q_t_tested, .ref q_t_knocks, .ref q_t_choices], aI E.I q_t_settings 8 t_settings, ob 4 q_t_knocks [.ref q_t_knocks_heard, .ref q_t_knocks_sheetOf, .ref q_t_knocks_soundOf, .ref q_t_knocks_ways, .ref q_t_knocks_nextWays], aI E.I q_t_knocks_heard 10 t_knocks_heard, aI E.I q_t_knocks_sheetOf 10 t_knocks_sheetOf, aI E.I q_t_knocks_soundOf 16 t_knocks_soundOf] (S := Int32) (fun u => some (.int u)) (fun u => Q u) (fun u => [ob 9 q_t [.ref q_t_signs, .ref q_t_laps, .ref q_t_breaks, .ref q_t_fraction, .ref q_t_settings, .ref q_t_rates, .ref q_t_joints, .ref q_t_tested, .ref q_t_knocks, .ref q_t_choices], aI E.I q_t_settings 8 t_settings, ob 4 q_t_knocks [.ref q_t_knocks_heard, .ref q_t_knocks_sheetOf, .ref q_t_knocks_soundOf, .ref q_t_knocks_ways, .ref q_t_knocks_nextWays], aI E.I q_t_knocks_heard 10 t_knocks_heard, aI E.I q_t_knocks_sheetOf 10 t_knocks_sheetOf, aI E.I q_t_knocks_soundOf 16 t_knocks_soundOf]) := by
  unfold w_X9_sure at hw
  have hinX9 : ∀ w ∈ wsX90, w ∈ wsX9_sure := fun _ h => List.mem_cons_of_mem _ (List.mem_append_left _ (List.mem_append_right _ h))
  refine g_start (cc := cX9_sure) (nL := 2) (own := RX9) (ret := (some .int)) rfl (by decide) rfl (Nat.le_of_ble_eq_true rfl) (lv0 := [(0, .ref q_t), (1, .int p0)]) rfl (fun X C0 R1 => ?_)
  refine g_iload_n C0 dX9_sure_0 1 rfl ?_
  refine g_iconst C0 (v := 0) dX9_sure_1 (by decide) ?_
  refine g_bipush C0 (v := 9) dX9_sure_2 (by decide) ?_
  refine g_callS C0 (c_X9_within l E p0 0 9 _ hw) dX9_sure_4 gX9_sure_X9_within rfl ddS_X9_within rfl (by decide) (by decide) rfl (Nat.le_of_ble_eq_true rfl) [] [0, 1, 2, 3, 4, 5] rfl (wr := [ob 9 q_t [.ref q_t_signs, .ref q_t_laps, .ref q_t_breaks, .ref q_t_fraction, .ref q_t_settings, .ref q_t_rates, .ref q_t_joints, .ref q_t_tested, .ref q_t_knocks, .ref q_t_choices], aI E.I q_t_settings 8 t_settings, ob 4 q_t_knocks [.ref q_t_knocks_heard, .ref q_t_knocks_sheetOf, .ref q_t_knocks_soundOf, .ref q_t_knocks_ways, .ref q_t_knocks_nextWays], aI E.I q_t_knocks_heard 10 t_knocks_heard, aI E.I q_t_knocks_sheetOf 10 t_knocks_sheetOf, aI E.I q_t_knocks_soundOf 16 t_knocks_soundOf]) rfl (by decide) (by decide) (by decide) (fun u hw => ?_)
  obtain ⟨r1, hu_⟩ : ∃ z, z = u := ⟨_, rfl⟩
  subst hu_
  try dsimp only at hw
  show G X E 2 [ob 9 q_t [.ref q_t_signs, .ref q_t_laps, .ref q_t_breaks, .ref q_t_fraction, .ref q_t_settings, .ref q_t_rates, .ref q_t_joints, .ref q_t_tested, .ref q_t_knocks, .ref q_t_choices], aI E.I q_t_settings 8 t_settings, ob 4 q_t_knocks [.ref q_t_knocks_heard, .ref q_t_knocks_sheetOf, .ref q_t_knocks_soundOf, .ref q_t_knocks_ways, .ref q_t_knocks_nextWays], aI E.I q_t_knocks_heard 10 t_knocks_heard, aI E.I q_t_knocks_sheetOf 10 t_knocks_sheetOf, aI E.I q_t_knocks_soundOf 16 t_knocks_soundOf] 0 0 7 [(0, .ref q_t), (1, .int p0)] [.int (bI r1)]
  refine g_ifb_eq C0 (tgt := 28) dX9_sure_7 (by decide) (fun c2 => ?_) (fun c2 => ?_)
  · replace hw := hw.1 c2
    refine g_iconst C0 (v := (-1)) dX9_sure_28 (by decide) ?_
    exact g_iret C0 R1 dX9_sure_29 (-1) rfl hw [0, 1, 2, 3, 4, 5] (by decide) rfl (by decide) (by decide)
  · replace hw := hw.2 c2
    refine g_aload_n C0 dX9_sure_10 0 rfl ?_
    refine g_get C0 dX9_sure_11 0 rfl 8 rfl rfl hinX9 (by decide) (List.mem_of_getElem? (i := 1) rfl) rfl ?_
    refine g_iload_n C0 dX9_sure_14 1 rfl ?_
    refine g_aload_n C0 dX9_sure_15 0 rfl ?_
    refine g_get C0 dX9_sure_16 0 rfl 4 rfl rfl hinX9 (by decide) (List.mem_of_getElem? (i := 2) rfl) rfl ?_
    refine g_bipush C0 (v := 6) dX9_sure_19 (by decide) ?_
    obtain ⟨h3, hw⟩ := hw
    refine g_iald C0 (cA := E.I) dX9_sure_21 1 rfl h3 ?_
    refine g_callV C0 (q0 := 2) (ci := 4) (c_X4_onlyGap l E q_t_knocks q_t_knocks_heard q_t_knocks_sheetOf q_t_knocks_soundOf q_t_knocks_ways q_t_knocks_nextWays p0 (t_settings (Int32.toNatClampNeg 6)) t_knocks_heard t_knocks_sheetOf t_knocks_soundOf _ hw) dX9_sure_22 gX9_sure_X4_onlyGap rfl ddV_X4_onlyGap rfl (by decide) (by decide) rfl (Nat.le_of_ble_eq_true rfl) [2, 3, 4, 5] [0, 1] rfl (wr := [ob 9 q_t [.ref q_t_signs, .ref q_t_laps, .ref q_t_breaks, .ref q_t_fraction, .ref q_t_settings, .ref q_t_rates, .ref q_t_joints, .ref q_t_tested, .ref q_t_knocks, .ref q_t_choices], aI E.I q_t_settings 8 t_settings]) rfl (by decide) (by decide) (by decide) rfl rfl (fun u hw => ?_)
    obtain ⟨r4, hu_⟩ : ∃ z, z = u := ⟨_, rfl⟩
    subst hu_
    try dsimp only at hw
    show G X E 2 [ob 9 q_t [.ref q_t_signs, .ref q_t_laps, .ref q_t_breaks, .ref q_t_fraction, .ref q_t_settings, .ref q_t_rates, .ref q_t_joints, .ref q_t_tested, .ref q_t_knocks, .ref q_t_choices], aI E.I q_t_settings 8 t_settings, ob 4 q_t_knocks [.ref q_t_knocks_heard, .ref q_t_knocks_sheetOf, .ref q_t_knocks_soundOf, .ref q_t_knocks_ways, .ref q_t_knocks_nextWays], aI E.I q_t_knocks_heard 10 t_knocks_heard, aI E.I q_t_knocks_sheetOf 10 t_knocks_sheetOf, aI E.I q_t_knocks_soundOf 16 t_knocks_soundOf] 0 0 25 [(0, .ref q_t), (1, .int p0)] [.int r4]
    refine g_goto C0 (tgt := 29) dX9_sure_25 (by decide) ?_
    exact g_iret C0 R1 dX9_sure_29 r4 rfl hw [0, 1, 2, 3, 4, 5] (by decide) rfl (by decide) (by decide)
def w_X9_unseen (p0 : Int32) (t_knocks_soundOf : Nat → Int32) (Q : Int32 → Prop) : Prop := w_X9_within p0 0 3 (fun (r1 : Bool) => (r1 = false → Q (-2)) ∧ (r1 = true → w_X4_pairsAlike p0 t_knocks_soundOf (fun (r3 : Int32) => Q r3)))
theorem ddV_X9_unseen : yX9_unseen.cls = RX9 ∧ yX9_unseen.cls ≠ "java/lang/invoke/MethodHandle" ∧ yX9_unseen.cls ≠ "java/lang/invoke/VarHandle" ∧ (parseMethodDescriptor yX9_unseen.desc).map (fun d => d.parameters.length) = some 1 := by decide +kernel
set_option maxHeartbeats 4000000 in
set_option maxRecDepth 100000 in
theorem c_X9_unseen (l : Launch) (E : gE) (q_t q_t_signs q_t_laps q_t_breaks q_t_fraction q_t_settings q_t_rates q_t_joints q_t_tested q_t_knocks q_t_choices q_t_knocks_heard q_t_knocks_sheetOf q_t_knocks_soundOf q_t_knocks_ways q_t_knocks_nextWays : Nat) (p0 : Int32) (t_knocks_soundOf : Nat → Int32) (Q : Int32 → Prop) (hw : w_X9_unseen p0 t_knocks_soundOf Q) : Ct l E yX9_unseen wsX9_unseen { frames := 3, cells := 0, slots := 0, locals := 69 } [.ref q_t, .int p0] [ob 9 q_t [.ref q_t_signs, .ref q_t_laps, .ref q_t_breaks, .ref q_t_fraction, .ref q_t_settings, .ref q_t_rates, .ref q_t_joints, .ref q_t_tested, .ref q_t_knocks, .ref q_t_choices], ob 4 q_t_knocks [.ref q_t_knocks_heard, .ref q_t_knocks_sheetOf, .ref q_t_knocks_soundOf, .ref q_t_knocks_ways, .ref q_t_knocks_nextWays], aI E.I q_t_knocks_soundOf 16 t_knocks_soundOf] (S := Int32) (fun u => some (.int u)) (fun u => Q u) (fun u => [ob 9 q_t [.ref q_t_signs, .ref q_t_laps, .ref q_t_breaks, .ref q_t_fraction, .ref q_t_settings, .ref q_t_rates, .ref q_t_joints, .ref q_t_tested, .ref q_t_knocks, .ref q_t_choices], ob 4 q_t_knocks [.ref q_t_knocks_heard, .ref q_t_knocks_sheetOf, .ref q_t_knocks_soundOf, .ref q_t_knocks_ways, .ref q_t_knocks_nextWays], aI E.I q_t_knocks_soundOf 16 t_knocks_soundOf]) := by
  unfold w_X9_unseen at hw
  have hinX9 : ∀ w ∈ wsX90, w ∈ wsX9_unseen := fun _ h => List.mem_cons_of_mem _ (List.mem_append_left _ (List.mem_append_right _ h))
  refine g_start (cc := cX9_unseen) (nL := 2) (own := RX9) (ret := (some .int)) rfl (by decide) rfl (Nat.le_of_ble_eq_true rfl) (lv0 := [(0, .ref q_t), (1, .int p0)]) rfl (fun X C0 R1 => ?_)
  refine g_iload_n C0 dX9_unseen_0 1 rfl ?_
  refine g_iconst C0 (v := 0) dX9_unseen_1 (by decide) ?_
  refine g_iconst C0 (v := 3) dX9_unseen_2 (by decide) ?_
  refine g_callS C0 (c_X9_within l E p0 0 3 _ hw) dX9_unseen_3 gX9_unseen_X9_within rfl ddS_X9_within rfl (by decide) (by decide) rfl (Nat.le_of_ble_eq_true rfl) [] [0, 1, 2] rfl (wr := [ob 9 q_t [.ref q_t_signs, .ref q_t_laps, .ref q_t_breaks, .ref q_t_fraction, .ref q_t_settings, .ref q_t_rates, .ref q_t_joints, .ref q_t_tested, .ref q_t_knocks, .ref q_t_choices], ob 4 q_t_knocks [.ref q_t_knocks_heard, .ref q_t_knocks_sheetOf, .ref q_t_knocks_soundOf, .ref q_t_knocks_ways, .ref q_t_knocks_nextWays], aI E.I q_t_knocks_soundOf 16 t_knocks_soundOf]) rfl (by decide) (by decide) (by decide) (fun u hw => ?_)
  obtain ⟨r1, hu_⟩ : ∃ z, z = u := ⟨_, rfl⟩
  subst hu_
  try dsimp only at hw
  show G X E 2 [ob 9 q_t [.ref q_t_signs, .ref q_t_laps, .ref q_t_breaks, .ref q_t_fraction, .ref q_t_settings, .ref q_t_rates, .ref q_t_joints, .ref q_t_tested, .ref q_t_knocks, .ref q_t_choices], ob 4 q_t_knocks [.ref q_t_knocks_heard, .ref q_t_knocks_sheetOf, .ref q_t_knocks_soundOf, .ref q_t_knocks_ways, .ref q_t_knocks_nextWays], aI E.I q_t_knocks_soundOf 16 t_knocks_soundOf] 0 0 6 [(0, .ref q_t), (1, .int p0)] [.int (bI r1)]
  refine g_ifb_eq C0 (tgt := 20) dX9_unseen_6 (by decide) (fun c2 => ?_) (fun c2 => ?_)
  · replace hw := hw.1 c2
    refine g_bipush C0 (v := (-2)) dX9_unseen_20 (by decide) ?_
    exact g_iret C0 R1 dX9_unseen_22 (-2) rfl hw [0, 1, 2] (by decide) rfl (by decide) (by decide)
  · replace hw := hw.2 c2
    refine g_aload_n C0 dX9_unseen_9 0 rfl ?_
    refine g_get C0 dX9_unseen_10 0 rfl 8 rfl rfl hinX9 (by decide) (List.mem_of_getElem? (i := 1) rfl) rfl ?_
    refine g_iload_n C0 dX9_unseen_13 1 rfl ?_
    refine g_callV C0 (q0 := 1) (ci := 4) (c_X4_pairsAlike l E q_t_knocks q_t_knocks_heard q_t_knocks_sheetOf q_t_knocks_soundOf q_t_knocks_ways q_t_knocks_nextWays p0 t_knocks_soundOf _ hw) dX9_unseen_14 gX9_unseen_X4_pairsAlike rfl ddV_X4_pairsAlike rfl (by decide) (by decide) rfl (Nat.le_of_ble_eq_true rfl) [1, 2] [0] rfl (wr := [ob 9 q_t [.ref q_t_signs, .ref q_t_laps, .ref q_t_breaks, .ref q_t_fraction, .ref q_t_settings, .ref q_t_rates, .ref q_t_joints, .ref q_t_tested, .ref q_t_knocks, .ref q_t_choices]]) rfl (by decide) (by decide) (by decide) rfl rfl (fun u hw => ?_)
    obtain ⟨r3, hu_⟩ : ∃ z, z = u := ⟨_, rfl⟩
    subst hu_
    try dsimp only at hw
    show G X E 2 [ob 9 q_t [.ref q_t_signs, .ref q_t_laps, .ref q_t_breaks, .ref q_t_fraction, .ref q_t_settings, .ref q_t_rates, .ref q_t_joints, .ref q_t_tested, .ref q_t_knocks, .ref q_t_choices], ob 4 q_t_knocks [.ref q_t_knocks_heard, .ref q_t_knocks_sheetOf, .ref q_t_knocks_soundOf, .ref q_t_knocks_ways, .ref q_t_knocks_nextWays], aI E.I q_t_knocks_soundOf 16 t_knocks_soundOf] 0 0 17 [(0, .ref q_t), (1, .int p0)] [.int r3]
    refine g_goto C0 (tgt := 22) dX9_unseen_17 (by decide) ?_
    exact g_iret C0 R1 dX9_unseen_22 r3 rfl hw [0, 1, 2] (by decide) rfl (by decide) (by decide)
def w_X9_isLoad (p0 : Int32) (Q : Bool → Prop) : Prop := w_X9_within p0 0 10000 (fun (r1 : Bool) => Q r1)
theorem ddS_X9_isLoad : yX9_isLoad.cls ≠ "java/lang/invoke/MethodHandle" ∧ yX9_isLoad.cls ≠ "java/lang/invoke/VarHandle" ∧ (parseMethodDescriptor yX9_isLoad.desc).map (fun d => d.parameters.length) = some 1 := by decide +kernel
set_option maxHeartbeats 4000000 in
set_option maxRecDepth 100000 in
theorem c_X9_isLoad (l : Launch) (E : gE) (p0 : Int32) (Q : Bool → Prop) (hw : w_X9_isLoad p0 Q) : Ct l E yX9_isLoad wsX9_isLoad { frames := 1, cells := 0, slots := 0, locals := 22 } [.int p0] [] (S := Bool) (fun u => some (.int (bI u))) (fun u => Q u) (fun u => []) := by
  unfold w_X9_isLoad at hw
  refine g_start (cc := cX9_isLoad) (nL := 1) (own := RX9) (ret := (some .boolean)) rfl (by decide) rfl (Nat.le_of_ble_eq_true rfl) (lv0 := [(0, .int p0)]) rfl (fun X C0 R1 => ?_)
  refine g_iload_n C0 dX9_isLoad_0 0 rfl ?_
  refine g_iconst C0 (v := 0) dX9_isLoad_1 (by decide) ?_
  refine g_sipush C0 (v := 10000) dX9_isLoad_2 (by decide) ?_
  refine g_callS C0 (c_X9_within l E p0 0 10000 _ hw) dX9_isLoad_5 gX9_isLoad_X9_within rfl ddS_X9_within rfl (by decide) (by decide) rfl (Nat.le_of_ble_eq_true rfl) [] [] rfl (wr := []) rfl (by decide) (by decide) (by decide) (fun u hw => ?_)
  obtain ⟨r1, hu_⟩ : ∃ z, z = u := ⟨_, rfl⟩
  subst hu_
  try dsimp only at hw
  show G X E 1 [] 0 0 8 [(0, .int p0)] [.int (bI r1)]
  exact g_zret C0 R1 (b := r1) dX9_isLoad_8 r1 rfl hw [] (by decide) rfl (by decide) (by decide)
def w_X9_choice (p0 : Int32) (p1 : Int32) (p2 : Int32) (p3 : Int32) (t_choices_count : Int32) (t_choices_kinds : Nat → Int32) (t_choices_prices : Nat → Int32) (t_choices_holding : Nat → Int32) (t_choices_showing : Nat → Int32) (Q : Int32 → (Nat → Int32) → (Nat → Int32) → (Nat → Int32) → (Nat → Int32) → Int32 → Prop) : Prop := w_X9_within p0 0 3 (fun (r1 : Bool) => (r1 = true → w_X9_within p1 0 1000 (fun (r3 : Bool) => (r3 = false → Q (-2) t_choices_kinds t_choices_prices t_choices_holding t_choices_showing t_choices_count) ∧ (r3 = true → w_X9_isLoad p2 (fun (r5 : Bool) => (r5 = false → Q (-2) t_choices_kinds t_choices_prices t_choices_holding t_choices_showing t_choices_count) ∧ (r5 = true → w_X9_isLoad p3 (fun (r7 : Bool) => (r7 = true → w_X1_append p0 p1 p2 p3 t_choices_count t_choices_kinds t_choices_prices t_choices_holding t_choices_showing (fun (r9 : Int32) (t_choices_kinds_10 : Nat → Int32) (t_choices_prices_11 : Nat → Int32) (t_choices_holding_12 : Nat → Int32) (t_choices_showing_13 : Nat → Int32) (t_choices_count_14 : Int32) => Q r9 t_choices_kinds_10 t_choices_prices_11 t_choices_holding_12 t_choices_showing_13 t_choices_count_14)) ∧ (r7 = false → Q (-2) t_choices_kinds t_choices_prices t_choices_holding t_choices_showing t_choices_count))))))) ∧ (r1 = false → Q (-1) t_choices_kinds t_choices_prices t_choices_holding t_choices_showing t_choices_count))
theorem ddV_X9_choice : yX9_choice.cls = RX9 ∧ yX9_choice.cls ≠ "java/lang/invoke/MethodHandle" ∧ yX9_choice.cls ≠ "java/lang/invoke/VarHandle" ∧ (parseMethodDescriptor yX9_choice.desc).map (fun d => d.parameters.length) = some 4 := by decide +kernel
set_option maxHeartbeats 4000000 in
set_option maxRecDepth 100000 in
theorem c_X9_choice (l : Launch) (E : gE) (q_t q_t_signs q_t_laps q_t_breaks q_t_fraction q_t_settings q_t_rates q_t_joints q_t_tested q_t_knocks q_t_choices q_t_choices_kinds q_t_choices_prices q_t_choices_holding q_t_choices_showing : Nat) (p0 : Int32) (p1 : Int32) (p2 : Int32) (p3 : Int32) (t_choices_count : Int32) (t_choices_kinds : Nat → Int32) (t_choices_prices : Nat → Int32) (t_choices_holding : Nat → Int32) (t_choices_showing : Nat → Int32) (Q : Int32 → (Nat → Int32) → (Nat → Int32) → (Nat → Int32) → (Nat → Int32) → Int32 → Prop) (hw : w_X9_choice p0 p1 p2 p3 t_choices_count t_choices_kinds t_choices_prices t_choices_holding t_choices_showing Q) : Ct l E yX9_choice wsX9_choice { frames := 2, cells := 0, slots := 0, locals := 42 } [.ref q_t, .int p0, .int p1, .int p2, .int p3] [ob 9 q_t [.ref q_t_signs, .ref q_t_laps, .ref q_t_breaks, .ref q_t_fraction, .ref q_t_settings, .ref q_t_rates, .ref q_t_joints, .ref q_t_tested, .ref q_t_knocks, .ref q_t_choices], ob 1 q_t_choices [.ref q_t_choices_kinds, .ref q_t_choices_prices, .ref q_t_choices_holding, .ref q_t_choices_showing, .int t_choices_count], aI E.I q_t_choices_kinds 12 t_choices_kinds, aI E.I q_t_choices_prices 12 t_choices_prices, aI E.I q_t_choices_holding 12 t_choices_holding, aI E.I q_t_choices_showing 12 t_choices_showing] (S := Int32 × (Nat → Int32) × (Nat → Int32) × (Nat → Int32) × (Nat → Int32) × Int32) (fun u => some (.int u.1)) (fun u => Q u.1 u.2.1 u.2.2.1 u.2.2.2.1 u.2.2.2.2.1 u.2.2.2.2.2) (fun u => [ob 9 q_t [.ref q_t_signs, .ref q_t_laps, .ref q_t_breaks, .ref q_t_fraction, .ref q_t_settings, .ref q_t_rates, .ref q_t_joints, .ref q_t_tested, .ref q_t_knocks, .ref q_t_choices], ob 1 q_t_choices [.ref q_t_choices_kinds, .ref q_t_choices_prices, .ref q_t_choices_holding, .ref q_t_choices_showing, .int u.2.2.2.2.2], aI E.I q_t_choices_kinds 12 u.2.1, aI E.I q_t_choices_prices 12 u.2.2.1, aI E.I q_t_choices_holding 12 u.2.2.2.1, aI E.I q_t_choices_showing 12 u.2.2.2.2.1]) := by
  unfold w_X9_choice at hw
  have hinX9 : ∀ w ∈ wsX90, w ∈ wsX9_choice := fun _ h => List.mem_cons_of_mem _ (List.mem_append_left _ (List.mem_append_right _ h))
  refine g_start (cc := cX9_choice) (nL := 5) (own := RX9) (ret := (some .int)) rfl (by decide) rfl (Nat.le_of_ble_eq_true rfl) (lv0 := [(0, .ref q_t), (1, .int p0), (2, .int p1), (3, .int p2), (4, .int p3)]) rfl (fun X C0 R1 => ?_)
  refine g_iload_n C0 dX9_choice_0 1 rfl ?_
  refine g_iconst C0 (v := 0) dX9_choice_1 (by decide) ?_
  refine g_iconst C0 (v := 3) dX9_choice_2 (by decide) ?_
  refine g_callS C0 (c_X9_within l E p0 0 3 _ hw) dX9_choice_3 gX9_choice_X9_within rfl ddS_X9_within rfl (by decide) (by decide) rfl (Nat.le_of_ble_eq_true rfl) [] [0, 1, 2, 3, 4, 5] rfl (wr := [ob 9 q_t [.ref q_t_signs, .ref q_t_laps, .ref q_t_breaks, .ref q_t_fraction, .ref q_t_settings, .ref q_t_rates, .ref q_t_joints, .ref q_t_tested, .ref q_t_knocks, .ref q_t_choices], ob 1 q_t_choices [.ref q_t_choices_kinds, .ref q_t_choices_prices, .ref q_t_choices_holding, .ref q_t_choices_showing, .int t_choices_count], aI E.I q_t_choices_kinds 12 t_choices_kinds, aI E.I q_t_choices_prices 12 t_choices_prices, aI E.I q_t_choices_holding 12 t_choices_holding, aI E.I q_t_choices_showing 12 t_choices_showing]) rfl (by decide) (by decide) (by decide) (fun u hw => ?_)
  obtain ⟨r1, hu_⟩ : ∃ z, z = u := ⟨_, rfl⟩
  subst hu_
  try dsimp only at hw
  show G X E 5 [ob 9 q_t [.ref q_t_signs, .ref q_t_laps, .ref q_t_breaks, .ref q_t_fraction, .ref q_t_settings, .ref q_t_rates, .ref q_t_joints, .ref q_t_tested, .ref q_t_knocks, .ref q_t_choices], ob 1 q_t_choices [.ref q_t_choices_kinds, .ref q_t_choices_prices, .ref q_t_choices_holding, .ref q_t_choices_showing, .int t_choices_count], aI E.I q_t_choices_kinds 12 t_choices_kinds, aI E.I q_t_choices_prices 12 t_choices_prices, aI E.I q_t_choices_holding 12 t_choices_holding, aI E.I q_t_choices_showing 12 t_choices_showing] 0 0 6 [(0, .ref q_t), (1, .int p0), (2, .int p1), (3, .int p2), (4, .int p3)] [.int (bI r1)]
  refine g_ifb_ne C0 (tgt := 11) dX9_choice_6 (by decide) (fun c2 => ?_) (fun c2 => ?_)
  · replace hw := hw.1 c2
    refine g_iload_n C0 dX9_choice_11 2 rfl ?_
    refine g_iconst C0 (v := 0) dX9_choice_12 (by decide) ?_
    refine g_sipush C0 (v := 1000) dX9_choice_13 (by decide) ?_
    refine g_callS C0 (c_X9_within l E p1 0 1000 _ hw) dX9_choice_16 gX9_choice_X9_within rfl ddS_X9_within rfl (by decide) (by decide) rfl (Nat.le_of_ble_eq_true rfl) [] [0, 1, 2, 3, 4, 5] rfl (wr := [ob 9 q_t [.ref q_t_signs, .ref q_t_laps, .ref q_t_breaks, .ref q_t_fraction, .ref q_t_settings, .ref q_t_rates, .ref q_t_joints, .ref q_t_tested, .ref q_t_knocks, .ref q_t_choices], ob 1 q_t_choices [.ref q_t_choices_kinds, .ref q_t_choices_prices, .ref q_t_choices_holding, .ref q_t_choices_showing, .int t_choices_count], aI E.I q_t_choices_kinds 12 t_choices_kinds, aI E.I q_t_choices_prices 12 t_choices_prices, aI E.I q_t_choices_holding 12 t_choices_holding, aI E.I q_t_choices_showing 12 t_choices_showing]) rfl (by decide) (by decide) (by decide) (fun u hw => ?_)
    obtain ⟨r3, hu_⟩ : ∃ z, z = u := ⟨_, rfl⟩
    subst hu_
    try dsimp only at hw
    show G X E 5 [ob 9 q_t [.ref q_t_signs, .ref q_t_laps, .ref q_t_breaks, .ref q_t_fraction, .ref q_t_settings, .ref q_t_rates, .ref q_t_joints, .ref q_t_tested, .ref q_t_knocks, .ref q_t_choices], ob 1 q_t_choices [.ref q_t_choices_kinds, .ref q_t_choices_prices, .ref q_t_choices_holding, .ref q_t_choices_showing, .int t_choices_count], aI E.I q_t_choices_kinds 12 t_choices_kinds, aI E.I q_t_choices_prices 12 t_choices_prices, aI E.I q_t_choices_holding 12 t_choices_holding, aI E.I q_t_choices_showing 12 t_choices_showing] 0 0 19 [(0, .ref q_t), (1, .int p0), (2, .int p1), (3, .int p2), (4, .int p3)] [.int (bI r3)]
    refine g_ifb_eq C0 (tgt := 37) dX9_choice_19 (by decide) (fun c4 => ?_) (fun c4 => ?_)
    · replace hw := hw.1 c4
      refine g_bipush C0 (v := (-2)) dX9_choice_37 (by decide) ?_
      exact g_iret C0 R1 dX9_choice_39 ((-2), t_choices_kinds, t_choices_prices, t_choices_holding, t_choices_showing, t_choices_count) rfl hw [0, 1, 2, 3, 4, 5] (by decide) rfl (by decide) (by decide)
    · replace hw := hw.2 c4
      refine g_iload_n C0 dX9_choice_22 3 rfl ?_
      refine g_callS C0 (c_X9_isLoad l E p2 _ hw) dX9_choice_23 gX9_choice_X9_isLoad rfl ddS_X9_isLoad rfl (by decide) (by decide) rfl (Nat.le_of_ble_eq_true rfl) [] [0, 1, 2, 3, 4, 5] rfl (wr := [ob 9 q_t [.ref q_t_signs, .ref q_t_laps, .ref q_t_breaks, .ref q_t_fraction, .ref q_t_settings, .ref q_t_rates, .ref q_t_joints, .ref q_t_tested, .ref q_t_knocks, .ref q_t_choices], ob 1 q_t_choices [.ref q_t_choices_kinds, .ref q_t_choices_prices, .ref q_t_choices_holding, .ref q_t_choices_showing, .int t_choices_count], aI E.I q_t_choices_kinds 12 t_choices_kinds, aI E.I q_t_choices_prices 12 t_choices_prices, aI E.I q_t_choices_holding 12 t_choices_holding, aI E.I q_t_choices_showing 12 t_choices_showing]) rfl (by decide) (by decide) (by decide) (fun u hw => ?_)
      obtain ⟨r5, hu_⟩ : ∃ z, z = u := ⟨_, rfl⟩
      subst hu_
      try dsimp only at hw
      show G X E 5 [ob 9 q_t [.ref q_t_signs, .ref q_t_laps, .ref q_t_breaks, .ref q_t_fraction, .ref q_t_settings, .ref q_t_rates, .ref q_t_joints, .ref q_t_tested, .ref q_t_knocks, .ref q_t_choices], ob 1 q_t_choices [.ref q_t_choices_kinds, .ref q_t_choices_prices, .ref q_t_choices_holding, .ref q_t_choices_showing, .int t_choices_count], aI E.I q_t_choices_kinds 12 t_choices_kinds, aI E.I q_t_choices_prices 12 t_choices_prices, aI E.I q_t_choices_holding 12 t_choices_holding, aI E.I q_t_choices_showing 12 t_choices_showing] 0 0 26 [(0, .ref q_t), (1, .int p0), (2, .int p1), (3, .int p2), (4, .int p3)] [.int (bI r5)]
      refine g_ifb_eq C0 (tgt := 37) dX9_choice_26 (by decide) (fun c6 => ?_) (fun c6 => ?_)
      · replace hw := hw.1 c6
        refine g_bipush C0 (v := (-2)) dX9_choice_37 (by decide) ?_
        exact g_iret C0 R1 dX9_choice_39 ((-2), t_choices_kinds, t_choices_prices, t_choices_holding, t_choices_showing, t_choices_count) rfl hw [0, 1, 2, 3, 4, 5] (by decide) rfl (by decide) (by decide)
      · replace hw := hw.2 c6
        refine g_iload C0 dX9_choice_29 4 rfl ?_
        refine g_callS C0 (c_X9_isLoad l E p3 _ hw) dX9_choice_31 gX9_choice_X9_isLoad rfl ddS_X9_isLoad rfl (by decide) (by decide) rfl (Nat.le_of_ble_eq_true rfl) [] [0, 1, 2, 3, 4, 5] rfl (wr := [ob 9 q_t [.ref q_t_signs, .ref q_t_laps, .ref q_t_breaks, .ref q_t_fraction, .ref q_t_settings, .ref q_t_rates, .ref q_t_joints, .ref q_t_tested, .ref q_t_knocks, .ref q_t_choices], ob 1 q_t_choices [.ref q_t_choices_kinds, .ref q_t_choices_prices, .ref q_t_choices_holding, .ref q_t_choices_showing, .int t_choices_count], aI E.I q_t_choices_kinds 12 t_choices_kinds, aI E.I q_t_choices_prices 12 t_choices_prices, aI E.I q_t_choices_holding 12 t_choices_holding, aI E.I q_t_choices_showing 12 t_choices_showing]) rfl (by decide) (by decide) (by decide) (fun u hw => ?_)
        obtain ⟨r7, hu_⟩ : ∃ z, z = u := ⟨_, rfl⟩
        subst hu_
        try dsimp only at hw
        show G X E 5 [ob 9 q_t [.ref q_t_signs, .ref q_t_laps, .ref q_t_breaks, .ref q_t_fraction, .ref q_t_settings, .ref q_t_rates, .ref q_t_joints, .ref q_t_tested, .ref q_t_knocks, .ref q_t_choices], ob 1 q_t_choices [.ref q_t_choices_kinds, .ref q_t_choices_prices, .ref q_t_choices_holding, .ref q_t_choices_showing, .int t_choices_count], aI E.I q_t_choices_kinds 12 t_choices_kinds, aI E.I q_t_choices_prices 12 t_choices_prices, aI E.I q_t_choices_holding 12 t_choices_holding, aI E.I q_t_choices_showing 12 t_choices_showing] 0 0 34 [(0, .ref q_t), (1, .int p0), (2, .int p1), (3, .int p2), (4, .int p3)] [.int (bI r7)]
        refine g_ifb_ne C0 (tgt := 40) dX9_choice_34 (by decide) (fun c8 => ?_) (fun c8 => ?_)
        · replace hw := hw.1 c8
          refine g_aload_n C0 dX9_choice_40 0 rfl ?_
          refine g_get C0 dX9_choice_41 0 rfl 9 rfl rfl hinX9 (by decide) (List.mem_of_getElem? (i := 1) rfl) rfl ?_
          refine g_iload_n C0 dX9_choice_44 1 rfl ?_
          refine g_iload_n C0 dX9_choice_45 2 rfl ?_
          refine g_iload_n C0 dX9_choice_46 3 rfl ?_
          refine g_iload C0 dX9_choice_47 4 rfl ?_
          refine g_callV C0 (q0 := 1) (ci := 1) (c_X1_append l E q_t_choices q_t_choices_kinds q_t_choices_prices q_t_choices_holding q_t_choices_showing p0 p1 p2 p3 t_choices_count t_choices_kinds t_choices_prices t_choices_holding t_choices_showing _ hw) dX9_choice_49 gX9_choice_X1_append rfl ddV_X1_append rfl (by decide) (by decide) rfl (Nat.le_of_ble_eq_true rfl) [1, 2, 3, 4, 5] [0] rfl (wr := [ob 9 q_t [.ref q_t_signs, .ref q_t_laps, .ref q_t_breaks, .ref q_t_fraction, .ref q_t_settings, .ref q_t_rates, .ref q_t_joints, .ref q_t_tested, .ref q_t_knocks, .ref q_t_choices]]) rfl (by decide) (by decide) (by decide) rfl rfl (fun u hw => ?_)
          obtain ⟨r9, t_choices_kinds_10, t_choices_prices_11, t_choices_holding_12, t_choices_showing_13, t_choices_count_14⟩ := u
          try dsimp only at hw
          show G X E 5 [ob 9 q_t [.ref q_t_signs, .ref q_t_laps, .ref q_t_breaks, .ref q_t_fraction, .ref q_t_settings, .ref q_t_rates, .ref q_t_joints, .ref q_t_tested, .ref q_t_knocks, .ref q_t_choices], ob 1 q_t_choices [.ref q_t_choices_kinds, .ref q_t_choices_prices, .ref q_t_choices_holding, .ref q_t_choices_showing, .int t_choices_count_14], aI E.I q_t_choices_kinds 12 t_choices_kinds_10, aI E.I q_t_choices_prices 12 t_choices_prices_11, aI E.I q_t_choices_holding 12 t_choices_holding_12, aI E.I q_t_choices_showing 12 t_choices_showing_13] 0 0 52 [(0, .ref q_t), (1, .int p0), (2, .int p1), (3, .int p2), (4, .int p3)] [.int r9]
          exact g_iret C0 R1 dX9_choice_52 (r9, t_choices_kinds_10, t_choices_prices_11, t_choices_holding_12, t_choices_showing_13, t_choices_count_14) rfl hw [0, 1, 2, 3, 4, 5] (by decide) rfl (by decide) (by decide)
        · replace hw := hw.2 c8
          refine g_bipush C0 (v := (-2)) dX9_choice_37 (by decide) ?_
          exact g_iret C0 R1 dX9_choice_39 ((-2), t_choices_kinds, t_choices_prices, t_choices_holding, t_choices_showing, t_choices_count) rfl hw [0, 1, 2, 3, 4, 5] (by decide) rfl (by decide) (by decide)
  · replace hw := hw.2 c2
    refine g_iconst C0 (v := (-1)) dX9_choice_9 (by decide) ?_
    exact g_iret C0 R1 dX9_choice_10 ((-1), t_choices_kinds, t_choices_prices, t_choices_holding, t_choices_showing, t_choices_count) rfl hw [0, 1, 2, 3, 4, 5] (by decide) rfl (by decide) (by decide)
def w_X9_cheapest (p0 : Int32) (p1 : Int32) (t_settings : Nat → Int32) (t_choices_count : Int32) (t_choices_kinds : Nat → Int32) (t_choices_holding : Nat → Int32) (t_choices_showing : Nat → Int32) (t_choices_prices : Nat → Int32) (Q : Int32 → Prop) : Prop := w_X9_within p1 (-1) 3 (fun (r1 : Bool) => (r1 = true → w_X9_isLoad p0 (fun (r3 : Bool) => (r3 = false → Q (-2)) ∧ (r3 = true → vp_in 7 8 ∧ (w_X1_bestFor p0 p1 (t_settings (Int32.toNatClampNeg 7)) t_choices_count t_choices_kinds t_choices_holding t_choices_showing t_choices_prices (fun (r6 : Int32) => Q r6))))) ∧ (r1 = false → Q (-1)))
theorem ddV_X9_cheapest : yX9_cheapest.cls = RX9 ∧ yX9_cheapest.cls ≠ "java/lang/invoke/MethodHandle" ∧ yX9_cheapest.cls ≠ "java/lang/invoke/VarHandle" ∧ (parseMethodDescriptor yX9_cheapest.desc).map (fun d => d.parameters.length) = some 2 := by decide +kernel
set_option maxHeartbeats 4000000 in
set_option maxRecDepth 100000 in
theorem c_X9_cheapest (l : Launch) (E : gE) (q_t q_t_signs q_t_laps q_t_breaks q_t_fraction q_t_settings q_t_rates q_t_joints q_t_tested q_t_knocks q_t_choices q_t_choices_kinds q_t_choices_prices q_t_choices_holding q_t_choices_showing : Nat) (p0 : Int32) (p1 : Int32) (t_settings : Nat → Int32) (t_choices_count : Int32) (t_choices_kinds : Nat → Int32) (t_choices_holding : Nat → Int32) (t_choices_showing : Nat → Int32) (t_choices_prices : Nat → Int32) (Q : Int32 → Prop) (hw : w_X9_cheapest p0 p1 t_settings t_choices_count t_choices_kinds t_choices_holding t_choices_showing t_choices_prices Q) : Ct l E yX9_cheapest wsX9_cheapest { frames := 2, cells := 0, slots := 0, locals := 49 } [.ref q_t, .int p0, .int p1] [ob 9 q_t [.ref q_t_signs, .ref q_t_laps, .ref q_t_breaks, .ref q_t_fraction, .ref q_t_settings, .ref q_t_rates, .ref q_t_joints, .ref q_t_tested, .ref q_t_knocks, .ref q_t_choices], aI E.I q_t_settings 8 t_settings, ob 1 q_t_choices [.ref q_t_choices_kinds, .ref q_t_choices_prices, .ref q_t_choices_holding, .ref q_t_choices_showing, .int t_choices_count], aI E.I q_t_choices_kinds 12 t_choices_kinds, aI E.I q_t_choices_holding 12 t_choices_holding, aI E.I q_t_choices_showing 12 t_choices_showing, aI E.I q_t_choices_prices 12 t_choices_prices] (S := Int32) (fun u => some (.int u)) (fun u => Q u) (fun u => [ob 9 q_t [.ref q_t_signs, .ref q_t_laps, .ref q_t_breaks, .ref q_t_fraction, .ref q_t_settings, .ref q_t_rates, .ref q_t_joints, .ref q_t_tested, .ref q_t_knocks, .ref q_t_choices], aI E.I q_t_settings 8 t_settings, ob 1 q_t_choices [.ref q_t_choices_kinds, .ref q_t_choices_prices, .ref q_t_choices_holding, .ref q_t_choices_showing, .int t_choices_count], aI E.I q_t_choices_kinds 12 t_choices_kinds, aI E.I q_t_choices_holding 12 t_choices_holding, aI E.I q_t_choices_showing 12 t_choices_showing, aI E.I q_t_choices_prices 12 t_choices_prices]) := by
  unfold w_X9_cheapest at hw
  have hinX9 : ∀ w ∈ wsX90, w ∈ wsX9_cheapest := fun _ h => List.mem_cons_of_mem _ (List.mem_append_left _ (List.mem_append_right _ h))
  refine g_start (cc := cX9_cheapest) (nL := 3) (own := RX9) (ret := (some .int)) rfl (by decide) rfl (Nat.le_of_ble_eq_true rfl) (lv0 := [(0, .ref q_t), (1, .int p0), (2, .int p1)]) rfl (fun X C0 R1 => ?_)
  refine g_iload_n C0 dX9_cheapest_0 2 rfl ?_
  refine g_iconst C0 (v := (-1)) dX9_cheapest_1 (by decide) ?_
  refine g_iconst C0 (v := 3) dX9_cheapest_2 (by decide) ?_
  refine g_callS C0 (c_X9_within l E p1 (-1) 3 _ hw) dX9_cheapest_3 gX9_cheapest_X9_within rfl ddS_X9_within rfl (by decide) (by decide) rfl (Nat.le_of_ble_eq_true rfl) [] [0, 1, 2, 3, 4, 5, 6] rfl (wr := [ob 9 q_t [.ref q_t_signs, .ref q_t_laps, .ref q_t_breaks, .ref q_t_fraction, .ref q_t_settings, .ref q_t_rates, .ref q_t_joints, .ref q_t_tested, .ref q_t_knocks, .ref q_t_choices], aI E.I q_t_settings 8 t_settings, ob 1 q_t_choices [.ref q_t_choices_kinds, .ref q_t_choices_prices, .ref q_t_choices_holding, .ref q_t_choices_showing, .int t_choices_count], aI E.I q_t_choices_kinds 12 t_choices_kinds, aI E.I q_t_choices_holding 12 t_choices_holding, aI E.I q_t_choices_showing 12 t_choices_showing, aI E.I q_t_choices_prices 12 t_choices_prices]) rfl (by decide) (by decide) (by decide) (fun u hw => ?_)
  obtain ⟨r1, hu_⟩ : ∃ z, z = u := ⟨_, rfl⟩
  subst hu_
  try dsimp only at hw
  show G X E 3 [ob 9 q_t [.ref q_t_signs, .ref q_t_laps, .ref q_t_breaks, .ref q_t_fraction, .ref q_t_settings, .ref q_t_rates, .ref q_t_joints, .ref q_t_tested, .ref q_t_knocks, .ref q_t_choices], aI E.I q_t_settings 8 t_settings, ob 1 q_t_choices [.ref q_t_choices_kinds, .ref q_t_choices_prices, .ref q_t_choices_holding, .ref q_t_choices_showing, .int t_choices_count], aI E.I q_t_choices_kinds 12 t_choices_kinds, aI E.I q_t_choices_holding 12 t_choices_holding, aI E.I q_t_choices_showing 12 t_choices_showing, aI E.I q_t_choices_prices 12 t_choices_prices] 0 0 6 [(0, .ref q_t), (1, .int p0), (2, .int p1)] [.int (bI r1)]
  refine g_ifb_ne C0 (tgt := 11) dX9_cheapest_6 (by decide) (fun c2 => ?_) (fun c2 => ?_)
  · replace hw := hw.1 c2
    refine g_iload_n C0 dX9_cheapest_11 1 rfl ?_
    refine g_callS C0 (c_X9_isLoad l E p0 _ hw) dX9_cheapest_12 gX9_cheapest_X9_isLoad rfl ddS_X9_isLoad rfl (by decide) (by decide) rfl (Nat.le_of_ble_eq_true rfl) [] [0, 1, 2, 3, 4, 5, 6] rfl (wr := [ob 9 q_t [.ref q_t_signs, .ref q_t_laps, .ref q_t_breaks, .ref q_t_fraction, .ref q_t_settings, .ref q_t_rates, .ref q_t_joints, .ref q_t_tested, .ref q_t_knocks, .ref q_t_choices], aI E.I q_t_settings 8 t_settings, ob 1 q_t_choices [.ref q_t_choices_kinds, .ref q_t_choices_prices, .ref q_t_choices_holding, .ref q_t_choices_showing, .int t_choices_count], aI E.I q_t_choices_kinds 12 t_choices_kinds, aI E.I q_t_choices_holding 12 t_choices_holding, aI E.I q_t_choices_showing 12 t_choices_showing, aI E.I q_t_choices_prices 12 t_choices_prices]) rfl (by decide) (by decide) (by decide) (fun u hw => ?_)
    obtain ⟨r3, hu_⟩ : ∃ z, z = u := ⟨_, rfl⟩
    subst hu_
    try dsimp only at hw
    show G X E 3 [ob 9 q_t [.ref q_t_signs, .ref q_t_laps, .ref q_t_breaks, .ref q_t_fraction, .ref q_t_settings, .ref q_t_rates, .ref q_t_joints, .ref q_t_tested, .ref q_t_knocks, .ref q_t_choices], aI E.I q_t_settings 8 t_settings, ob 1 q_t_choices [.ref q_t_choices_kinds, .ref q_t_choices_prices, .ref q_t_choices_holding, .ref q_t_choices_showing, .int t_choices_count], aI E.I q_t_choices_kinds 12 t_choices_kinds, aI E.I q_t_choices_holding 12 t_choices_holding, aI E.I q_t_choices_showing 12 t_choices_showing, aI E.I q_t_choices_prices 12 t_choices_prices] 0 0 15 [(0, .ref q_t), (1, .int p0), (2, .int p1)] [.int (bI r3)]
    refine g_ifb_eq C0 (tgt := 37) dX9_cheapest_15 (by decide) (fun c4 => ?_) (fun c4 => ?_)
    · replace hw := hw.1 c4
      refine g_bipush C0 (v := (-2)) dX9_cheapest_37 (by decide) ?_
      exact g_iret C0 R1 dX9_cheapest_39 (-2) rfl hw [0, 1, 2, 3, 4, 5, 6] (by decide) rfl (by decide) (by decide)
    · replace hw := hw.2 c4
      refine g_aload_n C0 dX9_cheapest_18 0 rfl ?_
      refine g_get C0 dX9_cheapest_19 0 rfl 9 rfl rfl hinX9 (by decide) (List.mem_of_getElem? (i := 1) rfl) rfl ?_
      refine g_iload_n C0 dX9_cheapest_22 1 rfl ?_
      refine g_iload_n C0 dX9_cheapest_23 2 rfl ?_
      refine g_aload_n C0 dX9_cheapest_24 0 rfl ?_
      refine g_get C0 dX9_cheapest_25 0 rfl 4 rfl rfl hinX9 (by decide) (List.mem_of_getElem? (i := 2) rfl) rfl ?_
      refine g_bipush C0 (v := 7) dX9_cheapest_28 (by decide) ?_
      obtain ⟨h5, hw⟩ := hw
      refine g_iald C0 (cA := E.I) dX9_cheapest_30 1 rfl h5 ?_
      refine g_callV C0 (q0 := 2) (ci := 1) (c_X1_bestFor l E q_t_choices q_t_choices_kinds q_t_choices_prices q_t_choices_holding q_t_choices_showing p0 p1 (t_settings (Int32.toNatClampNeg 7)) t_choices_count t_choices_kinds t_choices_holding t_choices_showing t_choices_prices _ hw) dX9_cheapest_31 gX9_cheapest_X1_bestFor rfl ddV_X1_bestFor rfl (by decide) (by decide) rfl (Nat.le_of_ble_eq_true rfl) [2, 3, 4, 5, 6] [0, 1] rfl (wr := [ob 9 q_t [.ref q_t_signs, .ref q_t_laps, .ref q_t_breaks, .ref q_t_fraction, .ref q_t_settings, .ref q_t_rates, .ref q_t_joints, .ref q_t_tested, .ref q_t_knocks, .ref q_t_choices], aI E.I q_t_settings 8 t_settings]) rfl (by decide) (by decide) (by decide) rfl rfl (fun u hw => ?_)
      obtain ⟨r6, hu_⟩ : ∃ z, z = u := ⟨_, rfl⟩
      subst hu_
      try dsimp only at hw
      show G X E 3 [ob 9 q_t [.ref q_t_signs, .ref q_t_laps, .ref q_t_breaks, .ref q_t_fraction, .ref q_t_settings, .ref q_t_rates, .ref q_t_joints, .ref q_t_tested, .ref q_t_knocks, .ref q_t_choices], aI E.I q_t_settings 8 t_settings, ob 1 q_t_choices [.ref q_t_choices_kinds, .ref q_t_choices_prices, .ref q_t_choices_holding, .ref q_t_choices_showing, .int t_choices_count], aI E.I q_t_choices_kinds 12 t_choices_kinds, aI E.I q_t_choices_holding 12 t_choices_holding, aI E.I q_t_choices_showing 12 t_choices_showing, aI E.I q_t_choices_prices 12 t_choices_prices] 0 0 34 [(0, .ref q_t), (1, .int p0), (2, .int p1)] [.int r6]
      refine g_goto C0 (tgt := 39) dX9_cheapest_34 (by decide) ?_
      exact g_iret C0 R1 dX9_cheapest_39 r6 rfl hw [0, 1, 2, 3, 4, 5, 6] (by decide) rfl (by decide) (by decide)
  · replace hw := hw.2 c2
    refine g_iconst C0 (v := (-1)) dX9_cheapest_9 (by decide) ?_
    exact g_iret C0 R1 dX9_cheapest_10 (-1) rfl hw [0, 1, 2, 3, 4, 5, 6] (by decide) rfl (by decide) (by decide)
def w_X9_strengthOf (p0 : Int32) (p1 : Int32) (p2 : Int32) (p3 : Int32) (Q : Int32 → Prop) : Prop := ∀ x4_1 : Int32, x4_1 = ((p0 * p1) / 100) → (∀ x5_2 : Int32, x5_2 = ((x4_1 * p2) / 1000) → (Q ((x5_2 * (1000 - p3)) / 1000)))
theorem ddS_X9_strengthOf : yX9_strengthOf.cls ≠ "java/lang/invoke/MethodHandle" ∧ yX9_strengthOf.cls ≠ "java/lang/invoke/VarHandle" ∧ (parseMethodDescriptor yX9_strengthOf.desc).map (fun d => d.parameters.length) = some 4 := by decide +kernel
set_option maxHeartbeats 4000000 in
set_option maxRecDepth 100000 in
theorem c_X9_strengthOf (l : Launch) (E : gE) (p0 : Int32) (p1 : Int32) (p2 : Int32) (p3 : Int32) (Q : Int32 → Prop) (hw : w_X9_strengthOf p0 p1 p2 p3 Q) : Ct l E yX9_strengthOf wsX9_strengthOf { frames := 0, cells := 0, slots := 0, locals := 0 } [.int p0, .int p1, .int p2, .int p3] [] (S := Int32) (fun u => some (.int u)) (fun u => Q u) (fun u => []) := by
  unfold w_X9_strengthOf at hw
  refine g_start (cc := cX9_strengthOf) (nL := 6) (own := RX9) (ret := (some .int)) rfl (by decide) rfl (Nat.le_of_ble_eq_true rfl) (lv0 := [(0, .int p0), (1, .int p1), (2, .int p2), (3, .int p3)]) rfl (fun X C0 R1 => ?_)
  refine g_iload_n C0 dX9_strengthOf_0 0 rfl ?_
  refine g_iload_n C0 dX9_strengthOf_1 1 rfl ?_
  refine g_imul C0 dX9_strengthOf_2 ?_
  refine g_bipush C0 (v := 100) dX9_strengthOf_3 (by decide) ?_
  refine g_idiv C0 dX9_strengthOf_5 (by decide) ?_
  refine g_topi (fun x4_1 ex4_1 => ?_)
  replace hw := hw x4_1 ex4_1
  refine g_istore C0 (lv2 := [(4, .int x4_1), (0, .int p0), (1, .int p1), (2, .int p2), (3, .int p3)]) dX9_strengthOf_6 (by decide) rfl ?_
  refine g_iload C0 dX9_strengthOf_8 0 rfl ?_
  refine g_iload_n C0 dX9_strengthOf_10 3 rfl ?_
  refine g_imul C0 dX9_strengthOf_11 ?_
  refine g_sipush C0 (v := 1000) dX9_strengthOf_12 (by decide) ?_
  refine g_idiv C0 dX9_strengthOf_15 (by decide) ?_
  refine g_topi (fun x5_2 ex5_2 => ?_)
  replace hw := hw x5_2 ex5_2
  refine g_istore C0 (lv2 := [(5, .int x5_2), (4, .int x4_1), (0, .int p0), (1, .int p1), (2, .int p2), (3, .int p3)]) dX9_strengthOf_16 (by decide) rfl ?_
  refine g_iload C0 dX9_strengthOf_18 0 rfl ?_
  refine g_sipush C0 (v := 1000) dX9_strengthOf_20 (by decide) ?_
  refine g_iload_n C0 dX9_strengthOf_23 5 rfl ?_
  refine g_isub C0 dX9_strengthOf_24 ?_
  refine g_imul C0 dX9_strengthOf_25 ?_
  refine g_sipush C0 (v := 1000) dX9_strengthOf_26 (by decide) ?_
  refine g_idiv C0 dX9_strengthOf_29 (by decide) ?_
  exact g_iret C0 R1 dX9_strengthOf_30 ((x5_2 * (1000 - p3)) / 1000) rfl hw [] (by decide) rfl (by decide) (by decide)
def w_X9_causesAlone (p1 : Int32) (p2 : Int32) (p3 : Int32) (p4 : Int32) (a0_cure : Int32) (a0_cells : Nat → Int32) (Q : Int32 → Prop) : Prop := w_X9_strengthOf p1 p2 1000 0 (fun (r1 : Int32) => wj1 (fun (J3 : Int32 → Prop) => (p4 ≤ r1 → J3 0) ∧ (¬ p4 ≤ r1 → ∀ x5_20 : Int32, x5_20 = (0 ||| 1) → (J3 x5_20))) (fun (x5_2 : Int32) => w_X9_strengthOf p1 100 a0_cure 0 (fun (r4 : Int32) => wj1 (fun (J6 : Int32 → Prop) => (p4 ≤ r4 → J6 x5_2) ∧ (¬ p4 ≤ r4 → ∀ x5_18 : Int32, x5_18 = (x5_2 ||| 2) → (J6 x5_18))) (fun (x5_5 : Int32) => w_X5_greatestDamp a0_cells (fun (r7 : Int32) => w_X9_strengthOf p1 100 1000 r7 (fun (r8 : Int32) => wj1 (fun (J10 : Int32 → Prop) => (p4 ≤ r8 → J10 x5_5) ∧ (¬ p4 ≤ r8 → ∀ x5_16 : Int32, x5_16 = (x5_5 ||| 4) → (J10 x5_16))) (fun (x5_9 : Int32) => (p3 ≤ p4 → Q x5_9) ∧ (¬ p3 ≤ p4 → w_X9_strengthOf p1 100 1000 0 (fun (r12 : Int32) => (p3 ≤ r12 → Q x5_9) ∧ (¬ p3 ≤ r12 → ∀ x5_14 : Int32, x5_14 = (x5_9 ||| 8) → (Q x5_14)))))))))))
theorem ddS_X9_causesAlone : yX9_causesAlone.cls ≠ "java/lang/invoke/MethodHandle" ∧ yX9_causesAlone.cls ≠ "java/lang/invoke/VarHandle" ∧ (parseMethodDescriptor yX9_causesAlone.desc).map (fun d => d.parameters.length) = some 5 := by decide +kernel
set_option maxHeartbeats 4000000 in
set_option maxRecDepth 100000 in
theorem c_X9_causesAlone (l : Launch) (E : gE) (q_a0 q_a0_glue q_a0_upper q_a0_under q_a0_work q_a0_wear q_a0_cells : Nat) (p1 : Int32) (p2 : Int32) (p3 : Int32) (p4 : Int32) (a0_spots : Int32) (a0_cure : Int32) (a0_cells : Nat → Int32) (Q : Int32 → Prop) (hw : w_X9_causesAlone p1 p2 p3 p4 a0_cure a0_cells Q) : Ct l E yX9_causesAlone wsX9_causesAlone { frames := 2, cells := 0, slots := 0, locals := 43 } [.ref q_a0, .int p1, .int p2, .int p3, .int p4] [ob 5 q_a0 [.ref q_a0_glue, .ref q_a0_upper, .ref q_a0_under, .ref q_a0_work, .ref q_a0_wear, .ref q_a0_cells, .int a0_spots, .int a0_cure], aI E.I q_a0_cells 10 a0_cells] (S := Int32) (fun u => some (.int u)) (fun u => Q u) (fun u => [ob 5 q_a0 [.ref q_a0_glue, .ref q_a0_upper, .ref q_a0_under, .ref q_a0_work, .ref q_a0_wear, .ref q_a0_cells, .int a0_spots, .int a0_cure], aI E.I q_a0_cells 10 a0_cells]) := by
  unfold w_X9_causesAlone at hw
  have hinX5 : ∀ w ∈ wsX50, w ∈ wsX9_causesAlone := fun _ h => List.mem_cons_of_mem _ (List.mem_append_right _ h)
  refine g_start (cc := cX9_causesAlone) (nL := 6) (own := RX9) (ret := (some .int)) rfl (by decide) rfl (Nat.le_of_ble_eq_true rfl) (lv0 := [(0, .ref q_a0), (1, .int p1), (2, .int p2), (3, .int p3), (4, .int p4)]) rfl (fun X C0 R1 => ?_)
  refine g_iconst C0 (v := 0) dX9_causesAlone_0 (by decide) ?_
  refine g_istore C0 (lv2 := [(5, .int 0), (0, .ref q_a0), (1, .int p1), (2, .int p2), (3, .int p3), (4, .int p4)]) dX9_causesAlone_1 (by decide) rfl ?_
  refine g_iload_n C0 dX9_causesAlone_3 2 rfl ?_
  refine g_iload_n C0 dX9_causesAlone_4 3 rfl ?_
  refine g_sipush C0 (v := 1000) dX9_causesAlone_5 (by decide) ?_
  refine g_iconst C0 (v := 0) dX9_causesAlone_8 (by decide) ?_
  refine g_callS C0 (c_X9_strengthOf l E p1 p2 1000 0 _ hw) dX9_causesAlone_9 gX9_causesAlone_X9_strengthOf rfl ddS_X9_strengthOf rfl (by decide) (by decide) rfl (Nat.le_of_ble_eq_true rfl) [] [0, 1] rfl (wr := [ob 5 q_a0 [.ref q_a0_glue, .ref q_a0_upper, .ref q_a0_under, .ref q_a0_work, .ref q_a0_wear, .ref q_a0_cells, .int a0_spots, .int a0_cure], aI E.I q_a0_cells 10 a0_cells]) rfl (by decide) (by decide) (by decide) (fun u hw => ?_)
  obtain ⟨r1, hu_⟩ : ∃ z, z = u := ⟨_, rfl⟩
  subst hu_
  try dsimp only at hw
  show G X E 6 [ob 5 q_a0 [.ref q_a0_glue, .ref q_a0_upper, .ref q_a0_under, .ref q_a0_work, .ref q_a0_wear, .ref q_a0_cells, .int a0_spots, .int a0_cure], aI E.I q_a0_cells 10 a0_cells] 0 0 12 [(5, .int 0), (0, .ref q_a0), (1, .int p1), (2, .int p2), (3, .int p3), (4, .int p4)] [.int r1]
  refine g_iload C0 dX9_causesAlone_12 5 rfl ?_
  refine wj1_go (P := fun (x5_2 : Int32) => G X E 6 [ob 5 q_a0 [.ref q_a0_glue, .ref q_a0_upper, .ref q_a0_under, .ref q_a0_work, .ref q_a0_wear, .ref q_a0_cells, .int a0_spots, .int a0_cure], aI E.I q_a0_cells 10 a0_cells] 0 0 23 [(0, .ref q_a0), (1, .int p1), (3, .int p3), (4, .int p4), (5, .int x5_2)] []) hw (fun x5_2 hw => ?_) (fun J3 hJ3 hw => ?_)
  · refine g_iload_n C0 dX9_causesAlone_23 1 rfl ?_
    refine g_bipush C0 (v := 100) dX9_causesAlone_24 (by decide) ?_
    refine g_aload_n C0 dX9_causesAlone_26 0 rfl ?_
    refine g_get C0 dX9_causesAlone_27 0 rfl 7 rfl rfl hinX5 (by decide) (List.mem_of_getElem? (i := 1) rfl) rfl ?_
    refine g_iconst C0 (v := 0) dX9_causesAlone_30 (by decide) ?_
    refine g_callS C0 (c_X9_strengthOf l E p1 100 a0_cure 0 _ hw) dX9_causesAlone_31 gX9_causesAlone_X9_strengthOf rfl ddS_X9_strengthOf rfl (by decide) (by decide) rfl (Nat.le_of_ble_eq_true rfl) [] [0, 1] rfl (wr := [ob 5 q_a0 [.ref q_a0_glue, .ref q_a0_upper, .ref q_a0_under, .ref q_a0_work, .ref q_a0_wear, .ref q_a0_cells, .int a0_spots, .int a0_cure], aI E.I q_a0_cells 10 a0_cells]) rfl (by decide) (by decide) (by decide) (fun u hw => ?_)
    obtain ⟨r4, hu_⟩ : ∃ z, z = u := ⟨_, rfl⟩
    subst hu_
    try dsimp only at hw
    show G X E 6 [ob 5 q_a0 [.ref q_a0_glue, .ref q_a0_upper, .ref q_a0_under, .ref q_a0_work, .ref q_a0_wear, .ref q_a0_cells, .int a0_spots, .int a0_cure], aI E.I q_a0_cells 10 a0_cells] 0 0 34 [(0, .ref q_a0), (1, .int p1), (3, .int p3), (4, .int p4), (5, .int x5_2)] [.int r4]
    refine g_iload C0 dX9_causesAlone_34 3 rfl ?_
    refine wj1_go (P := fun (x5_5 : Int32) => G X E 6 [ob 5 q_a0 [.ref q_a0_glue, .ref q_a0_upper, .ref q_a0_under, .ref q_a0_work, .ref q_a0_wear, .ref q_a0_cells, .int a0_spots, .int a0_cure], aI E.I q_a0_cells 10 a0_cells] 0 0 45 [(0, .ref q_a0), (1, .int p1), (3, .int p3), (4, .int p4), (5, .int x5_5)] []) hw (fun x5_5 hw => ?_) (fun J6 hJ6 hw => ?_)
    · refine g_iload_n C0 dX9_causesAlone_45 1 rfl ?_
      refine g_bipush C0 (v := 100) dX9_causesAlone_46 (by decide) ?_
      refine g_sipush C0 (v := 1000) dX9_causesAlone_48 (by decide) ?_
      refine g_aload_n C0 dX9_causesAlone_51 0 rfl ?_
      refine g_callV C0 (q0 := 0) (ci := 5) (c_X5_greatestDamp l E q_a0 q_a0_glue q_a0_upper q_a0_under q_a0_work q_a0_wear q_a0_cells a0_spots a0_cure a0_cells _ hw) dX9_causesAlone_52 gX9_causesAlone_X5_greatestDamp rfl ddV_X5_greatestDamp rfl (by decide) (by decide) rfl (Nat.le_of_ble_eq_true rfl) [0, 1] [] rfl (wr := []) rfl (by decide) (by decide) (by decide) rfl rfl (fun u hw => ?_)
      obtain ⟨r7, hu_⟩ : ∃ z, z = u := ⟨_, rfl⟩
      subst hu_
      try dsimp only at hw
      show G X E 6 [ob 5 q_a0 [.ref q_a0_glue, .ref q_a0_upper, .ref q_a0_under, .ref q_a0_work, .ref q_a0_wear, .ref q_a0_cells, .int a0_spots, .int a0_cure], aI E.I q_a0_cells 10 a0_cells] 0 0 55 [(0, .ref q_a0), (1, .int p1), (3, .int p3), (4, .int p4), (5, .int x5_5)] [.int r7, .int 1000, .int 100, .int p1]
      refine g_callS C0 (c_X9_strengthOf l E p1 100 1000 r7 _ hw) dX9_causesAlone_55 gX9_causesAlone_X9_strengthOf rfl ddS_X9_strengthOf rfl (by decide) (by decide) rfl (Nat.le_of_ble_eq_true rfl) [] [0, 1] rfl (wr := [ob 5 q_a0 [.ref q_a0_glue, .ref q_a0_upper, .ref q_a0_under, .ref q_a0_work, .ref q_a0_wear, .ref q_a0_cells, .int a0_spots, .int a0_cure], aI E.I q_a0_cells 10 a0_cells]) rfl (by decide) (by decide) (by decide) (fun u hw => ?_)
      obtain ⟨r8, hu_⟩ : ∃ z, z = u := ⟨_, rfl⟩
      subst hu_
      try dsimp only at hw
      show G X E 6 [ob 5 q_a0 [.ref q_a0_glue, .ref q_a0_upper, .ref q_a0_under, .ref q_a0_work, .ref q_a0_wear, .ref q_a0_cells, .int a0_spots, .int a0_cure], aI E.I q_a0_cells 10 a0_cells] 0 0 58 [(0, .ref q_a0), (1, .int p1), (3, .int p3), (4, .int p4), (5, .int x5_5)] [.int r8]
      refine g_iload C0 dX9_causesAlone_58 3 rfl ?_
      refine wj1_go (P := fun (x5_9 : Int32) => G X E 6 [ob 5 q_a0 [.ref q_a0_glue, .ref q_a0_upper, .ref q_a0_under, .ref q_a0_work, .ref q_a0_wear, .ref q_a0_cells, .int a0_spots, .int a0_cure], aI E.I q_a0_cells 10 a0_cells] 0 0 69 [(1, .int p1), (3, .int p3), (4, .int p4), (5, .int x5_9)] []) hw (fun x5_9 hw => ?_) (fun J10 hJ10 hw => ?_)
      · refine g_iload_n C0 dX9_causesAlone_69 1 rfl ?_
        refine g_iload C0 dX9_causesAlone_70 2 rfl ?_
        refine g_icmp_le C0 (tgt := 96) dX9_causesAlone_72 (by decide) (fun c11 => ?_) (fun c11 => ?_)
        · replace hw := hw.1 c11
          refine g_iload C0 dX9_causesAlone_96 3 rfl ?_
          exact g_iret C0 R1 dX9_causesAlone_98 x5_9 rfl hw [0, 1] (by decide) rfl (by decide) (by decide)
        · replace hw := hw.2 c11
          refine g_iload_n C0 dX9_causesAlone_75 0 rfl ?_
          refine g_bipush C0 (v := 100) dX9_causesAlone_76 (by decide) ?_
          refine g_sipush C0 (v := 1000) dX9_causesAlone_78 (by decide) ?_
          refine g_iconst C0 (v := 0) dX9_causesAlone_81 (by decide) ?_
          refine g_callS C0 (c_X9_strengthOf l E p1 100 1000 0 _ hw) dX9_causesAlone_82 gX9_causesAlone_X9_strengthOf rfl ddS_X9_strengthOf rfl (by decide) (by decide) rfl (Nat.le_of_ble_eq_true rfl) [] [0, 1] rfl (wr := [ob 5 q_a0 [.ref q_a0_glue, .ref q_a0_upper, .ref q_a0_under, .ref q_a0_work, .ref q_a0_wear, .ref q_a0_cells, .int a0_spots, .int a0_cure], aI E.I q_a0_cells 10 a0_cells]) rfl (by decide) (by decide) (by decide) (fun u hw => ?_)
          obtain ⟨r12, hu_⟩ : ∃ z, z = u := ⟨_, rfl⟩
          subst hu_
          try dsimp only at hw
          show G X E 6 [ob 5 q_a0 [.ref q_a0_glue, .ref q_a0_upper, .ref q_a0_under, .ref q_a0_work, .ref q_a0_wear, .ref q_a0_cells, .int a0_spots, .int a0_cure], aI E.I q_a0_cells 10 a0_cells] 0 0 85 [(1, .int p1), (3, .int p3), (4, .int p4), (5, .int x5_9)] [.int r12]
          refine g_iload_n C0 dX9_causesAlone_85 1 rfl ?_
          refine g_icmp_ge C0 (tgt := 96) dX9_causesAlone_86 (by decide) (fun c13 => ?_) (fun c13 => ?_)
          · replace hw := hw.1 c13
            refine g_iload C0 dX9_causesAlone_96 3 rfl ?_
            exact g_iret C0 R1 dX9_causesAlone_98 x5_9 rfl hw [0, 1] (by decide) rfl (by decide) (by decide)
          · replace hw := hw.2 c13
            refine g_iload C0 dX9_causesAlone_89 3 rfl ?_
            refine g_bipush C0 (v := 8) dX9_causesAlone_91 (by decide) ?_
            refine g_ior C0 dX9_causesAlone_93 ?_
            refine g_topi (fun x5_14 ex5_14 => ?_)
            replace hw := hw x5_14 ex5_14
            refine g_istore C0 (lv2 := [(5, .int x5_14), (1, .int p1), (3, .int p3), (4, .int p4)]) dX9_causesAlone_94 (by decide) rfl ?_
            refine g_iload C0 dX9_causesAlone_96 0 rfl ?_
            exact g_iret C0 R1 dX9_causesAlone_98 x5_14 rfl hw [0, 1] (by decide) rfl (by decide) (by decide)
      · refine g_icmp_ge C0 (tgt := 69) dX9_causesAlone_60 (by decide) (fun c15 => ?_) (fun c15 => ?_)
        · replace hw := hw.1 c15
          refine g_lv [1, 2, 3, 4] (lv2 := [(1, .int p1), (3, .int p3), (4, .int p4), (5, .int x5_5)]) rfl ?_
          exact hJ10 _ hw
        · replace hw := hw.2 c15
          refine g_iload C0 dX9_causesAlone_63 4 rfl ?_
          refine g_iconst C0 (v := 4) dX9_causesAlone_65 (by decide) ?_
          refine g_ior C0 dX9_causesAlone_66 ?_
          refine g_topi (fun x5_16 ex5_16 => ?_)
          replace hw := hw x5_16 ex5_16
          refine g_istore C0 (lv2 := [(5, .int x5_16), (0, .ref q_a0), (1, .int p1), (3, .int p3), (4, .int p4)]) dX9_causesAlone_67 (by decide) rfl ?_
          refine g_lv [2, 3, 4, 0] (lv2 := [(1, .int p1), (3, .int p3), (4, .int p4), (5, .int x5_16)]) rfl ?_
          exact hJ10 _ hw
    · refine g_icmp_ge C0 (tgt := 45) dX9_causesAlone_36 (by decide) (fun c17 => ?_) (fun c17 => ?_)
      · replace hw := hw.1 c17
        exact hJ6 _ hw
      · replace hw := hw.2 c17
        refine g_iload C0 dX9_causesAlone_39 4 rfl ?_
        refine g_iconst C0 (v := 2) dX9_causesAlone_41 (by decide) ?_
        refine g_ior C0 dX9_causesAlone_42 ?_
        refine g_topi (fun x5_18 ex5_18 => ?_)
        replace hw := hw x5_18 ex5_18
        refine g_istore C0 (lv2 := [(5, .int x5_18), (0, .ref q_a0), (1, .int p1), (3, .int p3), (4, .int p4)]) dX9_causesAlone_43 (by decide) rfl ?_
        refine g_lv [1, 2, 3, 4, 0] (lv2 := [(0, .ref q_a0), (1, .int p1), (3, .int p3), (4, .int p4), (5, .int x5_18)]) rfl ?_
        exact hJ6 _ hw
  · refine g_icmp_ge C0 (tgt := 23) dX9_causesAlone_14 (by decide) (fun c19 => ?_) (fun c19 => ?_)
    · replace hw := hw.1 c19
      refine g_lv [1, 2, 4, 5, 0] (lv2 := [(0, .ref q_a0), (1, .int p1), (3, .int p3), (4, .int p4), (5, .int 0)]) rfl ?_
      exact hJ3 _ hw
    · replace hw := hw.2 c19
      refine g_iload C0 dX9_causesAlone_17 0 rfl ?_
      refine g_iconst C0 (v := 1) dX9_causesAlone_19 (by decide) ?_
      refine g_ior C0 dX9_causesAlone_20 ?_
      refine g_topi (fun x5_20 ex5_20 => ?_)
      replace hw := hw x5_20 ex5_20
      refine g_istore C0 (lv2 := [(5, .int x5_20), (0, .ref q_a0), (1, .int p1), (2, .int p2), (3, .int p3), (4, .int p4)]) dX9_causesAlone_21 (by decide) rfl ?_
      refine g_lv [1, 2, 4, 5, 0] (lv2 := [(0, .ref q_a0), (1, .int p1), (3, .int p3), (4, .int p4), (5, .int x5_20)]) rfl ?_
      exact hJ3 _ hw
def w_X9_led_S (q_LAP : Nat) (p0 : Int32) (p1 : Int32) (p2 : Int32) (p3 : Int32) (p4 : Int32) (p5 : Int32) (t_laps : Nat → Option Nat) (LAP_cure : Int32) (LAP_cells : Nat → Int32) (Q : Int32 → Prop) : Prop := w_X9_lapAt_S q_LAP p0 t_laps (w_X9_isLoad p1 (fun (r1 : Bool) => (r1 = false → Q (-2)) ∧ (r1 = true → w_X9_within p2 0 100 (fun (r3 : Bool) => (r3 = false → Q (-2)) ∧ (r3 = true → w_X9_isLoad p3 (fun (r5 : Bool) => (r5 = false → Q (-2)) ∧ (r5 = true → w_X9_isLoad p4 (fun (r7 : Bool) => (r7 = false → Q (-2)) ∧ (r7 = true → w_X9_within p5 0 1 (fun (r9 : Bool) => (r9 = true → (¬ p5 = 0 → w_X9_causesAlone p1 p2 p3 p4 LAP_cure LAP_cells (fun (r12 : Int32) => Q r12)) ∧ (p5 = 0 → w_X5_greatestDamp LAP_cells (fun (r13 : Int32) => w_X9_strengthOf p1 p2 LAP_cure r13 (fun (r14 : Int32) => Q r14)))) ∧ (r9 = false → Q (-2))))))))))))
theorem ddV_X9_led : yX9_led.cls = RX9 ∧ yX9_led.cls ≠ "java/lang/invoke/MethodHandle" ∧ yX9_led.cls ≠ "java/lang/invoke/VarHandle" ∧ (parseMethodDescriptor yX9_led.desc).map (fun d => d.parameters.length) = some 6 := by decide +kernel
set_option maxHeartbeats 4000000 in
set_option maxRecDepth 100000 in
theorem c_X9_led_S (l : Launch) (E : gE) (q_t q_LAP q_t_signs q_t_laps q_t_breaks q_t_fraction q_t_settings q_t_rates q_t_joints q_t_tested q_t_knocks q_t_choices q_LAP_glue q_LAP_upper q_LAP_under q_LAP_work q_LAP_wear q_LAP_cells : Nat) (p0 : Int32) (p1 : Int32) (p2 : Int32) (p3 : Int32) (p4 : Int32) (p5 : Int32) (t_laps : Nat → Option Nat) (LAP_spots : Int32) (LAP_cure : Int32) (LAP_cells : Nat → Int32) (Q : Int32 → Prop) (hw : w_X9_led_S q_LAP p0 p1 p2 p3 p4 p5 t_laps LAP_cure LAP_cells Q) : Ct l E yX9_led wsX9_led { frames := 3, cells := 0, slots := 0, locals := 68 } [.ref q_t, .int p0, .int p1, .int p2, .int p3, .int p4, .int p5] [ob 9 q_t [.ref q_t_signs, .ref q_t_laps, .ref q_t_breaks, .ref q_t_fraction, .ref q_t_settings, .ref q_t_rates, .ref q_t_joints, .ref q_t_tested, .ref q_t_knocks, .ref q_t_choices], aO E.O q_t_laps 6 t_laps, ob 5 q_LAP [.ref q_LAP_glue, .ref q_LAP_upper, .ref q_LAP_under, .ref q_LAP_work, .ref q_LAP_wear, .ref q_LAP_cells, .int LAP_spots, .int LAP_cure], aI E.I q_LAP_cells 10 LAP_cells] (S := Int32) (fun u => some (.int u)) (fun u => Q u) (fun u => [ob 9 q_t [.ref q_t_signs, .ref q_t_laps, .ref q_t_breaks, .ref q_t_fraction, .ref q_t_settings, .ref q_t_rates, .ref q_t_joints, .ref q_t_tested, .ref q_t_knocks, .ref q_t_choices], aO E.O q_t_laps 6 t_laps, ob 5 q_LAP [.ref q_LAP_glue, .ref q_LAP_upper, .ref q_LAP_under, .ref q_LAP_work, .ref q_LAP_wear, .ref q_LAP_cells, .int LAP_spots, .int LAP_cure], aI E.I q_LAP_cells 10 LAP_cells]) := by
  unfold w_X9_led_S at hw
  have hinX5 : ∀ w ∈ wsX50, w ∈ wsX9_led := fun _ h => List.mem_cons_of_mem _ (List.mem_append_left _ (List.mem_append_right _ h))
  refine g_start (cc := cX9_led) (nL := 8) (own := RX9) (ret := (some .int)) rfl (by decide) rfl (Nat.le_of_ble_eq_true rfl) (lv0 := [(0, .ref q_t), (1, .int p0), (2, .int p1), (3, .int p2), (4, .int p3), (5, .int p4), (6, .int p5)]) rfl (fun X C0 R1 => ?_)
  refine g_aload_n C0 dX9_led_0 0 rfl ?_
  refine g_iload_n C0 dX9_led_1 1 rfl ?_
  refine g_callV C0 (q0 := 0) (ci := 9) (c_X9_lapAt_S l E q_t q_LAP q_t_signs q_t_laps q_t_breaks q_t_fraction q_t_settings q_t_rates q_t_joints q_t_tested q_t_knocks q_t_choices p0 t_laps _ hw) dX9_led_2 gX9_led_X9_lapAt rfl ddV_X9_lapAt rfl (by decide) (by decide) rfl (Nat.le_of_ble_eq_true rfl) [0, 1] [2, 3] rfl (wr := [ob 5 q_LAP [.ref q_LAP_glue, .ref q_LAP_upper, .ref q_LAP_under, .ref q_LAP_work, .ref q_LAP_wear, .ref q_LAP_cells, .int LAP_spots, .int LAP_cure], aI E.I q_LAP_cells 10 LAP_cells]) rfl (by decide) (by decide) (by decide) rfl rfl (fun u hw => ?_)
  try dsimp only at hw
  show G X E 8 [ob 5 q_LAP [.ref q_LAP_glue, .ref q_LAP_upper, .ref q_LAP_under, .ref q_LAP_work, .ref q_LAP_wear, .ref q_LAP_cells, .int LAP_spots, .int LAP_cure], aI E.I q_LAP_cells 10 LAP_cells, ob 9 q_t [.ref q_t_signs, .ref q_t_laps, .ref q_t_breaks, .ref q_t_fraction, .ref q_t_settings, .ref q_t_rates, .ref q_t_joints, .ref q_t_tested, .ref q_t_knocks, .ref q_t_choices], aO E.O q_t_laps 6 t_laps] 0 0 5 [(0, .ref q_t), (1, .int p0), (2, .int p1), (3, .int p2), (4, .int p3), (5, .int p4), (6, .int p5)] [.ref q_LAP]
  refine g_astore C0 (lv2 := [(7, .ref q_LAP), (0, .ref q_t), (1, .int p0), (2, .int p1), (3, .int p2), (4, .int p3), (5, .int p4), (6, .int p5)]) dX9_led_5 (by decide) rfl ?_
  refine g_aload C0 dX9_led_7 0 rfl ?_
  refine g_ifnonnull C0 (tgt := 14) dX9_led_9 (by decide) ?_
  refine g_iload_n C0 dX9_led_14 3 rfl ?_
  refine g_callS C0 (c_X9_isLoad l E p1 _ hw) dX9_led_15 gX9_led_X9_isLoad rfl ddS_X9_isLoad rfl (by decide) (by decide) rfl (Nat.le_of_ble_eq_true rfl) [] [0, 1, 2, 3] rfl (wr := [ob 5 q_LAP [.ref q_LAP_glue, .ref q_LAP_upper, .ref q_LAP_under, .ref q_LAP_work, .ref q_LAP_wear, .ref q_LAP_cells, .int LAP_spots, .int LAP_cure], aI E.I q_LAP_cells 10 LAP_cells, ob 9 q_t [.ref q_t_signs, .ref q_t_laps, .ref q_t_breaks, .ref q_t_fraction, .ref q_t_settings, .ref q_t_rates, .ref q_t_joints, .ref q_t_tested, .ref q_t_knocks, .ref q_t_choices], aO E.O q_t_laps 6 t_laps]) rfl (by decide) (by decide) (by decide) (fun u hw => ?_)
  obtain ⟨r1, hu_⟩ : ∃ z, z = u := ⟨_, rfl⟩
  subst hu_
  try dsimp only at hw
  show G X E 8 [ob 5 q_LAP [.ref q_LAP_glue, .ref q_LAP_upper, .ref q_LAP_under, .ref q_LAP_work, .ref q_LAP_wear, .ref q_LAP_cells, .int LAP_spots, .int LAP_cure], aI E.I q_LAP_cells 10 LAP_cells, ob 9 q_t [.ref q_t_signs, .ref q_t_laps, .ref q_t_breaks, .ref q_t_fraction, .ref q_t_settings, .ref q_t_rates, .ref q_t_joints, .ref q_t_tested, .ref q_t_knocks, .ref q_t_choices], aO E.O q_t_laps 6 t_laps] 0 0 18 [(7, .ref q_LAP), (0, .ref q_t), (1, .int p0), (2, .int p1), (3, .int p2), (4, .int p3), (5, .int p4), (6, .int p5)] [.int (bI r1)]
  refine g_ifb_eq C0 (tgt := 57) dX9_led_18 (by decide) (fun c2 => ?_) (fun c2 => ?_)
  · replace hw := hw.1 c2
    refine g_bipush C0 (v := (-2)) dX9_led_57 (by decide) ?_
    exact g_iret C0 R1 dX9_led_59 (-2) rfl hw [2, 3, 0, 1] (by decide) rfl (by decide) (by decide)
  · replace hw := hw.2 c2
    refine g_iload_n C0 dX9_led_21 4 rfl ?_
    refine g_iconst C0 (v := 0) dX9_led_22 (by decide) ?_
    refine g_bipush C0 (v := 100) dX9_led_23 (by decide) ?_
    refine g_callS C0 (c_X9_within l E p2 0 100 _ hw) dX9_led_25 gX9_led_X9_within rfl ddS_X9_within rfl (by decide) (by decide) rfl (Nat.le_of_ble_eq_true rfl) [] [0, 1, 2, 3] rfl (wr := [ob 5 q_LAP [.ref q_LAP_glue, .ref q_LAP_upper, .ref q_LAP_under, .ref q_LAP_work, .ref q_LAP_wear, .ref q_LAP_cells, .int LAP_spots, .int LAP_cure], aI E.I q_LAP_cells 10 LAP_cells, ob 9 q_t [.ref q_t_signs, .ref q_t_laps, .ref q_t_breaks, .ref q_t_fraction, .ref q_t_settings, .ref q_t_rates, .ref q_t_joints, .ref q_t_tested, .ref q_t_knocks, .ref q_t_choices], aO E.O q_t_laps 6 t_laps]) rfl (by decide) (by decide) (by decide) (fun u hw => ?_)
    obtain ⟨r3, hu_⟩ : ∃ z, z = u := ⟨_, rfl⟩
    subst hu_
    try dsimp only at hw
    show G X E 8 [ob 5 q_LAP [.ref q_LAP_glue, .ref q_LAP_upper, .ref q_LAP_under, .ref q_LAP_work, .ref q_LAP_wear, .ref q_LAP_cells, .int LAP_spots, .int LAP_cure], aI E.I q_LAP_cells 10 LAP_cells, ob 9 q_t [.ref q_t_signs, .ref q_t_laps, .ref q_t_breaks, .ref q_t_fraction, .ref q_t_settings, .ref q_t_rates, .ref q_t_joints, .ref q_t_tested, .ref q_t_knocks, .ref q_t_choices], aO E.O q_t_laps 6 t_laps] 0 0 28 [(7, .ref q_LAP), (0, .ref q_t), (1, .int p0), (2, .int p1), (3, .int p2), (4, .int p3), (5, .int p4), (6, .int p5)] [.int (bI r3)]
    refine g_ifb_eq C0 (tgt := 57) dX9_led_28 (by decide) (fun c4 => ?_) (fun c4 => ?_)
    · replace hw := hw.1 c4
      refine g_bipush C0 (v := (-2)) dX9_led_57 (by decide) ?_
      exact g_iret C0 R1 dX9_led_59 (-2) rfl hw [2, 3, 0, 1] (by decide) rfl (by decide) (by decide)
    · replace hw := hw.2 c4
      refine g_iload C0 dX9_led_31 5 rfl ?_
      refine g_callS C0 (c_X9_isLoad l E p3 _ hw) dX9_led_33 gX9_led_X9_isLoad rfl ddS_X9_isLoad rfl (by decide) (by decide) rfl (Nat.le_of_ble_eq_true rfl) [] [0, 1, 2, 3] rfl (wr := [ob 5 q_LAP [.ref q_LAP_glue, .ref q_LAP_upper, .ref q_LAP_under, .ref q_LAP_work, .ref q_LAP_wear, .ref q_LAP_cells, .int LAP_spots, .int LAP_cure], aI E.I q_LAP_cells 10 LAP_cells, ob 9 q_t [.ref q_t_signs, .ref q_t_laps, .ref q_t_breaks, .ref q_t_fraction, .ref q_t_settings, .ref q_t_rates, .ref q_t_joints, .ref q_t_tested, .ref q_t_knocks, .ref q_t_choices], aO E.O q_t_laps 6 t_laps]) rfl (by decide) (by decide) (by decide) (fun u hw => ?_)
      obtain ⟨r5, hu_⟩ : ∃ z, z = u := ⟨_, rfl⟩
      subst hu_
      try dsimp only at hw
      show G X E 8 [ob 5 q_LAP [.ref q_LAP_glue, .ref q_LAP_upper, .ref q_LAP_under, .ref q_LAP_work, .ref q_LAP_wear, .ref q_LAP_cells, .int LAP_spots, .int LAP_cure], aI E.I q_LAP_cells 10 LAP_cells, ob 9 q_t [.ref q_t_signs, .ref q_t_laps, .ref q_t_breaks, .ref q_t_fraction, .ref q_t_settings, .ref q_t_rates, .ref q_t_joints, .ref q_t_tested, .ref q_t_knocks, .ref q_t_choices], aO E.O q_t_laps 6 t_laps] 0 0 36 [(7, .ref q_LAP), (0, .ref q_t), (1, .int p0), (2, .int p1), (3, .int p2), (4, .int p3), (5, .int p4), (6, .int p5)] [.int (bI r5)]
      refine g_ifb_eq C0 (tgt := 57) dX9_led_36 (by decide) (fun c6 => ?_) (fun c6 => ?_)
      · replace hw := hw.1 c6
        refine g_bipush C0 (v := (-2)) dX9_led_57 (by decide) ?_
        exact g_iret C0 R1 dX9_led_59 (-2) rfl hw [2, 3, 0, 1] (by decide) rfl (by decide) (by decide)
      · replace hw := hw.2 c6
        refine g_iload C0 dX9_led_39 6 rfl ?_
        refine g_callS C0 (c_X9_isLoad l E p4 _ hw) dX9_led_41 gX9_led_X9_isLoad rfl ddS_X9_isLoad rfl (by decide) (by decide) rfl (Nat.le_of_ble_eq_true rfl) [] [0, 1, 2, 3] rfl (wr := [ob 5 q_LAP [.ref q_LAP_glue, .ref q_LAP_upper, .ref q_LAP_under, .ref q_LAP_work, .ref q_LAP_wear, .ref q_LAP_cells, .int LAP_spots, .int LAP_cure], aI E.I q_LAP_cells 10 LAP_cells, ob 9 q_t [.ref q_t_signs, .ref q_t_laps, .ref q_t_breaks, .ref q_t_fraction, .ref q_t_settings, .ref q_t_rates, .ref q_t_joints, .ref q_t_tested, .ref q_t_knocks, .ref q_t_choices], aO E.O q_t_laps 6 t_laps]) rfl (by decide) (by decide) (by decide) (fun u hw => ?_)
        obtain ⟨r7, hu_⟩ : ∃ z, z = u := ⟨_, rfl⟩
        subst hu_
        try dsimp only at hw
        show G X E 8 [ob 5 q_LAP [.ref q_LAP_glue, .ref q_LAP_upper, .ref q_LAP_under, .ref q_LAP_work, .ref q_LAP_wear, .ref q_LAP_cells, .int LAP_spots, .int LAP_cure], aI E.I q_LAP_cells 10 LAP_cells, ob 9 q_t [.ref q_t_signs, .ref q_t_laps, .ref q_t_breaks, .ref q_t_fraction, .ref q_t_settings, .ref q_t_rates, .ref q_t_joints, .ref q_t_tested, .ref q_t_knocks, .ref q_t_choices], aO E.O q_t_laps 6 t_laps] 0 0 44 [(7, .ref q_LAP), (0, .ref q_t), (1, .int p0), (2, .int p1), (3, .int p2), (4, .int p3), (5, .int p4), (6, .int p5)] [.int (bI r7)]
        refine g_ifb_eq C0 (tgt := 57) dX9_led_44 (by decide) (fun c8 => ?_) (fun c8 => ?_)
        · replace hw := hw.1 c8
          refine g_bipush C0 (v := (-2)) dX9_led_57 (by decide) ?_
          exact g_iret C0 R1 dX9_led_59 (-2) rfl hw [2, 3, 0, 1] (by decide) rfl (by decide) (by decide)
        · replace hw := hw.2 c8
          refine g_iload C0 dX9_led_47 7 rfl ?_
          refine g_iconst C0 (v := 0) dX9_led_49 (by decide) ?_
          refine g_iconst C0 (v := 1) dX9_led_50 (by decide) ?_
          refine g_callS C0 (c_X9_within l E p5 0 1 _ hw) dX9_led_51 gX9_led_X9_within rfl ddS_X9_within rfl (by decide) (by decide) rfl (Nat.le_of_ble_eq_true rfl) [] [0, 1, 2, 3] rfl (wr := [ob 5 q_LAP [.ref q_LAP_glue, .ref q_LAP_upper, .ref q_LAP_under, .ref q_LAP_work, .ref q_LAP_wear, .ref q_LAP_cells, .int LAP_spots, .int LAP_cure], aI E.I q_LAP_cells 10 LAP_cells, ob 9 q_t [.ref q_t_signs, .ref q_t_laps, .ref q_t_breaks, .ref q_t_fraction, .ref q_t_settings, .ref q_t_rates, .ref q_t_joints, .ref q_t_tested, .ref q_t_knocks, .ref q_t_choices], aO E.O q_t_laps 6 t_laps]) rfl (by decide) (by decide) (by decide) (fun u hw => ?_)
          obtain ⟨r9, hu_⟩ : ∃ z, z = u := ⟨_, rfl⟩
          subst hu_
          try dsimp only at hw
          show G X E 8 [ob 5 q_LAP [.ref q_LAP_glue, .ref q_LAP_upper, .ref q_LAP_under, .ref q_LAP_work, .ref q_LAP_wear, .ref q_LAP_cells, .int LAP_spots, .int LAP_cure], aI E.I q_LAP_cells 10 LAP_cells, ob 9 q_t [.ref q_t_signs, .ref q_t_laps, .ref q_t_breaks, .ref q_t_fraction, .ref q_t_settings, .ref q_t_rates, .ref q_t_joints, .ref q_t_tested, .ref q_t_knocks, .ref q_t_choices], aO E.O q_t_laps 6 t_laps] 0 0 54 [(7, .ref q_LAP), (0, .ref q_t), (1, .int p0), (2, .int p1), (3, .int p2), (4, .int p3), (5, .int p4), (6, .int p5)] [.int (bI r9)]
          refine g_ifb_ne C0 (tgt := 60) dX9_led_54 (by decide) (fun c10 => ?_) (fun c10 => ?_)
          · replace hw := hw.1 c10
            refine g_iload C0 dX9_led_60 7 rfl ?_
            refine g_if_ne C0 (tgt := 81) dX9_led_62 (by decide) (fun c11 => ?_) (fun c11 => ?_)
            · replace hw := hw.1 c11
              refine g_aload C0 dX9_led_81 0 rfl ?_
              refine g_iload_n C0 dX9_led_83 3 rfl ?_
              refine g_iload_n C0 dX9_led_84 4 rfl ?_
              refine g_iload C0 dX9_led_85 5 rfl ?_
              refine g_iload C0 dX9_led_87 6 rfl ?_
              refine g_callS C0 (c_X9_causesAlone l E q_LAP q_LAP_glue q_LAP_upper q_LAP_under q_LAP_work q_LAP_wear q_LAP_cells p1 p2 p3 p4 LAP_spots LAP_cure LAP_cells _ hw) dX9_led_89 gX9_led_X9_causesAlone rfl ddS_X9_causesAlone rfl (by decide) (by decide) rfl (Nat.le_of_ble_eq_true rfl) [0, 1] [2, 3] rfl (wr := [ob 9 q_t [.ref q_t_signs, .ref q_t_laps, .ref q_t_breaks, .ref q_t_fraction, .ref q_t_settings, .ref q_t_rates, .ref q_t_joints, .ref q_t_tested, .ref q_t_knocks, .ref q_t_choices], aO E.O q_t_laps 6 t_laps]) rfl (by decide) (by decide) (by decide) (fun u hw => ?_)
              obtain ⟨r12, hu_⟩ : ∃ z, z = u := ⟨_, rfl⟩
              subst hu_
              try dsimp only at hw
              show G X E 8 [ob 9 q_t [.ref q_t_signs, .ref q_t_laps, .ref q_t_breaks, .ref q_t_fraction, .ref q_t_settings, .ref q_t_rates, .ref q_t_joints, .ref q_t_tested, .ref q_t_knocks, .ref q_t_choices], aO E.O q_t_laps 6 t_laps, ob 5 q_LAP [.ref q_LAP_glue, .ref q_LAP_upper, .ref q_LAP_under, .ref q_LAP_work, .ref q_LAP_wear, .ref q_LAP_cells, .int LAP_spots, .int LAP_cure], aI E.I q_LAP_cells 10 LAP_cells] 0 0 92 [(7, .ref q_LAP), (0, .ref q_t), (1, .int p0), (2, .int p1), (3, .int p2), (4, .int p3), (5, .int p4), (6, .int p5)] [.int r12]
              exact g_iret C0 R1 dX9_led_92 r12 rfl hw [0, 1, 2, 3] (by decide) rfl (by decide) (by decide)
            · replace hw := hw.2 c11
              refine g_iload_n C0 dX9_led_65 3 rfl ?_
              refine g_iload_n C0 dX9_led_66 4 rfl ?_
              refine g_aload C0 dX9_led_67 0 rfl ?_
              refine g_get C0 dX9_led_69 0 rfl 7 rfl rfl hinX5 (by decide) (List.mem_of_getElem? (i := 1) rfl) rfl ?_
              refine g_aload C0 dX9_led_72 0 rfl ?_
              refine g_callV C0 (q0 := 0) (ci := 5) (c_X5_greatestDamp l E q_LAP q_LAP_glue q_LAP_upper q_LAP_under q_LAP_work q_LAP_wear q_LAP_cells LAP_spots LAP_cure LAP_cells _ hw) dX9_led_74 gX9_led_X5_greatestDamp rfl ddV_X5_greatestDamp rfl (by decide) (by decide) rfl (Nat.le_of_ble_eq_true rfl) [0, 1] [2, 3] rfl (wr := [ob 9 q_t [.ref q_t_signs, .ref q_t_laps, .ref q_t_breaks, .ref q_t_fraction, .ref q_t_settings, .ref q_t_rates, .ref q_t_joints, .ref q_t_tested, .ref q_t_knocks, .ref q_t_choices], aO E.O q_t_laps 6 t_laps]) rfl (by decide) (by decide) (by decide) rfl rfl (fun u hw => ?_)
              obtain ⟨r13, hu_⟩ : ∃ z, z = u := ⟨_, rfl⟩
              subst hu_
              try dsimp only at hw
              show G X E 8 [ob 9 q_t [.ref q_t_signs, .ref q_t_laps, .ref q_t_breaks, .ref q_t_fraction, .ref q_t_settings, .ref q_t_rates, .ref q_t_joints, .ref q_t_tested, .ref q_t_knocks, .ref q_t_choices], aO E.O q_t_laps 6 t_laps, ob 5 q_LAP [.ref q_LAP_glue, .ref q_LAP_upper, .ref q_LAP_under, .ref q_LAP_work, .ref q_LAP_wear, .ref q_LAP_cells, .int LAP_spots, .int LAP_cure], aI E.I q_LAP_cells 10 LAP_cells] 0 0 77 [(7, .ref q_LAP), (0, .ref q_t), (1, .int p0), (2, .int p1), (3, .int p2), (4, .int p3), (5, .int p4), (6, .int p5)] [.int r13, .int LAP_cure, .int p2, .int p1]
              refine g_callS C0 (c_X9_strengthOf l E p1 p2 LAP_cure r13 _ hw) dX9_led_77 gX9_led_X9_strengthOf rfl ddS_X9_strengthOf rfl (by decide) (by decide) rfl (Nat.le_of_ble_eq_true rfl) [] [0, 1, 2, 3] rfl (wr := [ob 9 q_t [.ref q_t_signs, .ref q_t_laps, .ref q_t_breaks, .ref q_t_fraction, .ref q_t_settings, .ref q_t_rates, .ref q_t_joints, .ref q_t_tested, .ref q_t_knocks, .ref q_t_choices], aO E.O q_t_laps 6 t_laps, ob 5 q_LAP [.ref q_LAP_glue, .ref q_LAP_upper, .ref q_LAP_under, .ref q_LAP_work, .ref q_LAP_wear, .ref q_LAP_cells, .int LAP_spots, .int LAP_cure], aI E.I q_LAP_cells 10 LAP_cells]) rfl (by decide) (by decide) (by decide) (fun u hw => ?_)
              obtain ⟨r14, hu_⟩ : ∃ z, z = u := ⟨_, rfl⟩
              subst hu_
              try dsimp only at hw
              show G X E 8 [ob 9 q_t [.ref q_t_signs, .ref q_t_laps, .ref q_t_breaks, .ref q_t_fraction, .ref q_t_settings, .ref q_t_rates, .ref q_t_joints, .ref q_t_tested, .ref q_t_knocks, .ref q_t_choices], aO E.O q_t_laps 6 t_laps, ob 5 q_LAP [.ref q_LAP_glue, .ref q_LAP_upper, .ref q_LAP_under, .ref q_LAP_work, .ref q_LAP_wear, .ref q_LAP_cells, .int LAP_spots, .int LAP_cure], aI E.I q_LAP_cells 10 LAP_cells] 0 0 80 [(7, .ref q_LAP), (0, .ref q_t), (1, .int p0), (2, .int p1), (3, .int p2), (4, .int p3), (5, .int p4), (6, .int p5)] [.int r14]
              exact g_iret C0 R1 dX9_led_80 r14 rfl hw [0, 1, 2, 3] (by decide) rfl (by decide) (by decide)
          · replace hw := hw.2 c10
            refine g_bipush C0 (v := (-2)) dX9_led_57 (by decide) ?_
            exact g_iret C0 R1 dX9_led_59 (-2) rfl hw [2, 3, 0, 1] (by decide) rfl (by decide) (by decide)
def w_X9_led_N (p0 : Int32) (p1 : Int32) (p2 : Int32) (p3 : Int32) (p4 : Int32) (p5 : Int32) (t_laps : Nat → Option Nat) (Q : Int32 → Prop) : Prop := w_X9_lapAt_N p0 t_laps (Q (-1))
set_option maxHeartbeats 4000000 in
set_option maxRecDepth 100000 in
theorem c_X9_led_N (l : Launch) (E : gE) (q_t q_t_signs q_t_laps q_t_breaks q_t_fraction q_t_settings q_t_rates q_t_joints q_t_tested q_t_knocks q_t_choices : Nat) (p0 : Int32) (p1 : Int32) (p2 : Int32) (p3 : Int32) (p4 : Int32) (p5 : Int32) (t_laps : Nat → Option Nat) (Q : Int32 → Prop) (hw : w_X9_led_N p0 p1 p2 p3 p4 p5 t_laps Q) : Ct l E yX9_led wsX9_led { frames := 2, cells := 0, slots := 0, locals := 43 } [.ref q_t, .int p0, .int p1, .int p2, .int p3, .int p4, .int p5] [ob 9 q_t [.ref q_t_signs, .ref q_t_laps, .ref q_t_breaks, .ref q_t_fraction, .ref q_t_settings, .ref q_t_rates, .ref q_t_joints, .ref q_t_tested, .ref q_t_knocks, .ref q_t_choices], aO E.O q_t_laps 6 t_laps] (S := Int32) (fun u => some (.int u)) (fun u => Q u) (fun u => [ob 9 q_t [.ref q_t_signs, .ref q_t_laps, .ref q_t_breaks, .ref q_t_fraction, .ref q_t_settings, .ref q_t_rates, .ref q_t_joints, .ref q_t_tested, .ref q_t_knocks, .ref q_t_choices], aO E.O q_t_laps 6 t_laps]) := by
  unfold w_X9_led_N at hw
  refine g_start (cc := cX9_led) (nL := 8) (own := RX9) (ret := (some .int)) rfl (by decide) rfl (Nat.le_of_ble_eq_true rfl) (lv0 := [(0, .ref q_t), (1, .int p0), (2, .int p1), (3, .int p2), (4, .int p3), (5, .int p4), (6, .int p5)]) rfl (fun X C0 R1 => ?_)
  refine g_aload_n C0 dX9_led_0 0 rfl ?_
  refine g_iload_n C0 dX9_led_1 1 rfl ?_
  refine g_callV C0 (q0 := 0) (ci := 9) (c_X9_lapAt_N l E q_t q_t_signs q_t_laps q_t_breaks q_t_fraction q_t_settings q_t_rates q_t_joints q_t_tested q_t_knocks q_t_choices p0 t_laps _ hw) dX9_led_2 gX9_led_X9_lapAt rfl ddV_X9_lapAt rfl (by decide) (by decide) rfl (Nat.le_of_ble_eq_true rfl) [0, 1] [] rfl (wr := []) rfl (by decide) (by decide) (by decide) rfl rfl (fun u hw => ?_)
  try dsimp only at hw
  show G X E 8 [ob 9 q_t [.ref q_t_signs, .ref q_t_laps, .ref q_t_breaks, .ref q_t_fraction, .ref q_t_settings, .ref q_t_rates, .ref q_t_joints, .ref q_t_tested, .ref q_t_knocks, .ref q_t_choices], aO E.O q_t_laps 6 t_laps] 0 0 5 [(0, .ref q_t), (1, .int p0), (2, .int p1), (3, .int p2), (4, .int p3), (5, .int p4), (6, .int p5)] [.null]
  refine g_astoreN C0 (lv2 := [(7, .null), (0, .ref q_t), (1, .int p0), (2, .int p1), (3, .int p2), (4, .int p3), (5, .int p4), (6, .int p5)]) dX9_led_5 (by decide) rfl ?_
  refine g_aloadN C0 dX9_led_7 0 rfl ?_
  refine g_ifnonnullN C0 dX9_led_9 ?_
  refine g_iconst C0 (v := (-1)) dX9_led_12 (by decide) ?_
  exact g_iret C0 R1 dX9_led_13 (-1) rfl hw [0, 1] (by decide) rfl (by decide) (by decide)
def w_X9_lapBits (t_laps : Nat → Option Nat) (Q : Int32 → Prop) : Prop := ∃ n11 : Nat, wL2 (fun (K3 : Int32 → Int32 → Prop) (x1_1 : Int32) (x2_2 : Int32) => (6 ≤ x2_2 → Q x1_1) ∧ (¬ 6 ≤ x2_2 → vp_in x2_2 6 ∧ (wj1 (fun (J7 : Int32 → Prop) => ((t_laps (Int32.toNatClampNeg x2_2)) = none → J7 x1_1) ∧ (¬ (t_laps (Int32.toNatClampNeg x2_2)) = none → ∀ x1_10 : Int32, x1_10 = (x1_1 ||| (1 <<< (x2_2 &&& 31))) → (J7 x1_10))) (fun (x1_6 : Int32) => ∀ x2_8 : Int32, x2_8 = (x2_2 + 1) → (K3 x1_6 x2_8))))) n11 0 0
theorem ddV_X9_lapBits : yX9_lapBits.cls = RX9 ∧ yX9_lapBits.cls ≠ "java/lang/invoke/MethodHandle" ∧ yX9_lapBits.cls ≠ "java/lang/invoke/VarHandle" ∧ (parseMethodDescriptor yX9_lapBits.desc).map (fun d => d.parameters.length) = some 0 := by decide +kernel
set_option maxHeartbeats 4000000 in
set_option maxRecDepth 100000 in
theorem c_X9_lapBits (l : Launch) (E : gE) (q_t q_t_signs q_t_laps q_t_breaks q_t_fraction q_t_settings q_t_rates q_t_joints q_t_tested q_t_knocks q_t_choices : Nat) (t_laps : Nat → Option Nat) (Q : Int32 → Prop) (hw : w_X9_lapBits t_laps Q) : Ct l E yX9_lapBits wsX9_lapBits { frames := 0, cells := 0, slots := 0, locals := 0 } [.ref q_t] [ob 9 q_t [.ref q_t_signs, .ref q_t_laps, .ref q_t_breaks, .ref q_t_fraction, .ref q_t_settings, .ref q_t_rates, .ref q_t_joints, .ref q_t_tested, .ref q_t_knocks, .ref q_t_choices], aO E.O q_t_laps 6 t_laps] (S := Int32) (fun u => some (.int u)) (fun u => Q u) (fun u => [ob 9 q_t [.ref q_t_signs, .ref q_t_laps, .ref q_t_breaks, .ref q_t_fraction, .ref q_t_settings, .ref q_t_rates, .ref q_t_joints, .ref q_t_tested, .ref q_t_knocks, .ref q_t_choices], aO E.O q_t_laps 6 t_laps]) := by
  unfold w_X9_lapBits at hw
  have hinX9 : ∀ w ∈ wsX90, w ∈ wsX9_lapBits := fun _ h => List.mem_cons_of_mem _ (List.mem_append_right _ h)
  refine g_start (cc := cX9_lapBits) (nL := 3) (own := RX9) (ret := (some .int)) rfl (by decide) rfl (Nat.le_of_ble_eq_true rfl) (lv0 := [(0, .ref q_t)]) rfl (fun X C0 R1 => ?_)
  refine g_iconst C0 (v := 0) dX9_lapBits_0 (by decide) ?_
  refine g_istore_n C0 (lv2 := [(1, .int 0), (0, .ref q_t)]) dX9_lapBits_1 (by decide) rfl ?_
  refine g_iconst C0 (v := 0) dX9_lapBits_2 (by decide) ?_
  refine g_istore_n C0 (lv2 := [(2, .int 0), (1, .int 0), (0, .ref q_t)]) dX9_lapBits_3 (by decide) rfl ?_
  refine g_lv [2, 1, 0] (lv2 := [(0, .ref q_t), (1, .int 0), (2, .int 0)]) rfl ?_
  obtain ⟨n11, hw⟩ := hw
  refine wL2_go (P := fun (x1_1 : Int32) (x2_2 : Int32) => G X E 3 [ob 9 q_t [.ref q_t_signs, .ref q_t_laps, .ref q_t_breaks, .ref q_t_fraction, .ref q_t_settings, .ref q_t_rates, .ref q_t_joints, .ref q_t_tested, .ref q_t_knocks, .ref q_t_choices], aO E.O q_t_laps 6 t_laps] 0 0 4 [(0, .ref q_t), (1, .int x1_1), (2, .int x2_2)] []) (fun K3 hK3 x1_1 x2_2 hw => ?_) n11 _ _ hw
  refine g_iload_n C0 dX9_lapBits_4 2 rfl ?_
  refine g_bipush C0 (v := 6) dX9_lapBits_5 (by decide) ?_
  refine g_icmp_ge C0 (tgt := 31) dX9_lapBits_7 (by decide) (fun c4 => ?_) (fun c4 => ?_)
  · replace hw := hw.1 c4
    refine g_iload_n C0 dX9_lapBits_31 1 rfl ?_
    exact g_iret C0 R1 dX9_lapBits_32 x1_1 rfl hw [0, 1] (by decide) rfl (by decide) (by decide)
  · replace hw := hw.2 c4
    refine g_aload_n C0 dX9_lapBits_10 0 rfl ?_
    refine g_get C0 dX9_lapBits_11 0 rfl 1 rfl rfl hinX9 (by decide) (List.mem_of_getElem? (i := 1) rfl) rfl ?_
    refine g_iload_n C0 dX9_lapBits_14 2 rfl ?_
    obtain ⟨h5, hw⟩ := hw
    refine g_aald C0 (v := va_rf (t_laps (Int32.toNatClampNeg x2_2))) dX9_lapBits_15 1 rfl h5 rfl ?_
    refine wj1_go (P := fun (x1_6 : Int32) => G X E 3 [ob 9 q_t [.ref q_t_signs, .ref q_t_laps, .ref q_t_breaks, .ref q_t_fraction, .ref q_t_settings, .ref q_t_rates, .ref q_t_joints, .ref q_t_tested, .ref q_t_knocks, .ref q_t_choices], aO E.O q_t_laps 6 t_laps] 0 0 25 [(0, .ref q_t), (1, .int x1_6), (2, .int x2_2)] []) hw (fun x1_6 hw => ?_) (fun J7 hJ7 hw => ?_)
    · obtain ⟨x2_8, ex2_8⟩ : ∃ y : Int32, y = x2_2 + 1 := ⟨_, rfl⟩
      replace hw := hw x2_8 ex2_8
      refine g_iinc C0 (v := x2_8) (lv2 := [(2, .int x2_8), (0, .ref q_t), (1, .int x1_6)]) dX9_lapBits_25 2 rfl (by rw [ex2_8]; rfl) (by decide) rfl ?_
      refine g_goto C0 (tgt := 4) dX9_lapBits_28 (by decide) ?_
      refine g_lv [1, 2, 0] (lv2 := [(0, .ref q_t), (1, .int x1_6), (2, .int x2_8)]) rfl ?_
      exact hK3 _ _ hw
    · refine g_ifnullQ C0 (tgt := 25) dX9_lapBits_16 (by decide) (fun c9 => ?_) (fun c9 => ?_)
      · replace hw := hw.1 c9
        exact hJ7 _ hw
      · replace hw := hw.2 c9
        refine g_iload_n C0 dX9_lapBits_19 1 rfl ?_
        refine g_iconst C0 (v := 1) dX9_lapBits_20 (by decide) ?_
        refine g_iload_n C0 dX9_lapBits_21 2 rfl ?_
        refine g_ishl C0 dX9_lapBits_22 ?_
        refine g_ior C0 dX9_lapBits_23 ?_
        refine g_topi (fun x1_10 ex1_10 => ?_)
        replace hw := hw x1_10 ex1_10
        refine g_istore_n C0 (lv2 := [(1, .int x1_10), (0, .ref q_t), (2, .int x2_2)]) dX9_lapBits_24 (by decide) rfl ?_
        refine g_lv [1, 0, 2] (lv2 := [(0, .ref q_t), (1, .int x1_10), (2, .int x2_2)]) rfl ?_
        exact hJ7 _ hw
def w_X9_told (p0 : Int32) (t_settings : Nat → Int32) (t_signs_count : Int32) (t_laps : Nat → Option Nat) (t_tested_count : Int32) (t_choices_count : Int32) (t_joints_hours : Nat → Int32) (Q : Int32 → Prop) : Prop := w_X9_within p0 10 ((10 + 8) - 1) (fun (r1 : Bool) => (r1 = false → (p0 = 0 → w_X7_count t_signs_count (fun (r4 : Int32) => Q r4)) ∧ (¬ p0 = 0 → (p0 = 1 → w_X9_lapBits t_laps (fun (r5 : Int32) => Q r5)) ∧ (¬ p0 = 1 → (p0 = 2 → w_X8_count t_tested_count (fun (r6 : Int32) => Q r6)) ∧ (¬ p0 = 2 → (p0 = 3 → w_X1_count t_choices_count (fun (r7 : Int32) => Q r7)) ∧ (¬ p0 = 3 → (p0 = 4 → w_X3_bits t_joints_hours (fun (r8 : Int32) => Q r8)) ∧ (¬ p0 = 4 → Q (-2))))))) ∧ (r1 = true → vp_in (p0 - 10) 8 ∧ (Q (t_settings (Int32.toNatClampNeg (p0 - 10))))))
theorem ddV_X9_told : yX9_told.cls = RX9 ∧ yX9_told.cls ≠ "java/lang/invoke/MethodHandle" ∧ yX9_told.cls ≠ "java/lang/invoke/VarHandle" ∧ (parseMethodDescriptor yX9_told.desc).map (fun d => d.parameters.length) = some 1 := by decide +kernel
set_option maxHeartbeats 4000000 in
set_option maxRecDepth 100000 in
theorem c_X9_told (l : Launch) (E : gE) (q_t q_t_signs q_t_laps q_t_breaks q_t_fraction q_t_settings q_t_rates q_t_joints q_t_tested q_t_knocks q_t_choices q_t_signs_row q_t_tested_strength q_t_tested_barred q_t_tested_weights q_t_choices_kinds q_t_choices_prices q_t_choices_holding q_t_choices_showing q_t_joints_hours q_t_joints_needs q_t_joints_freeAt q_t_joints_order q_t_joints_starts q_t_joints_bestOrder q_t_joints_bestStarts : Nat) (p0 : Int32) (t_settings : Nat → Int32) (t_signs_count : Int32) (t_laps : Nat → Option Nat) (t_tested_count : Int32) (t_choices_count : Int32) (t_joints_bestEnd : Int32) (t_joints_clamps : Int32) (t_joints_there : Int32) (t_joints_solvedClamps : Int32) (t_joints_hours : Nat → Int32) (Q : Int32 → Prop) (hw : w_X9_told p0 t_settings t_signs_count t_laps t_tested_count t_choices_count t_joints_hours Q) : Ct l E yX9_told wsX9_told { frames := 3, cells := 0, slots := 0, locals := 65 } [.ref q_t, .int p0] [ob 9 q_t [.ref q_t_signs, .ref q_t_laps, .ref q_t_breaks, .ref q_t_fraction, .ref q_t_settings, .ref q_t_rates, .ref q_t_joints, .ref q_t_tested, .ref q_t_knocks, .ref q_t_choices], aI E.I q_t_settings 8 t_settings, ob 7 q_t_signs [.ref q_t_signs_row, .int t_signs_count], aO E.O q_t_laps 6 t_laps, ob 8 q_t_tested [.ref q_t_tested_strength, .ref q_t_tested_barred, .ref q_t_tested_weights, .int t_tested_count], ob 1 q_t_choices [.ref q_t_choices_kinds, .ref q_t_choices_prices, .ref q_t_choices_holding, .ref q_t_choices_showing, .int t_choices_count], ob 3 q_t_joints [.ref q_t_joints_hours, .ref q_t_joints_needs, .ref q_t_joints_freeAt, .ref q_t_joints_order, .ref q_t_joints_starts, .ref q_t_joints_bestOrder, .ref q_t_joints_bestStarts, .int t_joints_bestEnd, .int t_joints_clamps, .int t_joints_there, .int t_joints_solvedClamps], aI E.I q_t_joints_hours 7 t_joints_hours] (S := Int32) (fun u => some (.int u)) (fun u => Q u) (fun u => [ob 9 q_t [.ref q_t_signs, .ref q_t_laps, .ref q_t_breaks, .ref q_t_fraction, .ref q_t_settings, .ref q_t_rates, .ref q_t_joints, .ref q_t_tested, .ref q_t_knocks, .ref q_t_choices], aI E.I q_t_settings 8 t_settings, ob 7 q_t_signs [.ref q_t_signs_row, .int t_signs_count], aO E.O q_t_laps 6 t_laps, ob 8 q_t_tested [.ref q_t_tested_strength, .ref q_t_tested_barred, .ref q_t_tested_weights, .int t_tested_count], ob 1 q_t_choices [.ref q_t_choices_kinds, .ref q_t_choices_prices, .ref q_t_choices_holding, .ref q_t_choices_showing, .int t_choices_count], ob 3 q_t_joints [.ref q_t_joints_hours, .ref q_t_joints_needs, .ref q_t_joints_freeAt, .ref q_t_joints_order, .ref q_t_joints_starts, .ref q_t_joints_bestOrder, .ref q_t_joints_bestStarts, .int t_joints_bestEnd, .int t_joints_clamps, .int t_joints_there, .int t_joints_solvedClamps], aI E.I q_t_joints_hours 7 t_joints_hours]) := by
  unfold w_X9_told at hw
  have hinX9 : ∀ w ∈ wsX90, w ∈ wsX9_told := fun _ h => List.mem_cons_of_mem _ (List.mem_append_left _ (List.mem_append_left _ (List.mem_append_left _ (List.mem_append_left _ (List.mem_append_right _ h)))))
  refine g_start (cc := cX9_told) (nL := 2) (own := RX9) (ret := (some .int)) rfl (by decide) rfl (Nat.le_of_ble_eq_true rfl) (lv0 := [(0, .ref q_t), (1, .int p0)]) rfl (fun X C0 R1 => ?_)
  refine g_iload_n C0 dX9_told_0 1 rfl ?_
  refine g_bipush C0 (v := 10) dX9_told_1 (by decide) ?_
  refine g_bipush C0 (v := 10) dX9_told_3 (by decide) ?_
  refine g_aload_n C0 dX9_told_5 0 rfl ?_
  refine g_get C0 dX9_told_6 0 rfl 4 rfl rfl hinX9 (by decide) (List.mem_of_getElem? (i := 1) rfl) rfl ?_
  refine g_alen C0 (v := 8) dX9_told_9 1 0 rfl rfl rfl ?_
  refine g_iadd C0 dX9_told_10 ?_
  refine g_iconst C0 (v := 1) dX9_told_11 (by decide) ?_
  refine g_isub C0 dX9_told_12 ?_
  refine g_callS C0 (c_X9_within l E p0 10 ((10 + 8) - 1) _ hw) dX9_told_13 gX9_told_X9_within rfl ddS_X9_within rfl (by decide) (by decide) rfl (Nat.le_of_ble_eq_true rfl) [] [0, 1, 2, 3, 4, 5, 6, 7] rfl (wr := [ob 9 q_t [.ref q_t_signs, .ref q_t_laps, .ref q_t_breaks, .ref q_t_fraction, .ref q_t_settings, .ref q_t_rates, .ref q_t_joints, .ref q_t_tested, .ref q_t_knocks, .ref q_t_choices], aI E.I q_t_settings 8 t_settings, ob 7 q_t_signs [.ref q_t_signs_row, .int t_signs_count], aO E.O q_t_laps 6 t_laps, ob 8 q_t_tested [.ref q_t_tested_strength, .ref q_t_tested_barred, .ref q_t_tested_weights, .int t_tested_count], ob 1 q_t_choices [.ref q_t_choices_kinds, .ref q_t_choices_prices, .ref q_t_choices_holding, .ref q_t_choices_showing, .int t_choices_count], ob 3 q_t_joints [.ref q_t_joints_hours, .ref q_t_joints_needs, .ref q_t_joints_freeAt, .ref q_t_joints_order, .ref q_t_joints_starts, .ref q_t_joints_bestOrder, .ref q_t_joints_bestStarts, .int t_joints_bestEnd, .int t_joints_clamps, .int t_joints_there, .int t_joints_solvedClamps], aI E.I q_t_joints_hours 7 t_joints_hours]) rfl (by decide) (by decide) (by decide) (fun u hw => ?_)
  obtain ⟨r1, hu_⟩ : ∃ z, z = u := ⟨_, rfl⟩
  subst hu_
  try dsimp only at hw
  show G X E 2 [ob 9 q_t [.ref q_t_signs, .ref q_t_laps, .ref q_t_breaks, .ref q_t_fraction, .ref q_t_settings, .ref q_t_rates, .ref q_t_joints, .ref q_t_tested, .ref q_t_knocks, .ref q_t_choices], aI E.I q_t_settings 8 t_settings, ob 7 q_t_signs [.ref q_t_signs_row, .int t_signs_count], aO E.O q_t_laps 6 t_laps, ob 8 q_t_tested [.ref q_t_tested_strength, .ref q_t_tested_barred, .ref q_t_tested_weights, .int t_tested_count], ob 1 q_t_choices [.ref q_t_choices_kinds, .ref q_t_choices_prices, .ref q_t_choices_holding, .ref q_t_choices_showing, .int t_choices_count], ob 3 q_t_joints [.ref q_t_joints_hours, .ref q_t_joints_needs, .ref q_t_joints_freeAt, .ref q_t_joints_order, .ref q_t_joints_starts, .ref q_t_joints_bestOrder, .ref q_t_joints_bestStarts, .int t_joints_bestEnd, .int t_joints_clamps, .int t_joints_there, .int t_joints_solvedClamps], aI E.I q_t_joints_hours 7 t_joints_hours] 0 0 16 [(0, .ref q_t), (1, .int p0)] [.int (bI r1)]
  refine g_ifb_eq C0 (tgt := 29) dX9_told_16 (by decide) (fun c2 => ?_) (fun c2 => ?_)
  · replace hw := hw.1 c2
    refine g_iload_n C0 dX9_told_29 1 rfl ?_
    by_cases c3_0 : p0 = 0
    · replace hw := hw.1 c3_0
      refine g_tabIn C0 (off := 34) (tgt := 64) dX9_told_30 0 (by rw [c3_0]; rfl) (by decide) (by decide) rfl (by decide) ?_
      refine g_aload_n C0 dX9_told_64 0 rfl ?_
      refine g_get C0 dX9_told_65 0 rfl 0 rfl rfl hinX9 (by decide) (List.mem_of_getElem? (i := 2) rfl) rfl ?_
      refine g_callV C0 (q0 := 2) (ci := 7) (c_X7_count l E q_t_signs q_t_signs_row t_signs_count _ hw) dX9_told_68 gX9_told_X7_count rfl ddV_X7_count rfl (by decide) (by decide) rfl (Nat.le_of_ble_eq_true rfl) [2] [0, 1, 3, 4, 5, 6, 7] rfl (wr := [ob 9 q_t [.ref q_t_signs, .ref q_t_laps, .ref q_t_breaks, .ref q_t_fraction, .ref q_t_settings, .ref q_t_rates, .ref q_t_joints, .ref q_t_tested, .ref q_t_knocks, .ref q_t_choices], aI E.I q_t_settings 8 t_settings, aO E.O q_t_laps 6 t_laps, ob 8 q_t_tested [.ref q_t_tested_strength, .ref q_t_tested_barred, .ref q_t_tested_weights, .int t_tested_count], ob 1 q_t_choices [.ref q_t_choices_kinds, .ref q_t_choices_prices, .ref q_t_choices_holding, .ref q_t_choices_showing, .int t_choices_count], ob 3 q_t_joints [.ref q_t_joints_hours, .ref q_t_joints_needs, .ref q_t_joints_freeAt, .ref q_t_joints_order, .ref q_t_joints_starts, .ref q_t_joints_bestOrder, .ref q_t_joints_bestStarts, .int t_joints_bestEnd, .int t_joints_clamps, .int t_joints_there, .int t_joints_solvedClamps], aI E.I q_t_joints_hours 7 t_joints_hours]) rfl (by decide) (by decide) (by decide) rfl rfl (fun u hw => ?_)
      obtain ⟨r4, hu_⟩ : ∃ z, z = u := ⟨_, rfl⟩
      subst hu_
      try dsimp only at hw
      show G X E 2 [ob 9 q_t [.ref q_t_signs, .ref q_t_laps, .ref q_t_breaks, .ref q_t_fraction, .ref q_t_settings, .ref q_t_rates, .ref q_t_joints, .ref q_t_tested, .ref q_t_knocks, .ref q_t_choices], aI E.I q_t_settings 8 t_settings, aO E.O q_t_laps 6 t_laps, ob 8 q_t_tested [.ref q_t_tested_strength, .ref q_t_tested_barred, .ref q_t_tested_weights, .int t_tested_count], ob 1 q_t_choices [.ref q_t_choices_kinds, .ref q_t_choices_prices, .ref q_t_choices_holding, .ref q_t_choices_showing, .int t_choices_count], ob 3 q_t_joints [.ref q_t_joints_hours, .ref q_t_joints_needs, .ref q_t_joints_freeAt, .ref q_t_joints_order, .ref q_t_joints_starts, .ref q_t_joints_bestOrder, .ref q_t_joints_bestStarts, .int t_joints_bestEnd, .int t_joints_clamps, .int t_joints_there, .int t_joints_solvedClamps], aI E.I q_t_joints_hours 7 t_joints_hours, ob 7 q_t_signs [.ref q_t_signs_row, .int t_signs_count]] 0 0 71 [(0, .ref q_t), (1, .int p0)] [.int r4]
      exact g_iret C0 R1 dX9_told_71 r4 rfl hw [0, 1, 7, 2, 3, 4, 5, 6] (by decide) rfl (by decide) (by decide)
    · replace hw := hw.2 c3_0
      by_cases c3_1 : p0 = 1
      · replace hw := hw.1 c3_1
        refine g_tabIn C0 (off := 42) (tgt := 72) dX9_told_30 1 (by rw [c3_1]; rfl) (by decide) (by decide) rfl (by decide) ?_
        refine g_aload_n C0 dX9_told_72 0 rfl ?_
        refine g_callV C0 (q0 := 0) (ci := 9) (c_X9_lapBits l E q_t q_t_signs q_t_laps q_t_breaks q_t_fraction q_t_settings q_t_rates q_t_joints q_t_tested q_t_knocks q_t_choices t_laps _ hw) dX9_told_73 gX9_told_X9_lapBits rfl ddV_X9_lapBits rfl (by decide) (by decide) rfl (Nat.le_of_ble_eq_true rfl) [0, 3] [1, 2, 4, 5, 6, 7] rfl (wr := [aI E.I q_t_settings 8 t_settings, ob 7 q_t_signs [.ref q_t_signs_row, .int t_signs_count], ob 8 q_t_tested [.ref q_t_tested_strength, .ref q_t_tested_barred, .ref q_t_tested_weights, .int t_tested_count], ob 1 q_t_choices [.ref q_t_choices_kinds, .ref q_t_choices_prices, .ref q_t_choices_holding, .ref q_t_choices_showing, .int t_choices_count], ob 3 q_t_joints [.ref q_t_joints_hours, .ref q_t_joints_needs, .ref q_t_joints_freeAt, .ref q_t_joints_order, .ref q_t_joints_starts, .ref q_t_joints_bestOrder, .ref q_t_joints_bestStarts, .int t_joints_bestEnd, .int t_joints_clamps, .int t_joints_there, .int t_joints_solvedClamps], aI E.I q_t_joints_hours 7 t_joints_hours]) rfl (by decide) (by decide) (by decide) rfl rfl (fun u hw => ?_)
        obtain ⟨r5, hu_⟩ : ∃ z, z = u := ⟨_, rfl⟩
        subst hu_
        try dsimp only at hw
        show G X E 2 [aI E.I q_t_settings 8 t_settings, ob 7 q_t_signs [.ref q_t_signs_row, .int t_signs_count], ob 8 q_t_tested [.ref q_t_tested_strength, .ref q_t_tested_barred, .ref q_t_tested_weights, .int t_tested_count], ob 1 q_t_choices [.ref q_t_choices_kinds, .ref q_t_choices_prices, .ref q_t_choices_holding, .ref q_t_choices_showing, .int t_choices_count], ob 3 q_t_joints [.ref q_t_joints_hours, .ref q_t_joints_needs, .ref q_t_joints_freeAt, .ref q_t_joints_order, .ref q_t_joints_starts, .ref q_t_joints_bestOrder, .ref q_t_joints_bestStarts, .int t_joints_bestEnd, .int t_joints_clamps, .int t_joints_there, .int t_joints_solvedClamps], aI E.I q_t_joints_hours 7 t_joints_hours, ob 9 q_t [.ref q_t_signs, .ref q_t_laps, .ref q_t_breaks, .ref q_t_fraction, .ref q_t_settings, .ref q_t_rates, .ref q_t_joints, .ref q_t_tested, .ref q_t_knocks, .ref q_t_choices], aO E.O q_t_laps 6 t_laps] 0 0 76 [(0, .ref q_t), (1, .int p0)] [.int r5]
        exact g_iret C0 R1 dX9_told_76 r5 rfl hw [6, 0, 1, 7, 2, 3, 4, 5] (by decide) rfl (by decide) (by decide)
      · replace hw := hw.2 c3_1
        by_cases c3_2 : p0 = 2
        · replace hw := hw.1 c3_2
          refine g_tabIn C0 (off := 47) (tgt := 77) dX9_told_30 2 (by rw [c3_2]; rfl) (by decide) (by decide) rfl (by decide) ?_
          refine g_aload_n C0 dX9_told_77 0 rfl ?_
          refine g_get C0 dX9_told_78 0 rfl 7 rfl rfl hinX9 (by decide) (List.mem_of_getElem? (i := 3) rfl) rfl ?_
          refine g_callV C0 (q0 := 4) (ci := 8) (c_X8_count l E q_t_tested q_t_tested_strength q_t_tested_barred q_t_tested_weights t_tested_count _ hw) dX9_told_81 gX9_told_X8_count rfl ddV_X8_count rfl (by decide) (by decide) rfl (Nat.le_of_ble_eq_true rfl) [4] [0, 1, 2, 3, 5, 6, 7] rfl (wr := [ob 9 q_t [.ref q_t_signs, .ref q_t_laps, .ref q_t_breaks, .ref q_t_fraction, .ref q_t_settings, .ref q_t_rates, .ref q_t_joints, .ref q_t_tested, .ref q_t_knocks, .ref q_t_choices], aI E.I q_t_settings 8 t_settings, ob 7 q_t_signs [.ref q_t_signs_row, .int t_signs_count], aO E.O q_t_laps 6 t_laps, ob 1 q_t_choices [.ref q_t_choices_kinds, .ref q_t_choices_prices, .ref q_t_choices_holding, .ref q_t_choices_showing, .int t_choices_count], ob 3 q_t_joints [.ref q_t_joints_hours, .ref q_t_joints_needs, .ref q_t_joints_freeAt, .ref q_t_joints_order, .ref q_t_joints_starts, .ref q_t_joints_bestOrder, .ref q_t_joints_bestStarts, .int t_joints_bestEnd, .int t_joints_clamps, .int t_joints_there, .int t_joints_solvedClamps], aI E.I q_t_joints_hours 7 t_joints_hours]) rfl (by decide) (by decide) (by decide) rfl rfl (fun u hw => ?_)
          obtain ⟨r6, hu_⟩ : ∃ z, z = u := ⟨_, rfl⟩
          subst hu_
          try dsimp only at hw
          show G X E 2 [ob 9 q_t [.ref q_t_signs, .ref q_t_laps, .ref q_t_breaks, .ref q_t_fraction, .ref q_t_settings, .ref q_t_rates, .ref q_t_joints, .ref q_t_tested, .ref q_t_knocks, .ref q_t_choices], aI E.I q_t_settings 8 t_settings, ob 7 q_t_signs [.ref q_t_signs_row, .int t_signs_count], aO E.O q_t_laps 6 t_laps, ob 1 q_t_choices [.ref q_t_choices_kinds, .ref q_t_choices_prices, .ref q_t_choices_holding, .ref q_t_choices_showing, .int t_choices_count], ob 3 q_t_joints [.ref q_t_joints_hours, .ref q_t_joints_needs, .ref q_t_joints_freeAt, .ref q_t_joints_order, .ref q_t_joints_starts, .ref q_t_joints_bestOrder, .ref q_t_joints_bestStarts, .int t_joints_bestEnd, .int t_joints_clamps, .int t_joints_there, .int t_joints_solvedClamps], aI E.I q_t_joints_hours 7 t_joints_hours, ob 8 q_t_tested [.ref q_t_tested_strength, .ref q_t_tested_barred, .ref q_t_tested_weights, .int t_tested_count]] 0 0 84 [(0, .ref q_t), (1, .int p0)] [.int r6]
          exact g_iret C0 R1 dX9_told_84 r6 rfl hw [0, 1, 2, 3, 7, 4, 5, 6] (by decide) rfl (by decide) (by decide)
        · replace hw := hw.2 c3_2
          by_cases c3_3 : p0 = 3
          · replace hw := hw.1 c3_3
            refine g_tabIn C0 (off := 55) (tgt := 85) dX9_told_30 3 (by rw [c3_3]; rfl) (by decide) (by decide) rfl (by decide) ?_
            refine g_aload_n C0 dX9_told_85 0 rfl ?_
            refine g_get C0 dX9_told_86 0 rfl 9 rfl rfl hinX9 (by decide) (List.mem_of_getElem? (i := 4) rfl) rfl ?_
            refine g_callV C0 (q0 := 5) (ci := 1) (c_X1_count l E q_t_choices q_t_choices_kinds q_t_choices_prices q_t_choices_holding q_t_choices_showing t_choices_count _ hw) dX9_told_89 gX9_told_X1_count rfl ddV_X1_count rfl (by decide) (by decide) rfl (Nat.le_of_ble_eq_true rfl) [5] [0, 1, 2, 3, 4, 6, 7] rfl (wr := [ob 9 q_t [.ref q_t_signs, .ref q_t_laps, .ref q_t_breaks, .ref q_t_fraction, .ref q_t_settings, .ref q_t_rates, .ref q_t_joints, .ref q_t_tested, .ref q_t_knocks, .ref q_t_choices], aI E.I q_t_settings 8 t_settings, ob 7 q_t_signs [.ref q_t_signs_row, .int t_signs_count], aO E.O q_t_laps 6 t_laps, ob 8 q_t_tested [.ref q_t_tested_strength, .ref q_t_tested_barred, .ref q_t_tested_weights, .int t_tested_count], ob 3 q_t_joints [.ref q_t_joints_hours, .ref q_t_joints_needs, .ref q_t_joints_freeAt, .ref q_t_joints_order, .ref q_t_joints_starts, .ref q_t_joints_bestOrder, .ref q_t_joints_bestStarts, .int t_joints_bestEnd, .int t_joints_clamps, .int t_joints_there, .int t_joints_solvedClamps], aI E.I q_t_joints_hours 7 t_joints_hours]) rfl (by decide) (by decide) (by decide) rfl rfl (fun u hw => ?_)
            obtain ⟨r7, hu_⟩ : ∃ z, z = u := ⟨_, rfl⟩
            subst hu_
            try dsimp only at hw
            show G X E 2 [ob 9 q_t [.ref q_t_signs, .ref q_t_laps, .ref q_t_breaks, .ref q_t_fraction, .ref q_t_settings, .ref q_t_rates, .ref q_t_joints, .ref q_t_tested, .ref q_t_knocks, .ref q_t_choices], aI E.I q_t_settings 8 t_settings, ob 7 q_t_signs [.ref q_t_signs_row, .int t_signs_count], aO E.O q_t_laps 6 t_laps, ob 8 q_t_tested [.ref q_t_tested_strength, .ref q_t_tested_barred, .ref q_t_tested_weights, .int t_tested_count], ob 3 q_t_joints [.ref q_t_joints_hours, .ref q_t_joints_needs, .ref q_t_joints_freeAt, .ref q_t_joints_order, .ref q_t_joints_starts, .ref q_t_joints_bestOrder, .ref q_t_joints_bestStarts, .int t_joints_bestEnd, .int t_joints_clamps, .int t_joints_there, .int t_joints_solvedClamps], aI E.I q_t_joints_hours 7 t_joints_hours, ob 1 q_t_choices [.ref q_t_choices_kinds, .ref q_t_choices_prices, .ref q_t_choices_holding, .ref q_t_choices_showing, .int t_choices_count]] 0 0 92 [(0, .ref q_t), (1, .int p0)] [.int r7]
            exact g_iret C0 R1 dX9_told_92 r7 rfl hw [0, 1, 2, 3, 4, 7, 5, 6] (by decide) rfl (by decide) (by decide)
          · replace hw := hw.2 c3_3
            by_cases c3_4 : p0 = 4
            · replace hw := hw.1 c3_4
              refine g_tabIn C0 (off := 63) (tgt := 93) dX9_told_30 4 (by rw [c3_4]; rfl) (by decide) (by decide) rfl (by decide) ?_
              refine g_aload_n C0 dX9_told_93 0 rfl ?_
              refine g_get C0 dX9_told_94 0 rfl 6 rfl rfl hinX9 (by decide) (List.mem_of_getElem? (i := 5) rfl) rfl ?_
              refine g_callV C0 (q0 := 6) (ci := 3) (c_X3_bits l E q_t_joints q_t_joints_hours q_t_joints_needs q_t_joints_freeAt q_t_joints_order q_t_joints_starts q_t_joints_bestOrder q_t_joints_bestStarts t_joints_bestEnd t_joints_clamps t_joints_there t_joints_solvedClamps t_joints_hours _ hw) dX9_told_97 gX9_told_X3_bits rfl ddV_X3_bits rfl (by decide) (by decide) rfl (Nat.le_of_ble_eq_true rfl) [6, 7] [0, 1, 2, 3, 4, 5] rfl (wr := [ob 9 q_t [.ref q_t_signs, .ref q_t_laps, .ref q_t_breaks, .ref q_t_fraction, .ref q_t_settings, .ref q_t_rates, .ref q_t_joints, .ref q_t_tested, .ref q_t_knocks, .ref q_t_choices], aI E.I q_t_settings 8 t_settings, ob 7 q_t_signs [.ref q_t_signs_row, .int t_signs_count], aO E.O q_t_laps 6 t_laps, ob 8 q_t_tested [.ref q_t_tested_strength, .ref q_t_tested_barred, .ref q_t_tested_weights, .int t_tested_count], ob 1 q_t_choices [.ref q_t_choices_kinds, .ref q_t_choices_prices, .ref q_t_choices_holding, .ref q_t_choices_showing, .int t_choices_count]]) rfl (by decide) (by decide) (by decide) rfl rfl (fun u hw => ?_)
              obtain ⟨r8, hu_⟩ : ∃ z, z = u := ⟨_, rfl⟩
              subst hu_
              try dsimp only at hw
              show G X E 2 [ob 9 q_t [.ref q_t_signs, .ref q_t_laps, .ref q_t_breaks, .ref q_t_fraction, .ref q_t_settings, .ref q_t_rates, .ref q_t_joints, .ref q_t_tested, .ref q_t_knocks, .ref q_t_choices], aI E.I q_t_settings 8 t_settings, ob 7 q_t_signs [.ref q_t_signs_row, .int t_signs_count], aO E.O q_t_laps 6 t_laps, ob 8 q_t_tested [.ref q_t_tested_strength, .ref q_t_tested_barred, .ref q_t_tested_weights, .int t_tested_count], ob 1 q_t_choices [.ref q_t_choices_kinds, .ref q_t_choices_prices, .ref q_t_choices_holding, .ref q_t_choices_showing, .int t_choices_count], ob 3 q_t_joints [.ref q_t_joints_hours, .ref q_t_joints_needs, .ref q_t_joints_freeAt, .ref q_t_joints_order, .ref q_t_joints_starts, .ref q_t_joints_bestOrder, .ref q_t_joints_bestStarts, .int t_joints_bestEnd, .int t_joints_clamps, .int t_joints_there, .int t_joints_solvedClamps], aI E.I q_t_joints_hours 7 t_joints_hours] 0 0 100 [(0, .ref q_t), (1, .int p0)] [.int r8]
              exact g_iret C0 R1 dX9_told_100 r8 rfl hw [0, 1, 2, 3, 4, 5, 6, 7] (by decide) rfl (by decide) (by decide)
            · replace hw := hw.2 c3_4
              refine g_tabOut C0 (tgt := 101) dX9_told_30 (by have e0 := neI (z := 0) c3_0 rfl; have e1 := neI (z := 1) c3_1 rfl; have e2 := neI (z := 2) c3_2 rfl; have e3 := neI (z := 3) c3_3 rfl; have e4 := neI (z := 4) c3_4 rfl; omega) (by decide) ?_
              refine g_bipush C0 (v := (-2)) dX9_told_101 (by decide) ?_
              exact g_iret C0 R1 dX9_told_103 (-2) rfl hw [0, 1, 2, 3, 4, 5, 6, 7] (by decide) rfl (by decide) (by decide)
  · replace hw := hw.2 c2
    refine g_aload_n C0 dX9_told_19 0 rfl ?_
    refine g_get C0 dX9_told_20 0 rfl 4 rfl rfl hinX9 (by decide) (List.mem_of_getElem? (i := 1) rfl) rfl ?_
    refine g_iload_n C0 dX9_told_23 1 rfl ?_
    refine g_bipush C0 (v := 10) dX9_told_24 (by decide) ?_
    refine g_isub C0 dX9_told_26 ?_
    obtain ⟨h9, hw⟩ := hw
    refine g_iald C0 (cA := E.I) dX9_told_27 1 rfl h9 ?_
    exact g_iret C0 R1 dX9_told_28 (t_settings (Int32.toNatClampNeg (p0 - 10))) rfl hw [0, 1, 2, 3, 4, 5, 6, 7] (by decide) rfl (by decide) (by decide)
