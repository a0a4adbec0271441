def w_X9_set (p0 : Int32) (p1 : Int32) (t_settings : Nat → Int32) (Q : Int32 → (Nat → Int32) → Prop) : Prop := w_X9_within p0 0 (8 - 1) (fun (r1 : Bool) => (r1 = true → vp_in p0 8 ∧ (vp_in p0 8 ∧ (w_X9_put p0 p1 (zLEAST (Int32.toNatClampNeg p0)) (zMOST (Int32.toNatClampNeg p0)) 8 t_settings (fun (r5 : Int32) (t_settings_6 : Nat → Int32) => Q r5 t_settings_6)))) ∧ (r1 = false → Q (-2) t_settings))
theorem ddV_X9_set : yX9_set.cls = RX9 ∧ yX9_set.cls ≠ "java/lang/invoke/MethodHandle" ∧ yX9_set.cls ≠ "java/lang/invoke/VarHandle" ∧ (parseMethodDescriptor yX9_set.desc).map (fun d => d.parameters.length) = some 2 := by decide +kernel
set_option maxHeartbeats 4000000 in
set_option maxRecDepth 100000 in
theorem c_X9_set (l : Launch) (E : gE) (q_LEAST_SETTINGS q_MOST_SETTINGS : Nat) (q_t q_t_signs q_t_laps q_t_breaks q_t_fraction q_t_settings q_t_rates q_t_joints q_t_tested q_t_knocks q_t_choices : Nat) (p0 : Int32) (p1 : Int32) (t_settings : Nat → Int32) (Q : Int32 → (Nat → Int32) → Prop) (hw : w_X9_set p0 p1 t_settings Q) : Ctz l E yX9_set wsX9_set { frames := 2, cells := 0, slots := 0, locals := 47 } [.ref q_t, .int p0, .int p1] [ob 9 q_t [.ref q_t_signs, .ref q_t_laps, .ref q_t_breaks, .ref q_t_fraction, .ref q_t_settings, .ref q_t_rates, .ref q_t_joints, .ref q_t_tested, .ref q_t_knocks, .ref q_t_choices], aI E.I q_t_settings 8 t_settings] (S := Int32 × (Nat → Int32)) (fun u => some (.int u.1)) (fun u => Q u.1 u.2) (fun u => [ob 9 q_t [.ref q_t_signs, .ref q_t_laps, .ref q_t_breaks, .ref q_t_fraction, .ref q_t_settings, .ref q_t_rates, .ref q_t_joints, .ref q_t_tested, .ref q_t_knocks, .ref q_t_choices], aI E.I q_t_settings 8 u.2]) (zSet q_LEAST_SETTINGS q_MOST_SETTINGS) := by
  unfold w_X9_set at hw
  have hinX9 : ∀ w ∈ wsX90, w ∈ wsX9_set := fun _ h => List.mem_cons_of_mem _ (List.mem_append_right _ h)
  refine g_startZ (cc := cX9_set) (nL := 3) (own := RX9) (ret := (some .int)) rfl (by decide) rfl (Nat.le_of_ble_eq_true rfl) (lv0 := [(0, .ref q_t), (1, .int p0), (2, .int p1)]) rfl (fun X C0 R1 Z0 => ?_)
  obtain ⟨hZ_LEAST_SETTINGS, hT_LEAST_SETTINGS, hZ_MOST_SETTINGS, hT_MOST_SETTINGS⟩ := gZz_set Z0
  refine g_iload_n C0 dX9_set_0 1 rfl ?_
  refine g_iconst C0 (v := 0) dX9_set_1 (by decide) ?_
  refine g_aload_n C0 dX9_set_2 0 rfl ?_
  refine g_get C0 dX9_set_3 0 rfl 4 rfl rfl hinX9 (by decide) (List.mem_of_getElem? (i := 1) rfl) rfl ?_
  refine g_alen C0 (v := 8) dX9_set_6 1 0 rfl rfl rfl ?_
  refine g_iconst C0 (v := 1) dX9_set_7 (by decide) ?_
  refine g_isub C0 dX9_set_8 ?_
  refine g_callS C0 (c_X9_within l E p0 0 (8 - 1) _ hw) dX9_set_9 gX9_set_X9_within rfl ddS_X9_within rfl (by decide) (by decide) rfl (Nat.le_of_ble_eq_true rfl) [] [0, 1] rfl (wr := [ob 9 q_t [.ref q_t_signs, .ref q_t_laps, .ref q_t_breaks, .ref q_t_fraction, .ref q_t_settings, .ref q_t_rates, .ref q_t_joints, .ref q_t_tested, .ref q_t_knocks, .ref q_t_choices], aI E.I q_t_settings 8 t_settings]) rfl (by decide) (by decide) (by decide) (fun u hw => ?_)
  obtain ⟨r1, hu_⟩ : ∃ z, z = u := ⟨_, rfl⟩
  subst hu_
  try dsimp only at hw
  show G X E 3 [ob 9 q_t [.ref q_t_signs, .ref q_t_laps, .ref q_t_breaks, .ref q_t_fraction, .ref q_t_settings, .ref q_t_rates, .ref q_t_joints, .ref q_t_tested, .ref q_t_knocks, .ref q_t_choices], aI E.I q_t_settings 8 t_settings] 0 0 12 [(0, .ref q_t), (1, .int p0), (2, .int p1)] [.int (bI r1)]
  refine g_ifb_ne C0 (tgt := 18) dX9_set_12 (by decide) (fun c2 => ?_) (fun c2 => ?_)
  · replace hw := hw.1 c2
    refine g_aload_n C0 dX9_set_18 0 rfl ?_
    refine g_get C0 dX9_set_19 0 rfl 4 rfl rfl hinX9 (by decide) (List.mem_of_getElem? (i := 1) rfl) rfl ?_
    refine g_iload_n C0 dX9_set_22 1 rfl ?_
    refine g_iload_n C0 dX9_set_23 2 rfl ?_
    refine g_gets C0 hZ_LEAST_SETTINGS dX9_set_24 (List.mem_of_getElem? (i := 2) rfl) rfl ?_
    refine g_iload_n C0 dX9_set_27 1 rfl ?_
    obtain ⟨h3, hw⟩ := hw
    refine g_ti C0 (v := .int (zLEAST (Int32.toNatClampNeg p0))) hT_LEAST_SETTINGS dX9_set_28 h3 rfl ?_
    refine g_gets C0 hZ_MOST_SETTINGS dX9_set_29 (List.mem_of_getElem? (i := 3) rfl) rfl ?_
    refine g_iload_n C0 dX9_set_32 1 rfl ?_
    obtain ⟨h4, hw⟩ := hw
    refine g_ti C0 (v := .int (zMOST (Int32.toNatClampNeg p0))) hT_MOST_SETTINGS dX9_set_33 h4 rfl ?_
    refine g_callS C0 (c_X9_put l E q_t_settings p0 p1 (zLEAST (Int32.toNatClampNeg p0)) (zMOST (Int32.toNatClampNeg p0)) 8 t_settings _ hw) dX9_set_34 gX9_set_X9_put rfl ddS_X9_put rfl (by decide) (by decide) rfl (Nat.le_of_ble_eq_true rfl) [1] [0] rfl (wr := [ob 9 q_t [.ref q_t_signs, .ref q_t_laps, .ref q_t_breaks, .ref q_t_fraction, .ref q_t_settings, .ref q_t_rates, .ref q_t_joints, .ref q_t_tested, .ref q_t_knocks, .ref q_t_choices]]) rfl (by decide) (by decide) (by decide) (fun u hw => ?_)
    obtain ⟨r5, t_settings_6⟩ := u
    try dsimp only at hw
    show G X E 3 [ob 9 q_t [.ref q_t_signs, .ref q_t_laps, .ref q_t_breaks, .ref q_t_fraction, .ref q_t_settings, .ref q_t_rates, .ref q_t_joints, .ref q_t_tested, .ref q_t_knocks, .ref q_t_choices], aI E.I q_t_settings 8 t_settings_6] 0 0 37 [(0, .ref q_t), (1, .int p0), (2, .int p1)] [.int r5]
    exact g_iret C0 R1 dX9_set_37 (r5, t_settings_6) rfl hw [0, 1] (by decide) rfl (by decide) (by decide)
  · replace hw := hw.2 c2
    refine g_bipush C0 (v := (-2)) dX9_set_15 (by decide) ?_
    exact g_iret C0 R1 dX9_set_17 ((-2), t_settings) rfl hw [0, 1] (by decide) rfl (by decide) (by decide)
def w_X9_read_D (p0 : Int32) (t_signs_count : Int32) (t_signs_row : Nat → Int32) (t_laps : Nat → Option Nat) (Q : Nat → Int32 → (Nat → Option Nat) → Int32 → Int32 → Int32 → (Nat → Int32) → (Nat → Int32) → (Nat → Int32) → (Nat → Int32) → (Nat → Int32) → (Nat → Int32) → Prop) : Prop := w_X9_within p0 0 5 (fun (r1 : Bool) => (r1 = true → w_X7_faultPlace t_signs_count t_signs_row (fun (r3 : Int32) => (r3 = (-6) → vp_in p0 6 ∧ (t_laps (Int32.toNatClampNeg p0) = none ∧ (∀ q_LAP : Nat, (w_X5_init (vp_in p0 6 ∧ (vp_in p0 6 ∧ ((va_up t_laps (Int32.toNatClampNeg p0) (some q_LAP)) (Int32.toNatClampNeg p0) = some q_LAP ∧ (w_X5_readFrom t_signs_count (fun _ => 0) (fun _ => 0) (fun _ => 0) t_signs_row (fun _ => 0) (fun _ => 0) (fun _ => 0) (fun (LAP_spots_10 : Int32) (LAP_work_11 : Nat → Int32) (LAP_wear_12 : Nat → Int32) (LAP_cells_13 : Nat → Int32) (LAP_cure_14 : Int32) (LAP_glue_15 : Nat → Int32) (LAP_upper_16 : Nat → Int32) (LAP_under_17 : Nat → Int32) => w_X7_clear t_signs_count (fun (r18 : Int32) (t_signs_count_19 : Int32) => vp_in p0 6 ∧ ((va_up t_laps (Int32.toNatClampNeg p0) (some q_LAP)) (Int32.toNatClampNeg p0) = some q_LAP ∧ (Q q_LAP LAP_spots_10 (va_up t_laps (Int32.toNatClampNeg p0) (some q_LAP)) t_signs_count_19 LAP_spots_10 LAP_cure_14 LAP_glue_15 LAP_upper_16 LAP_under_17 LAP_work_11 LAP_wear_12 LAP_cells_13)))))))))))) ∧ (¬ r3 = (-6) → False))) ∧ (r1 = false → False))
set_option maxHeartbeats 4000000 in
set_option maxRecDepth 100000 in
theorem c_X9_read_D (l : Launch) (E : gE) (q_t q_t_signs q_t_laps q_t_breaks q_t_fraction q_t_settings q_t_rates q_t_joints q_t_tested q_t_knocks q_t_choices q_t_signs_row : Nat) (p0 : Int32) (t_signs_count : Int32) (t_signs_row : Nat → Int32) (t_laps : Nat → Option Nat) (Q : Nat → Int32 → (Nat → Option Nat) → Int32 → Int32 → Int32 → (Nat → Int32) → (Nat → Int32) → (Nat → Int32) → (Nat → Int32) → (Nat → Int32) → (Nat → Int32) → Prop) (hw : w_X9_read_D p0 t_signs_count t_signs_row t_laps Q) : Ct l E yX9_read wsX9_read { frames := 4, cells := 7, slots := 43, locals := 88 } [.ref q_t, .int p0] [ob 9 q_t [.ref q_t_signs, .ref q_t_laps, .ref q_t_breaks, .ref q_t_fraction, .ref q_t_settings, .ref q_t_rates, .ref q_t_joints, .ref q_t_tested, .ref q_t_knocks, .ref q_t_choices], ob 7 q_t_signs [.ref q_t_signs_row, .int t_signs_count], aI E.I q_t_signs_row 40 t_signs_row, aO E.O q_t_laps 6 t_laps] (S := Nat × Nat × Nat × Nat × Nat × Nat × Nat × Int32 × (Nat → Option Nat) × Int32 × Int32 × Int32 × (Nat → Int32) × (Nat → Int32) × (Nat → Int32) × (Nat → Int32) × (Nat → Int32) × (Nat → Int32)) (fun u => some (.int u.2.2.2.2.2.2.2.1)) (fun u => Q u.1 u.2.2.2.2.2.2.2.1 u.2.2.2.2.2.2.2.2.1 u.2.2.2.2.2.2.2.2.2.1 u.2.2.2.2.2.2.2.2.2.2.1 u.2.2.2.2.2.2.2.2.2.2.2.1 u.2.2.2.2.2.2.2.2.2.2.2.2.1 u.2.2.2.2.2.2.2.2.2.2.2.2.2.1 u.2.2.2.2.2.2.2.2.2.2.2.2.2.2.1 u.2.2.2.2.2.2.2.2.2.2.2.2.2.2.2.1 u.2.2.2.2.2.2.2.2.2.2.2.2.2.2.2.2.1 u.2.2.2.2.2.2.2.2.2.2.2.2.2.2.2.2.2) (fun u => [ob 9 q_t [.ref q_t_signs, .ref q_t_laps, .ref q_t_breaks, .ref q_t_fraction, .ref q_t_settings, .ref q_t_rates, .ref q_t_joints, .ref q_t_tested, .ref q_t_knocks, .ref q_t_choices], ob 7 q_t_signs [.ref q_t_signs_row, .int u.2.2.2.2.2.2.2.2.2.1], aI E.I q_t_signs_row 40 t_signs_row, aO E.O q_t_laps 6 u.2.2.2.2.2.2.2.2.1, ob 5 u.1 [.ref u.2.1, .ref u.2.2.1, .ref u.2.2.2.1, .ref u.2.2.2.2.1, .ref u.2.2.2.2.2.1, .ref u.2.2.2.2.2.2.1, .int u.2.2.2.2.2.2.2.2.2.2.1, .int u.2.2.2.2.2.2.2.2.2.2.2.1], aI E.I u.2.1 5 u.2.2.2.2.2.2.2.2.2.2.2.2.1, aI E.I u.2.2.1 5 u.2.2.2.2.2.2.2.2.2.2.2.2.2.1, aI E.I u.2.2.2.1 5 u.2.2.2.2.2.2.2.2.2.2.2.2.2.2.1, aI E.I u.2.2.2.2.1 5 u.2.2.2.2.2.2.2.2.2.2.2.2.2.2.2.1, aI E.I u.2.2.2.2.2.1 5 u.2.2.2.2.2.2.2.2.2.2.2.2.2.2.2.2.1, aI E.I u.2.2.2.2.2.2.1 10 u.2.2.2.2.2.2.2.2.2.2.2.2.2.2.2.2.2]) := by
  unfold w_X9_read_D at hw
  have hinX5 : ∀ w ∈ wsX50, w ∈ wsX9_read := fun _ h => List.mem_cons_of_mem _ (List.mem_append_left _ (List.mem_append_right _ h))
  have hinX9 : ∀ w ∈ wsX90, w ∈ wsX9_read := fun _ h => List.mem_cons_of_mem _ (List.mem_append_left _ (List.mem_append_left _ (List.mem_append_right _ h)))
  refine g_start (cc := cX9_read) (nL := 2) (own := RX9) (ret := (some .int)) rfl (by decide) rfl (Nat.le_of_ble_eq_true rfl) (lv0 := [(0, .ref q_t), (1, .int p0)]) rfl (fun X C0 R1 => ?_)
  refine g_iload_n C0 dX9_read_0 1 rfl ?_
  refine g_iconst C0 (v := 0) dX9_read_1 (by decide) ?_
  refine g_iconst C0 (v := 5) dX9_read_2 (by decide) ?_
  refine g_callS C0 (c_X9_within l E p0 0 5 _ hw) dX9_read_3 gX9_read_X9_within rfl ddS_X9_within rfl (by decide) (by decide) rfl (Nat.le_of_ble_eq_true rfl) [] [0, 1, 2, 3] rfl (wr := [ob 9 q_t [.ref q_t_signs, .ref q_t_laps, .ref q_t_breaks, .ref q_t_fraction, .ref q_t_settings, .ref q_t_rates, .ref q_t_joints, .ref q_t_tested, .ref q_t_knocks, .ref q_t_choices], ob 7 q_t_signs [.ref q_t_signs_row, .int t_signs_count], aI E.I q_t_signs_row 40 t_signs_row, aO E.O q_t_laps 6 t_laps]) rfl (by decide) (by decide) (by decide) (fun u hw => ?_)
  obtain ⟨r1, hu_⟩ : ∃ z, z = u := ⟨_, rfl⟩
  subst hu_
  try dsimp only at hw
  show G X E 2 [ob 9 q_t [.ref q_t_signs, .ref q_t_laps, .ref q_t_breaks, .ref q_t_fraction, .ref q_t_settings, .ref q_t_rates, .ref q_t_joints, .ref q_t_tested, .ref q_t_knocks, .ref q_t_choices], ob 7 q_t_signs [.ref q_t_signs_row, .int t_signs_count], aI E.I q_t_signs_row 40 t_signs_row, aO E.O q_t_laps 6 t_laps] 0 0 6 [(0, .ref q_t), (1, .int p0)] [.int (bI r1)]
  refine g_ifb_ne C0 (tgt := 11) dX9_read_6 (by decide) (fun c2 => ?_) (fun c2 => ?_)
  · replace hw := hw.1 c2
    refine g_aload_n C0 dX9_read_11 0 rfl ?_
    refine g_get C0 dX9_read_12 0 rfl 0 rfl rfl hinX9 (by decide) (List.mem_of_getElem? (i := 1) rfl) rfl ?_
    refine g_callV C0 (q0 := 1) (ci := 7) (c_X7_faultPlace l E q_t_signs q_t_signs_row t_signs_count t_signs_row _ hw) dX9_read_15 gX9_read_X7_faultPlace rfl ddV_X7_faultPlace rfl (by decide) (by decide) rfl (Nat.le_of_ble_eq_true rfl) [1, 2] [0, 3] rfl (wr := [ob 9 q_t [.ref q_t_signs, .ref q_t_laps, .ref q_t_breaks, .ref q_t_fraction, .ref q_t_settings, .ref q_t_rates, .ref q_t_joints, .ref q_t_tested, .ref q_t_knocks, .ref q_t_choices], aO E.O q_t_laps 6 t_laps]) rfl (by decide) (by decide) (by decide) rfl rfl (fun u hw => ?_)
    obtain ⟨r3, hu_⟩ : ∃ z, z = u := ⟨_, rfl⟩
    subst hu_
    try dsimp only at hw
    show G X E 2 [ob 9 q_t [.ref q_t_signs, .ref q_t_laps, .ref q_t_breaks, .ref q_t_fraction, .ref q_t_settings, .ref q_t_rates, .ref q_t_joints, .ref q_t_tested, .ref q_t_knocks, .ref q_t_choices], aO E.O q_t_laps 6 t_laps, ob 7 q_t_signs [.ref q_t_signs_row, .int t_signs_count], aI E.I q_t_signs_row 40 t_signs_row] 0 0 18 [(0, .ref q_t), (1, .int p0)] [.int r3]
    refine g_bipush C0 (v := (-6)) dX9_read_18 (by decide) ?_
    refine g_icmp_eq C0 (tgt := 26) dX9_read_20 (by decide) (fun c4 => ?_) (fun c4 => ?_)
    · replace hw := hw.1 c4
      refine g_aload_n C0 dX9_read_26 0 rfl ?_
      refine g_get C0 dX9_read_27 0 rfl 1 rfl rfl hinX9 (by decide) (List.mem_of_getElem? (i := 2) rfl) rfl ?_
      refine g_iload_n C0 dX9_read_30 1 rfl ?_
      obtain ⟨h5, hw⟩ := hw
      obtain ⟨h6, hw⟩ := hw
      refine g_aald C0 (v := .null) dX9_read_31 1 rfl h5 (by rw [h6]; rfl) ?_
      refine g_ifnonnullN C0 dX9_read_32 ?_
      refine g_aload_n C0 dX9_read_35 0 rfl ?_
      refine g_get C0 dX9_read_36 0 rfl 1 rfl rfl hinX9 (by decide) (List.mem_of_getElem? (i := 2) rfl) rfl ?_
      refine g_iload_n C0 dX9_read_39 1 rfl ?_
      refine g_new C0 (ci := 5) (fs := [.null, .null, .null, .null, .null, .null, .int 0, .int 0]) dX9_read_40 rfl hinX5 tyX5 tyX5_ok (List.mem_of_getElem? (i := 3) rfl) (List.mem_of_getElem? (i := 4) rfl) (List.mem_of_getElem? (i := 5) rfl) (fun j hj => by rcases (show j = 0 ∨ j = 1 ∨ j = 2 ∨ j = 3 ∨ j = 4 ∨ j = 5 ∨ j = 6 ∨ j = 7 by omega) with rfl | rfl | rfl | rfl | rfl | rfl | rfl | rfl <;> rfl) (by decide) (by decide) (fun q_LAP => ?_)
      replace hw := hw q_LAP
      show G X E 2 [ob 9 q_t [.ref q_t_signs, .ref q_t_laps, .ref q_t_breaks, .ref q_t_fraction, .ref q_t_settings, .ref q_t_rates, .ref q_t_joints, .ref q_t_tested, .ref q_t_knocks, .ref q_t_choices], aO E.O q_t_laps 6 t_laps, ob 7 q_t_signs [.ref q_t_signs_row, .int t_signs_count], aI E.I q_t_signs_row 40 t_signs_row, ob 5 q_LAP [.null, .null, .null, .null, .null, .null, .int 0, .int 0]] 1 8 43 [(0, .ref q_t), (1, .int p0)] [.ref q_LAP, .int p0, .ref q_t_laps]
      refine g_dup C0 dX9_read_43 rfl ?_
      refine g_callI C0 (c_X5_init l E q_LAP _ hw) dX9_read_44 gX9_read_X5_init rfl (List.mem_of_getElem? (i := 5) rfl) (List.mem_of_getElem? (i := 26) rfl) (List.mem_of_getElem? (i := 27) rfl) rfl ddS_X5_init rfl (by decide) (by decide) rfl (Nat.le_of_ble_eq_true rfl) [4] [0, 1, 2, 3] rfl (wr := [ob 9 q_t [.ref q_t_signs, .ref q_t_laps, .ref q_t_breaks, .ref q_t_fraction, .ref q_t_settings, .ref q_t_rates, .ref q_t_joints, .ref q_t_tested, .ref q_t_knocks, .ref q_t_choices], aO E.O q_t_laps 6 t_laps, ob 7 q_t_signs [.ref q_t_signs_row, .int t_signs_count], aI E.I q_t_signs_row 40 t_signs_row]) rfl (by decide) (by decide) (by decide) (fun u hw => ?_)
      obtain ⟨q_LAP_glue, q_LAP_upper, q_LAP_under, q_LAP_work, q_LAP_wear, q_LAP_cells⟩ := u
      try dsimp only at hw
      show G X E 2 [ob 9 q_t [.ref q_t_signs, .ref q_t_laps, .ref q_t_breaks, .ref q_t_fraction, .ref q_t_settings, .ref q_t_rates, .ref q_t_joints, .ref q_t_tested, .ref q_t_knocks, .ref q_t_choices], aO E.O q_t_laps 6 t_laps, ob 7 q_t_signs [.ref q_t_signs_row, .int t_signs_count], aI E.I q_t_signs_row 40 t_signs_row, ob 5 q_LAP [.ref q_LAP_glue, .ref q_LAP_upper, .ref q_LAP_under, .ref q_LAP_work, .ref q_LAP_wear, .ref q_LAP_cells, .int 0, .int 0], aI E.I q_LAP_glue 5 (fun _ => 0), aI E.I q_LAP_upper 5 (fun _ => 0), aI E.I q_LAP_under 5 (fun _ => 0), aI E.I q_LAP_work 5 (fun _ => 0), aI E.I q_LAP_wear 5 (fun _ => 0), aI E.I q_LAP_cells 10 (fun _ => 0)] 7 43 47 [(0, .ref q_t), (1, .int p0)] [.ref q_LAP, .int p0, .ref q_t_laps]
      obtain ⟨h7, hw⟩ := hw
      refine g_aast C0 (ci := 5) (ws2 := [ob 9 q_t [.ref q_t_signs, .ref q_t_laps, .ref q_t_breaks, .ref q_t_fraction, .ref q_t_settings, .ref q_t_rates, .ref q_t_joints, .ref q_t_tested, .ref q_t_knocks, .ref q_t_choices], aO E.O q_t_laps 6 (va_up t_laps (Int32.toNatClampNeg p0) (some q_LAP)), ob 7 q_t_signs [.ref q_t_signs_row, .int t_signs_count], aI E.I q_t_signs_row 40 t_signs_row, ob 5 q_LAP [.ref q_LAP_glue, .ref q_LAP_upper, .ref q_LAP_under, .ref q_LAP_work, .ref q_LAP_wear, .ref q_LAP_cells, .int 0, .int 0], aI E.I q_LAP_glue 5 (fun _ => 0), aI E.I q_LAP_upper 5 (fun _ => 0), aI E.I q_LAP_under 5 (fun _ => 0), aI E.I q_LAP_work 5 (fun _ => 0), aI E.I q_LAP_wear 5 (fun _ => 0), aI E.I q_LAP_cells 10 (fun _ => 0)]) dX9_read_47 1 4 rfl rfl rfl h7 rfl ?_
      refine g_aload_n C0 dX9_read_48 0 rfl ?_
      refine g_get C0 dX9_read_49 0 rfl 1 rfl rfl hinX9 (by decide) (List.mem_of_getElem? (i := 2) rfl) rfl ?_
      refine g_iload_n C0 dX9_read_52 1 rfl ?_
      obtain ⟨h8, hw⟩ := hw
      obtain ⟨h9, hw⟩ := hw
      refine g_aald C0 (v := .ref q_LAP) dX9_read_53 1 rfl h8 (by rw [h9]; rfl) ?_
      refine g_aload_n C0 dX9_read_54 0 rfl ?_
      refine g_get C0 dX9_read_55 0 rfl 0 rfl rfl hinX9 (by decide) (List.mem_of_getElem? (i := 1) rfl) rfl ?_
      refine g_callV C0 (q0 := 4) (ci := 5) (c_X5_readFrom l E q_LAP q_t_signs q_t_signs_row q_LAP_glue q_LAP_upper q_LAP_under q_LAP_work q_LAP_wear q_LAP_cells t_signs_count 0 0 (fun _ => 0) (fun _ => 0) (fun _ => 0) t_signs_row (fun _ => 0) (fun _ => 0) (fun _ => 0) _ hw) dX9_read_58 gX9_read_X5_readFrom rfl ddV_X5_readFrom rfl (by decide) (by decide) rfl (Nat.le_of_ble_eq_true rfl) [2, 4, 8, 9, 10, 3, 5, 6, 7] [0, 1] rfl (wr := [ob 9 q_t [.ref q_t_signs, .ref q_t_laps, .ref q_t_breaks, .ref q_t_fraction, .ref q_t_settings, .ref q_t_rates, .ref q_t_joints, .ref q_t_tested, .ref q_t_knocks, .ref q_t_choices], aO E.O q_t_laps 6 (va_up t_laps (Int32.toNatClampNeg p0) (some q_LAP))]) rfl (by decide) (by decide) (by decide) rfl rfl (fun u hw => ?_)
      obtain ⟨LAP_spots_10, LAP_work_11, LAP_wear_12, LAP_cells_13, LAP_cure_14, LAP_glue_15, LAP_upper_16, LAP_under_17⟩ := u
      try dsimp only at hw
      show G X E 2 [ob 9 q_t [.ref q_t_signs, .ref q_t_laps, .ref q_t_breaks, .ref q_t_fraction, .ref q_t_settings, .ref q_t_rates, .ref q_t_joints, .ref q_t_tested, .ref q_t_knocks, .ref q_t_choices], aO E.O q_t_laps 6 (va_up t_laps (Int32.toNatClampNeg p0) (some q_LAP)), ob 7 q_t_signs [.ref q_t_signs_row, .int t_signs_count], ob 5 q_LAP [.ref q_LAP_glue, .ref q_LAP_upper, .ref q_LAP_under, .ref q_LAP_work, .ref q_LAP_wear, .ref q_LAP_cells, .int LAP_spots_10, .int LAP_cure_14], aI E.I q_LAP_work 5 LAP_work_11, aI E.I q_LAP_wear 5 LAP_wear_12, aI E.I q_LAP_cells 10 LAP_cells_13, aI E.I q_t_signs_row 40 t_signs_row, aI E.I q_LAP_glue 5 LAP_glue_15, aI E.I q_LAP_upper 5 LAP_upper_16, aI E.I q_LAP_under 5 LAP_under_17] 7 43 61 [(0, .ref q_t), (1, .int p0)] []
      refine g_aload_n C0 dX9_read_61 0 rfl ?_
      refine g_get C0 dX9_read_62 0 rfl 0 rfl rfl hinX9 (by decide) (List.mem_of_getElem? (i := 1) rfl) rfl ?_
      refine g_callV C0 (q0 := 2) (ci := 7) (c_X7_clear l E q_t_signs q_t_signs_row t_signs_count _ hw) dX9_read_65 gX9_read_X7_clear rfl ddV_X7_clear rfl (by decide) (by decide) rfl (Nat.le_of_ble_eq_true rfl) [2] [0, 1, 3, 4, 5, 6, 7, 8, 9, 10] rfl (wr := [ob 9 q_t [.ref q_t_signs, .ref q_t_laps, .ref q_t_breaks, .ref q_t_fraction, .ref q_t_settings, .ref q_t_rates, .ref q_t_joints, .ref q_t_tested, .ref q_t_knocks, .ref q_t_choices], aO E.O q_t_laps 6 (va_up t_laps (Int32.toNatClampNeg p0) (some q_LAP)), ob 5 q_LAP [.ref q_LAP_glue, .ref q_LAP_upper, .ref q_LAP_under, .ref q_LAP_work, .ref q_LAP_wear, .ref q_LAP_cells, .int LAP_spots_10, .int LAP_cure_14], aI E.I q_LAP_work 5 LAP_work_11, aI E.I q_LAP_wear 5 LAP_wear_12, aI E.I q_LAP_cells 10 LAP_cells_13, aI E.I q_t_signs_row 40 t_signs_row, aI E.I q_LAP_glue 5 LAP_glue_15, aI E.I q_LAP_upper 5 LAP_upper_16, aI E.I q_LAP_under 5 LAP_under_17]) rfl (by decide) (by decide) (by decide) rfl rfl (fun u hw => ?_)
      obtain ⟨r18, t_signs_count_19⟩ := u
      try dsimp only at hw
      show G X E 2 [ob 9 q_t [.ref q_t_signs, .ref q_t_laps, .ref q_t_breaks, .ref q_t_fraction, .ref q_t_settings, .ref q_t_rates, .ref q_t_joints, .ref q_t_tested, .ref q_t_knocks, .ref q_t_choices], aO E.O q_t_laps 6 (va_up t_laps (Int32.toNatClampNeg p0) (some q_LAP)), ob 5 q_LAP [.ref q_LAP_glue, .ref q_LAP_upper, .ref q_LAP_under, .ref q_LAP_work, .ref q_LAP_wear, .ref q_LAP_cells, .int LAP_spots_10, .int LAP_cure_14], aI E.I q_LAP_work 5 LAP_work_11, aI E.I q_LAP_wear 5 LAP_wear_12, aI E.I q_LAP_cells 10 LAP_cells_13, aI E.I q_t_signs_row 40 t_signs_row, aI E.I q_LAP_glue 5 LAP_glue_15, aI E.I q_LAP_upper 5 LAP_upper_16, aI E.I q_LAP_under 5 LAP_under_17, ob 7 q_t_signs [.ref q_t_signs_row, .int t_signs_count_19]] 7 43 68 [(0, .ref q_t), (1, .int p0)] [.int r18]
      refine g_pop C0 dX9_read_68 rfl ?_
      refine g_aload_n C0 dX9_read_69 0 rfl ?_
      refine g_get C0 dX9_read_70 0 rfl 1 rfl rfl hinX9 (by decide) (List.mem_of_getElem? (i := 2) rfl) rfl ?_
      refine g_iload_n C0 dX9_read_73 1 rfl ?_
      obtain ⟨h20, hw⟩ := hw
      obtain ⟨h21, hw⟩ := hw
      refine g_aald C0 (v := .ref q_LAP) dX9_read_74 1 rfl h20 (by rw [h21]; rfl) ?_
      refine g_get C0 dX9_read_75 2 rfl 6 rfl rfl hinX5 (by decide) (List.mem_of_getElem? (i := 6) rfl) rfl ?_
      exact g_iret C0 R1 dX9_read_78 (q_LAP, q_LAP_glue, q_LAP_upper, q_LAP_under, q_LAP_work, q_LAP_wear, q_LAP_cells, LAP_spots_10, va_up t_laps (Int32.toNatClampNeg p0) (some q_LAP), t_signs_count_19, LAP_spots_10, LAP_cure_14, LAP_glue_15, LAP_upper_16, LAP_under_17, LAP_work_11, LAP_wear_12, LAP_cells_13) rfl hw [0, 10, 6, 1, 2, 7, 8, 9, 3, 4, 5] (by decide) rfl (by decide) (by decide)
    · replace hw := hw.2 c4
      refine g_bipush C0 (v := (-5)) dX9_read_23 (by decide) ?_
      exact hw.elim
  · replace hw := hw.2 c2
    refine g_iconst C0 (v := (-1)) dX9_read_9 (by decide) ?_
    exact hw.elim
