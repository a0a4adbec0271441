abbrev wXc (E : gE) (q_x q_x_signs q_x_signs_row q_x_laps q_x_breaks q_x_breaks_pulled q_x_breaks_pulled_slip q_x_breaks_pulled_shear q_x_breaks_pulled_ahead q_x_breaks_moreWear q_x_fraction q_x_settings q_x_rates q_x_joints q_x_joints_hours q_x_joints_needs q_x_joints_freeAt q_x_joints_order q_x_joints_starts q_x_joints_bestOrder q_x_joints_bestStarts q_x_tested q_x_tested_strength q_x_tested_barred q_x_tested_weights q_x_knocks q_x_knocks_heard q_x_knocks_sheetOf q_x_knocks_soundOf q_x_knocks_ways q_x_knocks_nextWays q_x_choices q_x_choices_kinds q_x_choices_prices q_x_choices_holding q_x_choices_showing : Nat) (x_signs_count : Int32) (x_signs_row : Nat → Int32) (x_laps : Nat → Option Nat) (x_breaks_backUpper : Int64) (x_breaks_backLower : Int64) (x_breaks_pulled_lower : Int64) (x_breaks_pulled_way : Int64) (x_breaks_pulled_firstSlip : Int64) (x_breaks_pulled_slip : Nat → Int64) (x_breaks_pulled_shear : Nat → Int64) (x_breaks_pulled_ahead : Nat → Int64) (x_breaks_moreWear : Nat → Int64) (x_fraction_upper : Int64) (x_fraction_lower : Int64) (x_settings : Nat → Int32) (x_rates : Nat → Int32) (x_joints_bestEnd : Int32) (x_joints_clamps : Int32) (x_joints_there : Int32) (x_joints_solvedClamps : Int32) (x_joints_hours : Nat → Int32) (x_joints_needs : Nat → Int32) (x_joints_freeAt : Nat → Int32) (x_joints_order : Nat → Int32) (x_joints_starts : Nat → Int32) (x_joints_bestOrder : Nat → Int32) (x_joints_bestStarts : Nat → Int32) (x_tested_count : Int32) (x_tested_strength : Nat → Int32) (x_tested_barred : Nat → Bool) (x_tested_weights : Nat → Int64) (x_knocks_heard : Nat → Int32) (x_knocks_sheetOf : Nat → Int32) (x_knocks_soundOf : Nat → Int32) (x_knocks_ways : Nat → Int32) (x_knocks_nextWays : Nat → Int32) (x_choices_count : Int32) (x_choices_kinds : Nat → Int32) (x_choices_prices : Nat → Int32) (x_choices_holding : Nat → Int32) (x_choices_showing : Nat → Int32) : va_W := [ob 9 q_x [.ref q_x_signs, .ref q_x_laps, .ref q_x_breaks, .ref q_x_fraction, .ref q_x_settings, .ref q_x_rates, .ref q_x_joints, .ref q_x_tested, .ref q_x_knocks, .ref q_x_choices], ob 7 q_x_signs [.ref q_x_signs_row, .int x_signs_count], aI E.I q_x_signs_row 40 x_signs_row, aO E.O q_x_laps 6 x_laps, ob 0 q_x_breaks [.ref q_x_breaks_pulled, .ref q_x_breaks_moreWear, .long x_breaks_backUpper, .long x_breaks_backLower], ob 6 q_x_breaks_pulled [.ref q_x_breaks_pulled_slip, .ref q_x_breaks_pulled_shear, .ref q_x_breaks_pulled_ahead, .long x_breaks_pulled_lower, .long x_breaks_pulled_way, .long x_breaks_pulled_firstSlip], aJ E.J q_x_breaks_pulled_slip 5 x_breaks_pulled_slip, aJ E.J q_x_breaks_pulled_shear 5 x_breaks_pulled_shear, aJ E.J q_x_breaks_pulled_ahead 5 x_breaks_pulled_ahead, aJ E.J q_x_breaks_moreWear 5 x_breaks_moreWear, ob 2 q_x_fraction [.long x_fraction_upper, .long x_fraction_lower], aI E.I q_x_settings 8 x_settings, aI E.I q_x_rates 5 x_rates, ob 3 q_x_joints [.ref q_x_joints_hours, .ref q_x_joints_needs, .ref q_x_joints_freeAt, .ref q_x_joints_order, .ref q_x_joints_starts, .ref q_x_joints_bestOrder, .ref q_x_joints_bestStarts, .int x_joints_bestEnd, .int x_joints_clamps, .int x_joints_there, .int x_joints_solvedClamps], aI E.I q_x_joints_hours 7 x_joints_hours, aI E.I q_x_joints_needs 7 x_joints_needs, aI E.I q_x_joints_freeAt 3 x_joints_freeAt, aI E.I q_x_joints_order 7 x_joints_order, aI E.I q_x_joints_starts 7 x_joints_starts, aI E.I q_x_joints_bestOrder 7 x_joints_bestOrder, aI E.I q_x_joints_bestStarts 7 x_joints_bestStarts, ob 8 q_x_tested [.ref q_x_tested_strength, .ref q_x_tested_barred, .ref q_x_tested_weights, .int x_tested_count], aI E.I q_x_tested_strength 20 x_tested_strength, aZ E.Z q_x_tested_barred 20 x_tested_barred, aJ E.J q_x_tested_weights 13 x_tested_weights, ob 4 q_x_knocks [.ref q_x_knocks_heard, .ref q_x_knocks_sheetOf, .ref q_x_knocks_soundOf, .ref q_x_knocks_ways, .ref q_x_knocks_nextWays], aI E.I q_x_knocks_heard 10 x_knocks_heard, aI E.I q_x_knocks_sheetOf 10 x_knocks_sheetOf, aI E.I q_x_knocks_soundOf 16 x_knocks_soundOf, aI E.I q_x_knocks_ways 4 x_knocks_ways, aI E.I q_x_knocks_nextWays 4 x_knocks_nextWays, ob 1 q_x_choices [.ref q_x_choices_kinds, .ref q_x_choices_prices, .ref q_x_choices_holding, .ref q_x_choices_showing, .int x_choices_count], aI E.I q_x_choices_kinds 12 x_choices_kinds, aI E.I q_x_choices_prices 12 x_choices_prices, aI E.I q_x_choices_holding 12 x_choices_holding, aI E.I q_x_choices_showing 12 x_choices_showing]
abbrev wMc (E : gE) (q_m q_m_sign q_m_spots q_m_stiff q_m_upper q_m_lower q_m_effort q_m_wear q_m_wet q_m_cure q_m_told q_m_rates q_m_jointHours q_m_jointNeeds q_m_strength q_m_barred q_m_sound q_m_sheetAt q_m_sounds q_m_choiceKind q_m_choicePrice q_m_choiceHolds q_m_choiceShows q_m_slip q_m_shear q_m_pulled q_m_plain q_m_byFirst q_m_sumPlain q_m_sumFirst q_m_next q_m_order q_m_bestOrder q_m_begins q_m_bestBegins q_m_free q_m_ways q_m_then : Nat) (m_signs : Int32) (m_strips : Int32) (m_choices : Int32) (m_low : Int64) (m_gives : Int64) (m_backUp : Int64) (m_backLow : Int64) (m_many : Int32) (m_bestEnd : Int32) (m_sign : Nat → Int32) (m_spots : Nat → Int32) (m_stiff : Nat → Int32) (m_upper : Nat → Int32) (m_lower : Nat → Int32) (m_effort : Nat → Int32) (m_wear : Nat → Int32) (m_wet : Nat → Int32) (m_cure : Nat → Int32) (m_told : Nat → Int32) (m_rates : Nat → Int32) (m_jointHours : Nat → Int32) (m_jointNeeds : Nat → Int32) (m_strength : Nat → Int32) (m_barred : Nat → Bool) (m_sound : Nat → Int32) (m_sheetAt : Nat → Int32) (m_sounds : Nat → Int32) (m_choiceKind : Nat → Int32) (m_choicePrice : Nat → Int32) (m_choiceHolds : Nat → Int32) (m_choiceShows : Nat → Int32) (m_slip : Nat → Int64) (m_shear : Nat → Int64) (m_pulled : Nat → Int64) (m_plain : Nat → Int64) (m_byFirst : Nat → Int64) (m_sumPlain : Nat → Int64) (m_sumFirst : Nat → Int64) (m_next : Nat → Int32) (m_order : Nat → Int32) (m_bestOrder : Nat → Int32) (m_begins : Nat → Int32) (m_bestBegins : Nat → Int32) (m_free : Nat → Int32) (m_ways : Nat → Int32) (m_then : Nat → Int32) : va_W := [ob 10 q_m [.int m_signs, .ref q_m_sign, .ref q_m_spots, .ref q_m_stiff, .ref q_m_upper, .ref q_m_lower, .ref q_m_effort, .ref q_m_wear, .ref q_m_wet, .ref q_m_cure, .ref q_m_told, .ref q_m_rates, .ref q_m_jointHours, .ref q_m_jointNeeds, .int m_strips, .ref q_m_strength, .ref q_m_barred, .ref q_m_sound, .ref q_m_sheetAt, .ref q_m_sounds, .int m_choices, .ref q_m_choiceKind, .ref q_m_choicePrice, .ref q_m_choiceHolds, .ref q_m_choiceShows, .long m_low, .ref q_m_slip, .ref q_m_shear, .ref q_m_pulled, .long m_gives, .ref q_m_plain, .ref q_m_byFirst, .ref q_m_sumPlain, .ref q_m_sumFirst, .long m_backUp, .long m_backLow, .ref q_m_next, .int m_many, .ref q_m_order, .ref q_m_bestOrder, .ref q_m_begins, .ref q_m_bestBegins, .ref q_m_free, .int m_bestEnd, .ref q_m_ways, .ref q_m_then], aI E.I q_m_sign 40 m_sign, aI E.I q_m_spots 6 m_spots, aI E.I q_m_stiff 30 m_stiff, aI E.I q_m_upper 30 m_upper, aI E.I q_m_lower 30 m_lower, aI E.I q_m_effort 30 m_effort, aI E.I q_m_wear 30 m_wear, aI E.I q_m_wet 60 m_wet, aI E.I q_m_cure 6 m_cure, aI E.I q_m_told 8 m_told, aI E.I q_m_rates 5 m_rates, aI E.I q_m_jointHours 7 m_jointHours, aI E.I q_m_jointNeeds 7 m_jointNeeds, aI E.I q_m_strength 20 m_strength, aZ E.Z q_m_barred 20 m_barred, aI E.I q_m_sound 10 m_sound, aI E.I q_m_sheetAt 10 m_sheetAt, aI E.I q_m_sounds 16 m_sounds, aI E.I q_m_choiceKind 12 m_choiceKind, aI E.I q_m_choicePrice 12 m_choicePrice, aI E.I q_m_choiceHolds 12 m_choiceHolds, aI E.I q_m_choiceShows 12 m_choiceShows, aJ E.J q_m_slip 5 m_slip, aJ E.J q_m_shear 5 m_shear, aJ E.J q_m_pulled 5 m_pulled, aJ E.J q_m_plain 5 m_plain, aJ E.J q_m_byFirst 5 m_byFirst, aJ E.J q_m_sumPlain 5 m_sumPlain, aJ E.J q_m_sumFirst 5 m_sumFirst, aI E.I q_m_next 10 m_next, aI E.I q_m_order 7 m_order, aI E.I q_m_bestOrder 7 m_bestOrder, aI E.I q_m_begins 7 m_begins, aI E.I q_m_bestBegins 7 m_bestBegins, aI E.I q_m_free 3 m_free, aI E.I q_m_ways 4 m_ways, aI E.I q_m_then 4 m_then]
abbrev lapC (E : gE) (a : Nat) (q : Nat → Nat) (c : Nat → Nat → Int32) (s : Nat → Int32) : va_W := [ob 5 a [.ref (q 0), .ref (q 1), .ref (q 2), .ref (q 3), .ref (q 4), .ref (q 5), .int (s 0), .int (s 1)], aI E.I (q 0) 5 (c 0), aI E.I (q 1) 5 (c 1), aI E.I (q 2) 5 (c 2), aI E.I (q 3) 5 (c 3), aI E.I (q 4) 5 (c 4), aI E.I (q 5) 10 (c 5)]
def lapS (E : gE) (laps : Nat → Option Nat) (LQ : Nat → Nat → Nat) (LI : Nat → Nat → Nat → Int32) (LS : Nat → Nat → Int32) (k : Nat) : va_W := match laps k with
  | none => []
  | some a => lapC E a (LQ k) (LI k) (LS k)
def lapW (E : gE) (laps : Nat → Option Nat) (LQ : Nat → Nat → Nat) (LI : Nat → Nat → Nat → Int32) (LS : Nat → Nat → Int32) : va_W := lapS E laps LQ LI LS 0 ++ (lapS E laps LQ LI LS 1 ++ (lapS E laps LQ LI LS 2 ++ (lapS E laps LQ LI LS 3 ++ (lapS E laps LQ LI LS 4 ++ lapS E laps LQ LI LS 5))))
def lapZ (S : Nat → va_W) (k j : Nat) : va_W := if j = k then [] else S j
def lapX (E : gE) (laps : Nat → Option Nat) (LQ : Nat → Nat → Nat) (LI : Nat → Nat → Nat → Int32) (LS : Nat → Nat → Int32) (k : Nat) : va_W := lapZ (lapS E laps LQ LI LS) k 0 ++ (lapZ (lapS E laps LQ LI LS) k 1 ++ (lapZ (lapS E laps LQ LI LS) k 2 ++ (lapZ (lapS E laps LQ LI LS) k 3 ++ (lapZ (lapS E laps LQ LI LS) k 4 ++ lapZ (lapS E laps LQ LI LS) k 5))))
theorem pm_s1 {α : Type} (a b : List α) : (a ++ b).Perm (b ++ a) := List.perm_append_comm
theorem pm_up {α : Type} (a b c r : List α) (h : r.Perm (b ++ c)) : (a ++ r).Perm (b ++ (a ++ c)) := (h.append_left a).trans (pm_sw a b c)
theorem lap_out (E : gE) (laps : Nat → Option Nat) (LQ : Nat → Nat → Nat) (LI : Nat → Nat → Nat → Int32) (LS : Nat → Nat → Int32) {k : Nat} (hk : k < 6) : (lapW E laps LQ LI LS).Perm (lapS E laps LQ LI LS k ++ lapX E laps LQ LI LS k) := by
  unfold lapW lapX
  rcases (show k = 0 ∨ k = 1 ∨ k = 2 ∨ k = 3 ∨ k = 4 ∨ k = 5 by omega) with rfl | rfl | rfl | rfl | rfl | rfl
  · exact List.Perm.refl _
  · exact pm_sw _ _ _
  · exact pm_up _ _ _ _ (pm_sw _ _ _)
  · exact pm_up _ _ _ _ (pm_up _ _ _ _ (pm_sw _ _ _))
  · exact pm_up _ _ _ _ (pm_up _ _ _ _ (pm_up _ _ _ _ (pm_sw _ _ _)))
  · refine pm_up _ _ _ _ (pm_up _ _ _ _ (pm_up _ _ _ _ (pm_up _ _ _ _ ?_)))
    show List.Perm (_ ++ _) (_ ++ (_ ++ []))
    rw [List.append_nil]
    exact List.perm_append_comm
theorem lap_same {E : gE} {laps laps' : Nat → Option Nat} {LQ LQ' : Nat → Nat → Nat} {LI LI' : Nat → Nat → Nat → Int32} {LS LS' : Nat → Nat → Int32} {k : Nat} (h : ∀ j, j ≠ k → laps' j = laps j ∧ LQ' j = LQ j ∧ LI' j = LI j ∧ LS' j = LS j) : lapX E laps' LQ' LI' LS' k = lapX E laps LQ LI LS k := by
  have key : ∀ j, lapZ (lapS E laps' LQ' LI' LS') k j = lapZ (lapS E laps LQ LI LS) k j := by
    intro j
    unfold lapZ
    by_cases hj : j = k
    · rw [if_pos hj, if_pos hj]
    · rw [if_neg hj, if_neg hj]
      obtain ⟨h1, h2, h3, h4⟩ := h j hj
      unfold lapS
      rw [h1, h2, h3, h4]
  unfold lapX
  rw [key, key, key, key, key, key]
theorem lapS_some {E : gE} {laps : Nat → Option Nat} {LQ : Nat → Nat → Nat} {LI : Nat → Nat → Nat → Int32} {LS : Nat → Nat → Int32} {k a : Nat} (h : laps k = some a) : lapS E laps LQ LI LS k = lapC E a (LQ k) (LI k) (LS k) := by
  unfold lapS
  rw [h]
theorem lapS_none {E : gE} {laps : Nat → Option Nat} {LQ : Nat → Nat → Nat} {LI : Nat → Nat → Nat → Int32} {LS : Nat → Nat → Int32} {k : Nat} (h : laps k = none) : lapS E laps LQ LI LS k = [] := by
  unfold lapS
  rw [h]
theorem pm_mix {α : Type} {A B a a' b b' D : List α} (hA : A.Perm (a ++ a')) (hB : B.Perm (b ++ b')) : (A ++ (B ++ D)).Perm (a ++ (b ++ (a' ++ (b' ++ D)))) := by
  refine (List.Perm.append hA (hB.append_right D)).trans ?_
  rw [List.append_assoc, List.append_assoc]
  refine List.Perm.append_left a ?_
  exact pm_sw a' b (b' ++ D)
/-- a lap's cells beside the class' own -/
theorem pm_lap {α : Type} {A B W C D : List α} (h : W.Perm (C ++ D)) : (A ++ (B ++ W)).Perm ((A ++ C) ++ (B ++ D)) := by
  rw [List.append_assoc]
  exact List.Perm.append_left A (pm_up B C D W h)
def up6 (g u n k r c : Nat → Int32) : Nat → Nat → Int32 := fun j => match j with
  | 0 => g
  | 1 => u
  | 2 => n
  | 3 => k
  | 4 => r
  | _ => c
def up2 (s c : Int32) : Nat → Int32 := fun j => match j with
  | 0 => s
  | _ => c
def uq6 (g u n k r c : Nat) : Nat → Nat := fun j => match j with
  | 0 => g
  | 1 => u
  | 2 => n
  | 3 => k
  | 4 => r
  | _ => c
