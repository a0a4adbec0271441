theorem b_spot_N (p0 : Int32) (p1 : Int32) (p2 : Int32) (t_spots : Nat → Int32) (t_stiff : Nat → Int32) (t_upper : Nat → Int32) (t_lower : Nat → Int32) (t_effort : Nat → Int32) (t_wear : Nat → Int32) {laps : Nat → Option Nat} (hx : ∀ k, k < 6 → p0 = nI k → laps k = none) (hm : ∀ k, k < 6 → p0 = nI k → t_spots k = 0) (K : Prop) (hK : K ) : w_X9_spot_N p0 p1 p2 laps (fun (r : Int32) => w_X10_spot p0 p1 p2 t_spots t_stiff t_upper t_lower t_effort t_wear (fun (r2 : Int32)  => r = r2 ∧ K )) := by
  unfold w_X9_spot_N
  have h9 : w_X10_spot p0 p1 p2 t_spots t_stiff t_upper t_lower t_effort t_wear (fun (r2 : Int32)  => (-1) = r2 ∧ K ) := by
    unfold w_X10_spot
    refine y_spotN hm ?_
    first
      | exact bF2 ⟨rfl, hK⟩
      | exact bF1 ⟨rfl, hK⟩
  exact x_lapN hx (h9)
theorem b_glue_N (p0 : Int32) (p1 : Int32) (p2 : Int32) (t_spots : Nat → Int32) (t_stiff : Nat → Int32) {laps : Nat → Option Nat} (hx : ∀ k, k < 6 → p0 = nI k → laps k = none) (hm : ∀ k, k < 6 → p0 = nI k → t_spots k = 0) (K : (Nat → Int32) → Prop) (hK : K t_stiff) : w_X9_glue_N p0 p1 p2 laps (fun (r : Int32) => w_X10_glue p0 p1 p2 t_spots t_stiff (fun (r2 : Int32) (m0 : Nat → Int32) => r = r2 ∧ K m0)) := by
  unfold w_X9_glue_N
  have h9 : w_X10_glue p0 p1 p2 t_spots t_stiff (fun (r2 : Int32) (m0 : Nat → Int32) => (-1) = r2 ∧ K m0) := by
    unfold w_X10_glue
    refine y_spotN hm ?_
    first
      | exact bF2 ⟨rfl, hK⟩
      | exact bF1 ⟨rfl, hK⟩
  exact x_lapN hx (h9)
theorem b_work_N (p0 : Int32) (p1 : Int32) (p2 : Int32) (t_spots : Nat → Int32) (t_effort : Nat → Int32) {laps : Nat → Option Nat} (hx : ∀ k, k < 6 → p0 = nI k → laps k = none) (hm : ∀ k, k < 6 → p0 = nI k → t_spots k = 0) (K : (Nat → Int32) → Prop) (hK : K t_effort) : w_X9_work_N p0 p1 p2 laps (fun (r : Int32) => w_X10_work p0 p1 p2 t_spots t_effort (fun (r2 : Int32) (m0 : Nat → Int32) => r = r2 ∧ K m0)) := by
  unfold w_X9_work_N
  have h9 : w_X10_work p0 p1 p2 t_spots t_effort (fun (r2 : Int32) (m0 : Nat → Int32) => (-1) = r2 ∧ K m0) := by
    unfold w_X10_work
    refine y_spotN hm ?_
    first
      | exact bF2 ⟨rfl, hK⟩
      | exact bF1 ⟨rfl, hK⟩
  exact x_lapN hx (h9)
theorem b_pull_N (p0 : Int32) (p1 : Int32) (p2 : Int32) (p3 : Int32) (t_low : Int64) (t_gives : Int64) (t_spots : Nat → Int32) (t_stiff : Nat → Int32) (t_plain : Nat → Int64) (t_byFirst : Nat → Int64) (t_slip : Nat → Int64) (t_shear : Nat → Int64) (t_sumPlain : Nat → Int64) (t_sumFirst : Nat → Int64) (t_pulled : Nat → Int64) (t_upper : Nat → Int32) (t_lower : Nat → Int32) {laps : Nat → Option Nat} (hx : ∀ k, k < 6 → p0 = nI k → laps k = none) (hm : ∀ k, k < 6 → p0 = nI k → t_spots k = 0) (K : Int64 → Int64 → (Nat → Int64) → (Nat → Int64) → (Nat → Int64) → (Nat → Int64) → (Nat → Int64) → (Nat → Int64) → (Nat → Int64) → Prop) (hK : K t_low t_gives t_slip t_shear t_pulled t_plain t_byFirst t_sumPlain t_sumFirst) : w_X9_pull_N p0 p1 p2 p3 laps (fun (r : Int64) => w_X10_pull p0 p1 p2 p3 t_low t_gives t_spots t_stiff t_plain t_byFirst t_slip t_shear t_sumPlain t_sumFirst t_pulled t_upper t_lower (fun (r2 : Int64) (m0 : Int64) (m1 : Int64) (m2 : Nat → Int64) (m3 : Nat → Int64) (m4 : Nat → Int64) (m5 : Nat → Int64) (m6 : Nat → Int64) (m7 : Nat → Int64) (m8 : Nat → Int64) => r = r2 ∧ K m0 m1 m2 m3 m4 m5 m6 m7 m8)) := by
  unfold w_X9_pull_N
  have h9 : w_X10_pull p0 p1 p2 p3 t_low t_gives t_spots t_stiff t_plain t_byFirst t_slip t_shear t_sumPlain t_sumFirst t_pulled t_upper t_lower (fun (r2 : Int64) (m0 : Int64) (m1 : Int64) (m2 : Nat → Int64) (m3 : Nat → Int64) (m4 : Nat → Int64) (m5 : Nat → Int64) (m6 : Nat → Int64) (m7 : Nat → Int64) (m8 : Nat → Int64) => (-1000000000000000001) = r2 ∧ K m0 m1 m2 m3 m4 m5 m6 m7 m8) := by
    unfold w_X10_pull
    refine y_spotN hm ?_
    first
      | exact bF2 ⟨rfl, hK⟩
      | exact bF1 ⟨rfl, hK⟩
  exact x_lapN hx (h9)
theorem b_give_N (p0 : Int32) (p1 : Int32) (t_low : Int64) (t_gives : Int64) (t_spots : Nat → Int32) (t_stiff : Nat → Int32) (t_plain : Nat → Int64) (t_byFirst : Nat → Int64) (t_slip : Nat → Int64) (t_shear : Nat → Int64) (t_sumPlain : Nat → Int64) (t_sumFirst : Nat → Int64) (t_pulled : Nat → Int64) (t_upper : Nat → Int32) (t_lower : Nat → Int32) {laps : Nat → Option Nat} (hx : ∀ k, k < 6 → p0 = nI k → laps k = none) (hm : ∀ k, k < 6 → p0 = nI k → t_spots k = 0) (K : Int64 → Int64 → (Nat → Int64) → (Nat → Int64) → (Nat → Int64) → (Nat → Int64) → (Nat → Int64) → (Nat → Int64) → (Nat → Int64) → Prop) (hK : K t_low t_gives t_slip t_shear t_pulled t_plain t_byFirst t_sumPlain t_sumFirst) : w_X9_give_N p0 p1 laps (fun (r : Int64) => w_X10_give p0 p1 t_low t_gives t_spots t_stiff t_plain t_byFirst t_slip t_shear t_sumPlain t_sumFirst t_pulled t_upper t_lower (fun (r2 : Int64) (m0 : Int64) (m1 : Int64) (m2 : Nat → Int64) (m3 : Nat → Int64) (m4 : Nat → Int64) (m5 : Nat → Int64) (m6 : Nat → Int64) (m7 : Nat → Int64) (m8 : Nat → Int64) => r = r2 ∧ K m0 m1 m2 m3 m4 m5 m6 m7 m8)) := by
  unfold w_X9_give_N
  have h9 : w_X10_give p0 p1 t_low t_gives t_spots t_stiff t_plain t_byFirst t_slip t_shear t_sumPlain t_sumFirst t_pulled t_upper t_lower (fun (r2 : Int64) (m0 : Int64) (m1 : Int64) (m2 : Nat → Int64) (m3 : Nat → Int64) (m4 : Nat → Int64) (m5 : Nat → Int64) (m6 : Nat → Int64) (m7 : Nat → Int64) (m8 : Nat → Int64) => (-1000000000000000001) = r2 ∧ K m0 m1 m2 m3 m4 m5 m6 m7 m8) := by
    unfold w_X10_give
    refine y_lapN hm ?_
    first
      | exact bF2 ⟨rfl, hK⟩
      | exact bF1 ⟨rfl, hK⟩
  exact x_lapN hx (h9)
theorem b_hardest_N (p0 : Int32) (t_low : Int64) (t_gives : Int64) (t_spots : Nat → Int32) (t_stiff : Nat → Int32) (t_plain : Nat → Int64) (t_byFirst : Nat → Int64) (t_slip : Nat → Int64) (t_shear : Nat → Int64) (t_sumPlain : Nat → Int64) (t_sumFirst : Nat → Int64) (t_pulled : Nat → Int64) (t_upper : Nat → Int32) (t_lower : Nat → Int32) {laps : Nat → Option Nat} (hx : ∀ k, k < 6 → p0 = nI k → laps k = none) (hm : ∀ k, k < 6 → p0 = nI k → t_spots k = 0) (K : Int64 → Int64 → (Nat → Int64) → (Nat → Int64) → (Nat → Int64) → (Nat → Int64) → (Nat → Int64) → (Nat → Int64) → (Nat → Int64) → Prop) (hK : K t_low t_gives t_slip t_shear t_pulled t_plain t_byFirst t_sumPlain t_sumFirst) : w_X9_hardest_N p0 laps (fun (r : Int32) => w_X10_hardest p0 t_low t_gives t_spots t_stiff t_plain t_byFirst t_slip t_shear t_sumPlain t_sumFirst t_pulled t_upper t_lower (fun (r2 : Int32) (m0 : Int64) (m1 : Int64) (m2 : Nat → Int64) (m3 : Nat → Int64) (m4 : Nat → Int64) (m5 : Nat → Int64) (m6 : Nat → Int64) (m7 : Nat → Int64) (m8 : Nat → Int64) => r = r2 ∧ K m0 m1 m2 m3 m4 m5 m6 m7 m8)) := by
  unfold w_X9_hardest_N
  have h9 : w_X10_hardest p0 t_low t_gives t_spots t_stiff t_plain t_byFirst t_slip t_shear t_sumPlain t_sumFirst t_pulled t_upper t_lower (fun (r2 : Int32) (m0 : Int64) (m1 : Int64) (m2 : Nat → Int64) (m3 : Nat → Int64) (m4 : Nat → Int64) (m5 : Nat → Int64) (m6 : Nat → Int64) (m7 : Nat → Int64) (m8 : Nat → Int64) => (-1) = r2 ∧ K m0 m1 m2 m3 m4 m5 m6 m7 m8) := by
    unfold w_X10_hardest
    refine y_lapN hm ?_
    first
      | exact bF2 ⟨rfl, hK⟩
      | exact bF1 ⟨rfl, hK⟩
  exact x_lapN hx (h9)
theorem b_back_N (p0 : Int32) (p1 : Int32) (p2 : Int32) (p3 : Int32) (t_low : Int64) (t_gives : Int64) (t_backUp : Int64) (t_backLow : Int64) (t_spots : Nat → Int32) (t_stiff : Nat → Int32) (t_plain : Nat → Int64) (t_byFirst : Nat → Int64) (t_slip : Nat → Int64) (t_shear : Nat → Int64) (t_sumPlain : Nat → Int64) (t_sumFirst : Nat → Int64) (t_pulled : Nat → Int64) (t_upper : Nat → Int32) (t_lower : Nat → Int32) {laps : Nat → Option Nat} (hx : ∀ k, k < 6 → p0 = nI k → laps k = none) (hm : ∀ k, k < 6 → p0 = nI k → t_spots k = 0) (K : Int64 → Int64 → (Nat → Int64) → (Nat → Int64) → (Nat → Int64) → (Nat → Int64) → (Nat → Int64) → (Nat → Int64) → (Nat → Int64) → Int64 → Int64 → Prop) (hK : K t_low t_gives t_slip t_shear t_pulled t_plain t_byFirst t_sumPlain t_sumFirst t_backUp t_backLow) : w_X9_back_N p0 p1 p2 p3 laps (fun (r : Int64) => w_X10_back p0 p1 p2 p3 t_low t_gives t_backUp t_backLow t_spots t_stiff t_plain t_byFirst t_slip t_shear t_sumPlain t_sumFirst t_pulled t_upper t_lower (fun (r2 : Int64) (m0 : Int64) (m1 : Int64) (m2 : Nat → Int64) (m3 : Nat → Int64) (m4 : Nat → Int64) (m5 : Nat → Int64) (m6 : Nat → Int64) (m7 : Nat → Int64) (m8 : Nat → Int64) (m9 : Int64) (m10 : Int64) => r = r2 ∧ K m0 m1 m2 m3 m4 m5 m6 m7 m8 m9 m10)) := by
  unfold w_X9_back_N
  have h9 : w_X10_back p0 p1 p2 p3 t_low t_gives t_backUp t_backLow t_spots t_stiff t_plain t_byFirst t_slip t_shear t_sumPlain t_sumFirst t_pulled t_upper t_lower (fun (r2 : Int64) (m0 : Int64) (m1 : Int64) (m2 : Nat → Int64) (m3 : Nat → Int64) (m4 : Nat → Int64) (m5 : Nat → Int64) (m6 : Nat → Int64) (m7 : Nat → Int64) (m8 : Nat → Int64) (m9 : Int64) (m10 : Int64) => (-1000000000000000001) = r2 ∧ K m0 m1 m2 m3 m4 m5 m6 m7 m8 m9 m10) := by
    unfold w_X10_back
    refine y_spotN hm ?_
    first
      | exact bF2 ⟨rfl, hK⟩
      | exact bF1 ⟨rfl, hK⟩
  exact x_lapN hx (h9)
theorem b_spreads_N (p0 : Int32) (p1 : Int32) (t_low : Int64) (t_gives : Int64) (t_backUp : Int64) (t_backLow : Int64) (t_spots : Nat → Int32) (t_stiff : Nat → Int32) (t_plain : Nat → Int64) (t_byFirst : Nat → Int64) (t_slip : Nat → Int64) (t_shear : Nat → Int64) (t_sumPlain : Nat → Int64) (t_sumFirst : Nat → Int64) (t_pulled : Nat → Int64) (t_upper : Nat → Int32) (t_lower : Nat → Int32) (t_effort : Nat → Int32) {laps : Nat → Option Nat} (hx : ∀ k, k < 6 → p0 = nI k → laps k = none) (hm : ∀ k, k < 6 → p0 = nI k → t_spots k = 0) (K : Int64 → Int64 → (Nat → Int64) → (Nat → Int64) → (Nat → Int64) → (Nat → Int64) → (Nat → Int64) → (Nat → Int64) → (Nat → Int64) → Int64 → Int64 → Prop) (hK : K t_low t_gives t_slip t_shear t_pulled t_plain t_byFirst t_sumPlain t_sumFirst t_backUp t_backLow) : w_X9_spreads_N p0 p1 laps (fun (r : Int32) => w_X10_spreads p0 p1 t_low t_gives t_backUp t_backLow t_spots t_stiff t_plain t_byFirst t_slip t_shear t_sumPlain t_sumFirst t_pulled t_upper t_lower t_effort (fun (r2 : Int32) (m0 : Int64) (m1 : Int64) (m2 : Nat → Int64) (m3 : Nat → Int64) (m4 : Nat → Int64) (m5 : Nat → Int64) (m6 : Nat → Int64) (m7 : Nat → Int64) (m8 : Nat → Int64) (m9 : Int64) (m10 : Int64) => r = r2 ∧ K m0 m1 m2 m3 m4 m5 m6 m7 m8 m9 m10)) := by
  unfold w_X9_spreads_N
  have h9 : w_X10_spreads p0 p1 t_low t_gives t_backUp t_backLow t_spots t_stiff t_plain t_byFirst t_slip t_shear t_sumPlain t_sumFirst t_pulled t_upper t_lower t_effort (fun (r2 : Int32) (m0 : Int64) (m1 : Int64) (m2 : Nat → Int64) (m3 : Nat → Int64) (m4 : Nat → Int64) (m5 : Nat → Int64) (m6 : Nat → Int64) (m7 : Nat → Int64) (m8 : Nat → Int64) (m9 : Int64) (m10 : Int64) => (-1) = r2 ∧ K m0 m1 m2 m3 m4 m5 m6 m7 m8 m9 m10) := by
    unfold w_X10_spreads
    refine y_lapN hm ?_
    first
      | exact bF2 ⟨rfl, hK⟩
      | exact bF1 ⟨rfl, hK⟩
  exact x_lapN hx (by unfold w_X9_refusalOfPull_N; exact cF (by decide) h9)
theorem b_first_N (p0 : Int32) (t_low : Int64) (t_gives : Int64) (t_backUp : Int64) (t_backLow : Int64) (t_spots : Nat → Int32) (t_stiff : Nat → Int32) (t_plain : Nat → Int64) (t_byFirst : Nat → Int64) (t_slip : Nat → Int64) (t_shear : Nat → Int64) (t_sumPlain : Nat → Int64) (t_sumFirst : Nat → Int64) (t_pulled : Nat → Int64) (t_upper : Nat → Int32) (t_lower : Nat → Int32) (t_effort : Nat → Int32) {laps : Nat → Option Nat} (hx : ∀ k, k < 6 → p0 = nI k → laps k = none) (hm : ∀ k, k < 6 → p0 = nI k → t_spots k = 0) (K : Int64 → Int64 → (Nat → Int64) → (Nat → Int64) → (Nat → Int64) → (Nat → Int64) → (Nat → Int64) → (Nat → Int64) → (Nat → Int64) → Int64 → Int64 → Prop) (hK : K t_low t_gives t_slip t_shear t_pulled t_plain t_byFirst t_sumPlain t_sumFirst t_backUp t_backLow) : w_X9_first_N p0 laps (fun (r : Int32) => w_X10_first p0 t_low t_gives t_backUp t_backLow t_spots t_stiff t_plain t_byFirst t_slip t_shear t_sumPlain t_sumFirst t_pulled t_upper t_lower t_effort (fun (r2 : Int32) (m0 : Int64) (m1 : Int64) (m2 : Nat → Int64) (m3 : Nat → Int64) (m4 : Nat → Int64) (m5 : Nat → Int64) (m6 : Nat → Int64) (m7 : Nat → Int64) (m8 : Nat → Int64) (m9 : Int64) (m10 : Int64) => r = r2 ∧ K m0 m1 m2 m3 m4 m5 m6 m7 m8 m9 m10)) := by
  unfold w_X9_first_N
  have h9 : w_X10_first p0 t_low t_gives t_backUp t_backLow t_spots t_stiff t_plain t_byFirst t_slip t_shear t_sumPlain t_sumFirst t_pulled t_upper t_lower t_effort (fun (r2 : Int32) (m0 : Int64) (m1 : Int64) (m2 : Nat → Int64) (m3 : Nat → Int64) (m4 : Nat → Int64) (m5 : Nat → Int64) (m6 : Nat → Int64) (m7 : Nat → Int64) (m8 : Nat → Int64) (m9 : Int64) (m10 : Int64) => (-1) = r2 ∧ K m0 m1 m2 m3 m4 m5 m6 m7 m8 m9 m10) := by
    unfold w_X10_first
    refine y_lapN hm ?_
    first
      | exact bF2 ⟨rfl, hK⟩
      | exact bF1 ⟨rfl, hK⟩
  exact x_lapN hx (h9)
theorem b_snap_N (p0 : Int32) (p1 : Int32) (t_low : Int64) (t_gives : Int64) (t_backUp : Int64) (t_backLow : Int64) (t_spots : Nat → Int32) (t_stiff : Nat → Int32) (t_plain : Nat → Int64) (t_byFirst : Nat → Int64) (t_slip : Nat → Int64) (t_shear : Nat → Int64) (t_sumPlain : Nat → Int64) (t_sumFirst : Nat → Int64) (t_pulled : Nat → Int64) (t_upper : Nat → Int32) (t_lower : Nat → Int32) (t_effort : Nat → Int32) {laps : Nat → Option Nat} (hx : ∀ k, k < 6 → p0 = nI k → laps k = none) (hm : ∀ k, k < 6 → p0 = nI k → t_spots k = 0) (K : Int64 → Int64 → (Nat → Int64) → (Nat → Int64) → (Nat → Int64) → (Nat → Int64) → (Nat → Int64) → (Nat → Int64) → (Nat → Int64) → Int64 → Int64 → (Nat → Int32) → Prop) (hK : K t_low t_gives t_slip t_shear t_pulled t_plain t_byFirst t_sumPlain t_sumFirst t_backUp t_backLow t_stiff) : w_X9_snap_N p0 p1 laps (fun (r : Int32) => w_X10_snap p0 p1 t_low t_gives t_backUp t_backLow t_spots t_stiff t_plain t_byFirst t_slip t_shear t_sumPlain t_sumFirst t_pulled t_upper t_lower t_effort (fun (r2 : Int32) (m0 : Int64) (m1 : Int64) (m2 : Nat → Int64) (m3 : Nat → Int64) (m4 : Nat → Int64) (m5 : Nat → Int64) (m6 : Nat → Int64) (m7 : Nat → Int64) (m8 : Nat → Int64) (m9 : Int64) (m10 : Int64) (m11 : Nat → Int32) => r = r2 ∧ K m0 m1 m2 m3 m4 m5 m6 m7 m8 m9 m10 m11)) := by
  unfold w_X9_snap_N
  have h9 : w_X10_snap p0 p1 t_low t_gives t_backUp t_backLow t_spots t_stiff t_plain t_byFirst t_slip t_shear t_sumPlain t_sumFirst t_pulled t_upper t_lower t_effort (fun (r2 : Int32) (m0 : Int64) (m1 : Int64) (m2 : Nat → Int64) (m3 : Nat → Int64) (m4 : Nat → Int64) (m5 : Nat → Int64) (m6 : Nat → Int64) (m7 : Nat → Int64) (m8 : Nat → Int64) (m9 : Int64) (m10 : Int64) (m11 : Nat → Int32) => (-1) = r2 ∧ K m0 m1 m2 m3 m4 m5 m6 m7 m8 m9 m10 m11) := by
    unfold w_X10_snap
    refine y_lapN hm ?_
    first
      | exact bF2 ⟨rfl, hK⟩
      | exact bF1 ⟨rfl, hK⟩
  exact x_lapN hx (by unfold w_X9_refusalOfPull_N; exact cF (by decide) h9)
theorem b_rounds_N (p0 : Int32) (p1 : Int32) (p2 : Int32) (t_low : Int64) (t_gives : Int64) (t_spots : Nat → Int32) (t_stiff : Nat → Int32) (t_plain : Nat → Int64) (t_byFirst : Nat → Int64) (t_slip : Nat → Int64) (t_shear : Nat → Int64) (t_sumPlain : Nat → Int64) (t_sumFirst : Nat → Int64) (t_pulled : Nat → Int64) (t_upper : Nat → Int32) (t_lower : Nat → Int32) (t_wear : Nat → Int32) (t_told : Nat → Int32) {laps : Nat → Option Nat} (hx : ∀ k, k < 6 → p0 = nI k → laps k = none) (hm : ∀ k, k < 6 → p0 = nI k → t_spots k = 0) (K : Int64 → Int64 → (Nat → Int64) → (Nat → Int64) → (Nat → Int64) → (Nat → Int64) → (Nat → Int64) → (Nat → Int64) → (Nat → Int64) → (Nat → Int32) → (Nat → Int32) → Prop) (hK : K t_low t_gives t_slip t_shear t_pulled t_plain t_byFirst t_sumPlain t_sumFirst t_stiff t_wear) : w_X9_rounds_N p0 p1 p2 laps (fun (r : Int32) => w_X10_rounds p0 p1 p2 t_low t_gives t_spots t_stiff t_plain t_byFirst t_slip t_shear t_sumPlain t_sumFirst t_pulled t_upper t_lower t_wear t_told (fun (r2 : Int32) (m0 : Int64) (m1 : Int64) (m2 : Nat → Int64) (m3 : Nat → Int64) (m4 : Nat → Int64) (m5 : Nat → Int64) (m6 : Nat → Int64) (m7 : Nat → Int64) (m8 : Nat → Int64) (m9 : Nat → Int32) (m10 : Nat → Int32) => r = r2 ∧ K m0 m1 m2 m3 m4 m5 m6 m7 m8 m9 m10)) := by
  unfold w_X9_rounds_N
  have h9 : w_X10_rounds p0 p1 p2 t_low t_gives t_spots t_stiff t_plain t_byFirst t_slip t_shear t_sumPlain t_sumFirst t_pulled t_upper t_lower t_wear t_told (fun (r2 : Int32) (m0 : Int64) (m1 : Int64) (m2 : Nat → Int64) (m3 : Nat → Int64) (m4 : Nat → Int64) (m5 : Nat → Int64) (m6 : Nat → Int64) (m7 : Nat → Int64) (m8 : Nat → Int64) (m9 : Nat → Int32) (m10 : Nat → Int32) => (-1) = r2 ∧ K m0 m1 m2 m3 m4 m5 m6 m7 m8 m9 m10) := by
    unfold w_X10_rounds
    refine y_lapN hm ?_
    first
      | exact bF2 ⟨rfl, hK⟩
      | exact bF1 ⟨rfl, hK⟩
  exact x_lapN hx (by rw [e_within]; unfold w_X9_refusalOfPull_N; exact cF (by decide) h9)
theorem b_damp_N (p0 : Int32) (p1 : Int32) (p2 : Int32) (t_spots : Nat → Int32) (t_wet : Nat → Int32) {laps : Nat → Option Nat} (hx : ∀ k, k < 6 → p0 = nI k → laps k = none) (hm : ∀ k, k < 6 → p0 = nI k → t_spots k = 0) (K : (Nat → Int32) → Prop) (hK : K t_wet) : w_X9_damp_N p0 p1 p2 laps (fun (r : Int32) => w_X10_damp p0 p1 p2 t_spots t_wet (fun (r2 : Int32) (m0 : Nat → Int32) => r = r2 ∧ K m0)) := by
  unfold w_X9_damp_N
  have h9 : w_X10_damp p0 p1 p2 t_spots t_wet (fun (r2 : Int32) (m0 : Nat → Int32) => (-1) = r2 ∧ K m0) := by
    unfold w_X10_damp
    refine y_lapN hm ?_
    first
      | exact bF2 ⟨rfl, hK⟩
      | exact bF1 ⟨rfl, hK⟩
  exact x_lapN hx (h9)
theorem b_hours_N (p0 : Int32) (p1 : Int32) (t_spots : Nat → Int32) (t_cure : Nat → Int32) (t_told : Nat → Int32) (t_rates : Nat → Int32) (t_next : Nat → Int32) (t_wet : Nat → Int32) {laps : Nat → Option Nat} (hx : ∀ k, k < 6 → p0 = nI k → laps k = none) (hm : ∀ k, k < 6 → p0 = nI k → t_spots k = 0) (K : (Nat → Int32) → (Nat → Int32) → (Nat → Int32) → Prop) (hK : K t_cure t_wet t_next) : w_X9_hours_N p0 p1 laps (fun (r : Int32) => w_X10_hours p0 p1 t_spots t_cure t_told t_rates t_next t_wet (fun (r2 : Int32) (m0 : Nat → Int32) (m1 : Nat → Int32) (m2 : Nat → Int32) => r = r2 ∧ K m0 m1 m2)) := by
  unfold w_X9_hours_N
  have h9 : w_X10_hours p0 p1 t_spots t_cure t_told t_rates t_next t_wet (fun (r2 : Int32) (m0 : Nat → Int32) (m1 : Nat → Int32) (m2 : Nat → Int32) => (-1) = r2 ∧ K m0 m1 m2) := by
    unfold w_X10_hours
    refine y_lapN hm ?_
    first
      | exact bF2 ⟨rfl, hK⟩
      | exact bF1 ⟨rfl, hK⟩
  exact x_lapN hx (h9)
theorem b_of_N (p0 : Int32) (p1 : Int32) (t_spots : Nat → Int32) (t_cure : Nat → Int32) (t_stiff : Nat → Int32) (t_wet : Nat → Int32) {laps : Nat → Option Nat} (hx : ∀ k, k < 6 → p0 = nI k → laps k = none) (hm : ∀ k, k < 6 → p0 = nI k → t_spots k = 0) (K : Prop) (hK : K ) : w_X9_of_N p0 p1 laps (fun (r : Int32) => w_X10_of p0 p1 t_spots t_cure t_stiff t_wet (fun (r2 : Int32)  => r = r2 ∧ K )) := by
  unfold w_X9_of_N
  have h9 : w_X10_of p0 p1 t_spots t_cure t_stiff t_wet (fun (r2 : Int32)  => (-1) = r2 ∧ K ) := by
    unfold w_X10_of
    refine y_lapN hm ?_
    first
      | exact bF2 ⟨rfl, hK⟩
      | exact bF1 ⟨rfl, hK⟩
  exact x_lapN hx (h9)
theorem b_led_N (p0 : Int32) (p1 : Int32) (p2 : Int32) (p3 : Int32) (p4 : Int32) (p5 : Int32) (t_spots : Nat → Int32) (t_cure : Nat → Int32) (t_wet : Nat → Int32) {laps : Nat → Option Nat} (hx : ∀ k, k < 6 → p0 = nI k → laps k = none) (hm : ∀ k, k < 6 → p0 = nI k → t_spots k = 0) (K : Prop) (hK : K ) : w_X9_led_N p0 p1 p2 p3 p4 p5 laps (fun (r : Int32) => w_X10_led p0 p1 p2 p3 p4 p5 t_spots t_cure t_wet (fun (r2 : Int32)  => r = r2 ∧ K )) := by
  unfold w_X9_led_N
  have h9 : w_X10_led p0 p1 p2 p3 p4 p5 t_spots t_cure t_wet (fun (r2 : Int32)  => (-1) = r2 ∧ K ) := by
    unfold w_X10_led
    refine y_lapN hm ?_
    first
      | exact bF2 ⟨rfl, hK⟩
      | exact bF1 ⟨rfl, hK⟩
  exact x_lapN hx (h9)
