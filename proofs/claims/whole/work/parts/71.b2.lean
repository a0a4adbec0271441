theorem j_if {c : Prop} [Decidable c] {α : Type} {J : α → Prop} {a b : α} (h : J (if c then a else b)) : (c → J a) ∧ (¬ c → J b) := by
  by_cases hc : c
  · rw [if_pos hc] at h; exact cT hc h
  · rw [if_neg hc] at h; exact cF hc h
theorem j_if' {c : Prop} [Decidable c] {α : Type} {J : α → Prop} {a b : α} (h : J (if c then b else a)) : (¬ c → J a) ∧ (c → J b) := by
  by_cases hc : c
  · rw [if_pos hc] at h; exact cT' hc h
  · rw [if_neg hc] at h; exact cF' hc h
/-! knocks -/
def RK (heard sound sheetOf sheetAt soundOf sounds : Nat → Int32) : Prop := (∀ j, j < 10 → (heard j = -1 ∧ sound j = -6) ∨ (∃ h : Nat, h ≤ 9 ∧ heard j = nI h ∧ sound j = nI h)) ∧ (∀ j, j < 10 → ∃ s : Nat, s < 4 ∧ sheetOf j = nI s ∧ sheetAt j = nI s) ∧ (∀ j, j < 16 → sounds j = soundOf j)
theorem b_knock {p v : Int32} {heard sound so sa sd ss : Nat → Int32} (h : RK heard sound so sa sd ss) (K : (Nat → Int32) → (Nat → Int32) → Prop) (hK : ∀ heard' sound', RK heard' sound' so sa sd ss → K heard' sound') : w_X9_knock p v heard (fun r heard' => w_X10_knock p v sound (fun r2 sound' => r = r2 ∧ K heard' sound')) := by
  have e9 : nI 10 - 1 = (9 : Int32) := by decide
  simp only [w_X9_knock, w_X9_put, w_X10_knock, e_within, e_in, e9, forall_eq]
  cases hp : rng p 0 9 <;> cases hv : rng v (-1) 9 <;> simp
  · exact hK _ _ h
  · exact hK _ _ h
  · exact hK _ _ h
  · have hi : vp_in p 10 := rng_in hp (by decide)
    obtain ⟨j, hj, rfl⟩ := vp_in_of hi (by decide)
    simp only [hi, true_and, nI_clamp (show j < 2 ^ 31 by omega)]
    rw [rng_iff] at hv
    have em1 : (-1 : Int32).toInt = -1 := by decide
    have e9' : (9 : Int32).toInt = 9 := by decide
    have e0 : (0 : Int32).toInt = 0 := by decide
    rw [em1, e9'] at hv
    -- the new values go together
    have hnew : ∀ w : Int32, ((0 ≤ v → w = v) ∧ (¬ 0 ≤ v → w = -6)) → RK (upd heard j v) (upd sound j w) so sa sd ss := by
      intro w hw
      refine ⟨fun i hi' => ?_, h.2⟩
      by_cases e : i = j
      · subst e
        rw [upd_s, upd_s]
        by_cases hv0 : 0 ≤ v
        · right
          obtain ⟨q, hq, eq, eqi⟩ := i_nat (x := v) (by rw [i_le, e0] at hv0; exact hv0)
          exact ⟨q, by omega, eq, by rw [hw.1 hv0]; exact eq⟩
        · left
          refine ⟨?_, hw.2 hv0⟩
          rw [i_le, e0] at hv0
          exact Int32.toInt_inj.mp (by rw [em1]; omega)
      · rw [upd_n e, upd_n e]
        exact h.1 i hi'
    have hold : (heard j = -1 ∧ sound j = -6) ∨ (¬ heard j = -1 ∧ sound j = heard j) := by
      rcases h.1 j hj with ⟨a, b⟩ | ⟨q, hq, a, b⟩
      · exact Or.inl ⟨a, b⟩
      · right
        refine ⟨?_, by rw [a, b]⟩
        rw [a]
        intro hh
        have := congrArg Int32.toInt hh
        rw [nI_toInt (by omega), em1] at this
        omega
    rcases hold with ⟨a, b⟩ | ⟨a, b⟩
    · simp only [a, b]
      refine ⟨fun q => absurd trivial q, fun _ => ⟨fun hv0 => ⟨trivial, hK _ _ (hnew _ ⟨fun _ => rfl, fun q => absurd hv0 q⟩)⟩, fun hv0 => ⟨trivial, hK _ _ (hnew _ ⟨fun q => absurd q (Int32.not_le.mpr hv0), fun _ => rfl⟩)⟩⟩⟩
    · simp only [a, b]
      refine ⟨fun _ => ⟨fun hv0 => ⟨trivial, hK _ _ (hnew _ ⟨fun _ => rfl, fun q => absurd hv0 q⟩)⟩, fun hv0 => ⟨trivial, hK _ _ (hnew _ ⟨fun q => absurd q (Int32.not_le.mpr hv0), fun _ => rfl⟩)⟩⟩, fun q => q.elim⟩
theorem b_sheet {p v : Int32} {heard sound so sa sd ss : Nat → Int32} (h : RK heard sound so sa sd ss) (K : (Nat → Int32) → (Nat → Int32) → Prop) (hK : ∀ so' sa', RK heard sound so' sa' sd ss → K so' sa') : w_X9_sheet p v so (fun r so' => w_X10_sheet p v sa (fun r2 sa' => r = r2 ∧ K so' sa')) := by
  have e9 : nI 10 - 1 = (9 : Int32) := by decide
  simp only [w_X9_sheet, w_X9_put, w_X10_sheet, e_within, e_in, e9, forall_eq]
  cases hp : rng p 0 9 <;> cases hv : rng v 0 3 <;> simp
  · exact hK _ _ h
  · exact hK _ _ h
  · exact hK _ _ h
  · have hi : vp_in p 10 := rng_in hp (by decide)
    obtain ⟨j, hj, rfl⟩ := vp_in_of hi (by decide)
    simp only [hi, true_and, nI_clamp (show j < 2 ^ 31 by omega)]
    obtain ⟨q, hq, rfl⟩ := rng0 (m := 3) (by decide) hv
    obtain ⟨s, hs, e1, e2⟩ := h.2.1 j hj
    refine ⟨by rw [e1, e2], hK _ _ ⟨h.1, fun i hi' => ?_, h.2.2⟩⟩
    by_cases e : i = j
    · subst e; exact ⟨q, by omega, upd_s, upd_s⟩
    · rw [upd_n e, upd_n e]; exact h.2.1 i hi'
theorem b_table {p g v : Int32} {heard sound so sa sd ss : Nat → Int32} (h : RK heard sound so sa sd ss) (K : (Nat → Int32) → (Nat → Int32) → Prop) (hK : ∀ sd' ss', RK heard sound so sa sd' ss' → K sd' ss') : w_X9_table p g v sd (fun r sd' => w_X10_table p g v ss (fun r2 ss' => r = r2 ∧ K sd' ss')) := by
  have e15 : nI 16 - 1 = (15 : Int32) := by decide
  simp only [w_X9_table, w_X9_put, w_X10_table, e_within, e_in, e15, forall_eq]
  cases hp : rng p 0 3 <;> cases hg : rng g 0 3 <;> cases hv : rng v 0 9 <;> simp
  all_goals first
    | exact hK _ _ h
    | skip
  all_goals
    obtain ⟨a, ha, rfl⟩ := rng0 (m := 3) (by decide) hp
    obtain ⟨b, hb, rfl⟩ := rng0 (m := 3) (by decide) hg
    have e4 : (4 : Int32) = nI 4 := by decide
    have em : nI a * 4 + nI b = nI (4 * a + b) := by rw [e4, pk_mul, nI_add, Nat.mul_comm]
    have em2 : 4 * nI a + nI b = nI (4 * a + b) := by rw [e4, pk_mul, nI_add]
    have hlt : 4 * a + b < 16 := by omega
    rw [em, rng0_n (m := 15) (by decide) (by omega) (by decide)]
    simp only [em2, vp_in_nI hlt (show 16 < 2 ^ 31 by decide), nI_clamp (show 4 * a + b < 2 ^ 31 by omega)]
    simp
  · exact hK _ _ h
  · exact ⟨(h.2.2 _ hlt).symm, hK _ _ ⟨h.1, h.2.1, upd_eq h.2.2⟩⟩
/-! strips -/
def RT (c : Int32) (st : Nat → Int32) (ba : Nat → Bool) (s : Int32) (sg : Nat → Int32) (bb : Nat → Bool) : Prop := ∃ n : Nat, n ≤ 20 ∧ c = nI n ∧ s = nI n ∧ (∀ j, j < n → sg j = st j ∧ bb j = ba j ∧ ∃ w : Nat, w ≤ 10000 ∧ st j = nI w) ∧ ∀ j, n ≤ j → ba j = false
theorem b_strip {v c s : Int32} {st sg : Nat → Int32} {ba bb : Nat → Bool} (h : RT c st ba s sg bb) (K : (Nat → Int32) → Int32 → (Nat → Int32) → (Nat → Bool) → Int32 → Prop) (hK : ∀ st' c' sg' bb' s', RT c' st' ba s' sg' bb' → K st' c' sg' bb' s') : w_X9_strip v c st (fun r st' c' => w_X10_strip v s sg bb (fun r2 sg' bb' s' => r = r2 ∧ K st' c' sg' bb' s')) := by
  have h0 := h
  obtain ⟨n, hn, rfl, rfl, he, hf⟩ := h
  have e20 : (20 : Int32) = nI 20 := by decide
  simp only [w_X9_strip, w_X10_strip, e_within, e_in, w_X8_append, forall_eq, e20, nI_ltI (show n < 2 ^ 31 by omega) (show 20 < 2 ^ 31 by decide), nI_eq (show n < 2 ^ 31 by omega) (show 20 < 2 ^ 31 by decide), nI_clamp (show n < 2 ^ 31 by omega), nI_1]
  cases hr : rng v 0 10000 <;> simp
  · exact hK _ _ _ _ _ h0
  · by_cases hc : n = 20
    · subst hc
      simp
      exact hK _ _ _ _ _ h0
    · have hl : n < 20 := by omega
      have hl' : ¬ 20 ≤ n := by omega
      simp only [hl, hc, hl', vp_in_nI hl (show 20 < 2 ^ 31 by decide)]
      simp
      obtain ⟨w, hw, rfl⟩ := rng0 (m := 10000) (by decide) hr
      refine hK (upd st n _) _ (upd sg n _) (updB bb n false) _ ⟨n + 1, by omega, rfl, rfl, fun j hj => ?_, fun j hj => hf j (by omega)⟩
      by_cases e : j = n
      · subst e; rw [upd_s, upd_s, updB_s]; exact ⟨rfl, (hf j (Nat.le_refl _)).symm, w, hw, rfl⟩
      · rw [upd_n e, upd_n e, updB_n e]; exact he j (by omega)
theorem b_bar {v c s : Int32} {b : Bool} {st sg : Nat → Int32} {ba bb : Nat → Bool} (h : RT c st ba s sg bb) (K : (Nat → Bool) → (Nat → Bool) → Prop) (hK : ∀ ba' bb', RT c st ba' s sg bb' → K ba' bb') : w_X9_bar v b c ba (fun r ba' => w_X10_bar v b s bb (fun r2 bb' => r = r2 ∧ K ba' bb')) := by
  have h0 := h
  obtain ⟨n, hn, rfl, rfl, he, hf⟩ := h
  simp only [w_X9_bar, w_X8_changeBarred, w_X10_bar, e_within, e_in, wj1]
  cases hr : rng v 0 (nI n - 1) <;> simp
  · exact hK _ _ h0
  · have hp : ∃ j, j < n ∧ v = nI j := by
      rw [rng_iff] at hr
      by_cases hz : n = 0
      · subst hz
        have e : (nI 0 - 1 : Int32).toInt = -1 := by decide
        have e0 : (0 : Int32).toInt = 0 := by decide
        omega
      · have e : nI n - 1 = nI (n - 1) := pk_sub (b := 1) (by omega)
        rw [e, nI_toInt (by omega)] at hr
        obtain ⟨j, h1, h2, h3⟩ := i_nat (x := v) hr.1
        exact ⟨j, by omega, h2⟩
    obtain ⟨j, hj, rfl⟩ := hp
    have e20 : (20 : Int32) = nI 20 := by decide
    have hl : nI j < 20 := by rw [e20]; exact nI_lt (by omega) (by decide)
    have hl' : ¬ (20 : Int32) ≤ nI j := by rw [e20]; exact nI_ge (by omega) (by decide)
    have hi : vp_in (nI j) 20 := vp_in_nI (by omega) (by decide)
    simp only [hl, hl', hi, nI_clamp (show j < 2 ^ 31 by omega), (he j hj).2.1]
    have hk : K (updB ba j b) (updB bb j b) := hK _ _ ⟨n, hn, rfl, rfl, fun i hi' => by
      by_cases e : i = j
      · subst e; rw [updB_s, updB_s]; exact ⟨(he i hi').1, rfl, (he i hi').2.2⟩
      · rw [updB_n e, updB_n e]; exact he i hi', fun i hi' => by rw [updB_n (by omega)]; exact hf i hi'⟩
    cases hb : ba j <;> simp [hk]
