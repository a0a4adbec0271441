theorem vin5 : vp_in 5 8 := vp_in_nI (n := 5) (by decide) (by decide)
theorem vin0 : vp_in 0 8 := vp_in_nI (n := 0) (by decide) (by decide)
theorem vin7 : vp_in 7 8 := vp_in_nI (n := 7) (by decide) (by decide)
theorem vin6 : vp_in 6 8 := vp_in_nI (n := 6) (by decide) (by decide)
theorem vin1 : vp_in 1 8 := vp_in_nI (n := 1) (by decide) (by decide)
theorem vin2 : vp_in 2 8 := vp_in_nI (n := 2) (by decide) (by decide)
theorem vin3 : vp_in 3 8 := vp_in_nI (n := 3) (by decide) (by decide)
theorem vin4 : vp_in 4 8 := vp_in_nI (n := 4) (by decide) (by decide)
/-! told -/
theorem bitsOf_congr {t u : Nat → Bool} : ∀ {n : Nat}, (∀ k, k < n → t k = u k) → bitsOf t n = bitsOf u n
  | 0, _ => rfl
  | n + 1, h => by
    simp only [bitsOf]
    rw [bitsOf_congr (n := n) (fun k hk => h k (by omega)), h n (by omega)]
theorem b_told {p c ms tc mt cc mc : Int32} {f g hours jh sp : Nat → Int32} {laps : Nat → Option Nat} (hE : RE f g) (hs : ms = c) (hl : ∀ k, k < 6 → (laps k).isSome = decide (¬ sp k ≤ 0)) (ht : mt = tc) (hc : mc = cc) (hj : ∀ k, k < 7 → jh k = hours k) (K : Prop) (hK : K) : w_X9_told p f c laps tc cc hours (fun r => w_X10_told p ms mt mc jh sp g (fun r2 => r = r2 ∧ K)) := by
  subst hs
  subst ht
  subst hc
  have e17 : (10 : Int32) + 8 - 1 = 17 := by decide
  have y : ∀ (Q : Int32 → Prop), rng p 10 17 = false → ((¬ p = 0 → (¬ p = 1 → (¬ p = 2 → (¬ p = 3 → (¬ p = 4 → Q (-2)) ∧ (p = 4 → w_X10_joints jh (fun (r12 : Int32) => Q r12))) ∧ (p = 3 → Q mc)) ∧ (p = 2 → Q mt)) ∧ (p = 1 → Q (bitsOf (fun k => decide (¬ sp k ≤ 0)) 6))) ∧ (p = 0 → Q ms)) → w_X10_told p ms mt mc jh sp g Q := by
    intro Q hr hQ
    unfold w_X10_told
    rw [e_in, hr]
    refine bF1 ?_
    refine for_2 6 (by decide) (bitsOf (fun k => decide (¬ sp k ≤ 0))) (fun K2 k hk hK2 => ?_) (fun K2 => cT (le_r (by decide)) hQ) rfl
    refine cF (lt_f (by decide) hk (by decide)) ⟨vp_in_nI hk (by decide), ?_⟩
    simp only [wj1, forall_eq, nI_clamp (show k < 2 ^ 31 by omega), nI_1, or_0]
    by_cases hc : sp k ≤ 0
    · simp only [bitsOf, hc] at hK2; simp [hc]; simpa using hK2
    · simp only [bitsOf, hc] at hK2; simp [hc]; simpa using hK2
  unfold w_X9_told
  rw [e17, e_within]
  cases hr : rng p 10 17 with
  | true =>
    refine bT2 ?_
    have hv := hr
    rw [rng_iff] at hv
    have e10 : (10 : Int32).toInt = 10 := by decide
    have e17' : (17 : Int32).toInt = 17 := by decide
    rw [e10, e17'] at hv
    obtain ⟨j, hj1, rfl, hj2⟩ := i_nat (x := p) (by omega)
    have ep : nI j - 10 = nI (j - 10) := pk_sub (b := 10) (by omega)
    have hlt : j - 10 < 8 := by omega
    rw [ep, nI_clamp (by omega)]
    refine ⟨vp_in_nI hlt (by decide), ?_⟩
    unfold w_X10_told
    dsimp only
    rw [e_in, hr, ep, nI_clamp (by omega)]
    exact bT2 ⟨vp_in_nI hlt (by decide), (hE _ hlt).1.symm, hK⟩
  | false =>
    refine bF1 ?_
    by_cases h0 : p = 0
    · refine cT h0 ?_
      unfold w_X7_count
      exact y _ hr (cT' h0 ⟨rfl, hK⟩)
    · refine cF h0 ?_
      by_cases h1 : p = 1
      · refine cT h1 (x_lapBits ?_)
        refine y _ hr (cF' h0 (cT' h1 ⟨bitsOf_congr hl, hK⟩))
      · refine cF h1 ?_
        by_cases h2 : p = 2
        · refine cT h2 ?_
          unfold w_X8_count
          exact y _ hr (cF' h0 (cF' h1 (cT' h2 ⟨rfl, hK⟩)))
        · refine cF h2 ?_
          by_cases h3 : p = 3
          · refine cT h3 ?_
            unfold w_X1_count
            exact y _ hr (cF' h0 (cF' h1 (cF' h2 (cT' h3 ⟨rfl, hK⟩))))
          · refine cF h3 ?_
            by_cases h4 : p = 4
            · refine cT h4 (x_bits ?_)
              refine y _ hr (cF' h0 (cF' h1 (cF' h2 (cF' h3 (cT' h4 (y_joints ⟨bitsOf_congr (fun k hk => by rw [hj k hk]), hK⟩))))))
            · exact cF h4 (y _ hr (cF' h0 (cF' h1 (cF' h2 (cF' h3 (cF' h4 ⟨rfl, hK⟩))))))
/-! counting weak strips -/
def stp (ba : Nat → Bool) (st : Nat → Int32) (line : Int32) (most : Nat) : Nat → Nat × Nat
  | 0 => (0, 0)
  | k + 1 => if most ≤ (stp ba st line most k).1 then stp ba st line most k else if ba k = true then stp ba st line most k else ((stp ba st line most k).1 + 1, if st k < line then (stp ba st line most k).2 + 1 else (stp ba st line most k).2)
theorem stp_le (ba : Nat → Bool) (st : Nat → Int32) (line : Int32) (most : Nat) : ∀ k, (stp ba st line most k).1 ≤ k ∧ (stp ba st line most k).2 ≤ (stp ba st line most k).1
  | 0 => ⟨Nat.le_refl _, Nat.le_refl _⟩
  | k + 1 => by
    have h := stp_le ba st line most k
    simp only [stp]
    split
    · exact ⟨by omega, h.2⟩
    · split
      · exact ⟨by omega, h.2⟩
      · split
        · exact ⟨by simp only; omega, by simp only; omega⟩
        · exact ⟨by simp only; omega, by simp only; omega⟩
theorem stp_stop (ba : Nat → Bool) (st : Nat → Int32) (line : Int32) (most : Nat) {k : Nat} (h : most ≤ (stp ba st line most k).1) : ∀ d, stp ba st line most (k + d) = stp ba st line most k
  | 0 => rfl
  | d + 1 => by
    have e := stp_stop ba st line most h d
    show stp ba st line most (k + d + 1) = _
    simp only [stp]
    rw [e, if_pos h]
theorem stp_congr {ba bb : Nat → Bool} {st sg : Nat → Int32} {line : Int32} {most : Nat} : ∀ {n : Nat}, (∀ j, j < n → sg j = st j ∧ bb j = ba j) → stp bb sg line most n = stp ba st line most n
  | 0, _ => rfl
  | n + 1, h => by
    simp only [stp]
    rw [stp_congr (n := n) (fun j hj => h j (by omega)), (h n (by omega)).1, (h n (by omega)).2]
theorem x_weakAF {ba : Nat → Bool} {st : Nat → Int32} {line : Int32} {most n : Nat} (hn : n ≤ 20) (hm : most ≤ 20) {Q : Int32 → Prop} (h : Q (nI (stp ba st line most n).2)) : w_X8_weakAmongFirst (nI most) line (nI n) ba st Q := by
  unfold w_X8_weakAmongFirst
  refine wL3_in (fun a b c => ∃ k, k ≤ n ∧ c = nI k ∧ a = nI (stp ba st line most k).1 ∧ b = nI (stp ba st line most k).2) (fun _ _ c => n - c.toNatClampNeg) ?_ 0 0 0 ⟨0, Nat.zero_le _, rfl, rfl, rfl⟩
  intro K a b c hI hK
  obtain ⟨k, hk, rfl, rfl, rfl⟩ := hI
  have hle := stp_le ba st line most k
  by_cases hkn : k = n
  · subst hkn
    exact cT (Int32.le_refl _) h
  · have hlt : k < n := by omega
    refine cF (lt_f rfl hlt (by omega)) ?_
    by_cases hs : most ≤ (stp ba st line most k).1
    · refine cT ((nI_leI (by omega) (by omega)).mpr hs) ?_
      have e := stp_stop ba st line most hs (n - k)
      rw [show k + (n - k) = n by omega] at e
      rw [← e]
      exact h
    · refine cF (fun q => hs ((nI_leI (by omega) (by omega)).mp q)) ⟨vp_in_nI (by omega) (by decide), ?_⟩
      have hmu : n - (nI (k + 1)).toNatClampNeg < n - (nI k).toNatClampNeg := by
        rw [nI_clamp (by omega), nI_clamp (by omega)]
        omega
      simp only [wj2, forall_eq, nI_clamp (show k < 2 ^ 31 by omega), nI_1]
      have hk1 := hK (nI (stp ba st line most (k + 1)).1) (nI (stp ba st line most (k + 1)).2) (nI (k + 1)) ⟨k + 1, by omega, rfl, rfl, rfl⟩ hmu
      simp only [stp, if_neg hs] at hk1
      cases hb : ba k with
      | true =>
        rw [hb] at hk1
        simp only [if_true] at hk1
        simp
        exact hk1
      | false =>
        rw [hb] at hk1
        simp at hk1
        simp
        refine ⟨vp_in_nI (by omega) (by decide), ?_, ?_⟩
        · intro hc
          rw [if_neg (by rw [Int32.not_lt]; exact hc)] at hk1
          exact hk1
        · intro hc
          rw [if_pos hc] at hk1
          exact hk1
theorem y_weak {bb : Nat → Bool} {sg g : Nat → Int32} {n : Nat} (hn : n ≤ 20) {Q : Int32 → Prop} (h : Q (nI (stp bb sg (g 5) 20 n).2)) : w_X10_weak (nI n) bb sg g Q := by
  unfold w_X10_weak
  have e5 : (Int32.toNatClampNeg 5) = 5 := by decide
  refine for_2 n (by omega) (fun k => nI (stp bb sg (g 5) 20 k).2) (fun K k hk hK => ?_) (fun K => cT (Int32.le_refl _) h) rfl
  have hle := stp_le bb sg (g 5) 20 k
  refine cF (lt_f rfl hk (by omega)) ⟨vp_in_nI (by omega) (by decide), ?_⟩
  simp only [stp, if_neg (show ¬ 20 ≤ (stp bb sg (g 5) 20 k).1 by omega)] at hK
  simp only [wj1, forall_eq, nI_clamp (show k < 2 ^ 31 by omega), nI_1, e5]
  have hi5 : vp_in 5 8 := vin5
  have hik : vp_in (nI k) 20 := vp_in_nI (by omega) (by decide)
  cases hb : bb k with
  | true =>
    rw [hb] at hK
    simp at hK
    simp [bI]
    exact hK
  | false =>
    rw [hb] at hK
    simp at hK
    simp [bI, hi5, hik]
    refine ⟨?_, ?_⟩
    · intro hc
      rw [if_neg (by rw [Int32.not_lt]; exact hc)] at hK
      exact hK
    · intro hc
      rw [if_pos hc] at hK
      rw [nI_1]
      exact hK
theorem b_weak {c s : Int32} {st sg f g : Nat → Int32} {ba bb : Nat → Bool} (h : RT c st ba s sg bb) (hE : RE f g) (K : Prop) (hK : K) : w_X9_weak f c ba st (fun r => w_X10_weak s bb sg g (fun r2 => r = r2 ∧ K)) := by
  obtain ⟨n, hn, rfl, rfl, he, hf⟩ := h
  have e5 : (Int32.toNatClampNeg 5) = 5 := by decide
  refine ⟨vin5, ?_⟩
  unfold w_X8_countWeak
  refine x_weakAF (most := 20) hn (by decide) (y_weak hn ⟨?_, hK⟩)
  rw [e5, ← (hE 5 (by decide)).1, stp_congr (fun j hj => ⟨(he j hj).1, (he j hj).2.1⟩)]
