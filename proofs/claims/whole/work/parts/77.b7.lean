def RLo (n k : Nat) (c : Nat → Nat → Int32) (cure : Int32) (sp st up lo ef we wt cu : Nat → Int32) : Prop := 1 ≤ n ∧ n ≤ 5 ∧ sp k = nI n ∧ (∀ i, i < n → st (5 * k + i) = c 0 i ∧ up (5 * k + i) = c 1 i ∧ lo (5 * k + i) = c 2 i ∧ ef (5 * k + i) = c 3 i ∧ we (5 * k + i) = c 4 i) ∧ (∀ i, i < 5 → (∃ g : Nat, g ≤ 5 ∧ c 0 i = nI g) ∧ (∃ u : Nat, u ≤ 3 ∧ c 1 i = nI u) ∧ (∃ d : Nat, d ≤ 3 ∧ c 2 i = nI d) ∧ (∃ w : Nat, w ≤ 1000 ∧ c 3 i = nI w) ∧ (n ≤ i → c 0 i = 0) ∧ (n ≤ i + 1 → c 1 i = 0 ∧ c 2 i = 0)) ∧ (∀ q, q < 10 → wt (10 * k + q) = c 5 q) ∧ cu k = cure
theorem ix5 (k i : Nat) : 5 * nI k + nI i = nI (5 * k + i) := by rw [show (5 : Int32) = nI 5 by decide, pk_mul, nI_add]
theorem ix10 (k i : Nat) : 10 * nI k + nI i = nI (10 * k + i) := by rw [show (10 : Int32) = nI 10 by decide, pk_mul, nI_add]
theorem b_damp_S {n k a : Nat} {c : Nat → Nat → Int32} {cure p1 p2 : Int32} {sp st up lo ef we wt cu : Nat → Int32} {laps : Nat → Option Nat} (hk : k < 6) (hl : laps k = some a) (h : RLo n k c cure sp st up lo ef we wt cu) (K : (Nat → Int32) → (Nat → Int32) → Prop) (hK0 : K (c 5) wt) (hK1 : ∀ q v, q < 10 → K (upd (c 5) q v) (upd wt (10 * k + q) v)) : w_X9_damp_S a (nI k) p1 p2 laps (c 5) (fun r cells' => w_X10_damp (nI k) p1 p2 sp wt (fun r2 wt' => r = r2 ∧ K cells' wt')) := by
  obtain ⟨h1, h5, hs, he, hb, hw, hc⟩ := h
  unfold w_X9_damp_S
  refine x_lapS hk hl ?_
  have e9 : nI 10 - 1 = (9 : Int32) := by decide
  refine e_put p1 p2 0 1000 10 (c 5) (by decide) _ (fun hno => ?_) (fun j hj ep hv => ?_)
  · rw [e9] at hno
    unfold w_X10_damp
    refine y_lapS hk h1 h5 hs (bT1 ?_)
    rw [e_in]
    cases hp : rng p1 0 9 with
    | false => exact bF1 ⟨rfl, hK0⟩
    | true =>
      refine bT2 ?_
      rw [e_in]
      cases hv : rng p2 0 1000 with
      | false => exact bF2 ⟨rfl, hK0⟩
      | true => exact absurd ⟨hp, hv⟩ hno
  · subst ep
    unfold w_X10_damp
    refine y_lapS hk h1 h5 hs (bT1 ?_)
    rw [e_in, rng0_n (m := 9) (by decide) (by omega) (by decide)]
    refine bT2 ?_
    rw [e_in, hv]
    refine bT1 ?_
    rw [ix10, nI_clamp (by omega)]
    refine ⟨vp_in_nI (by omega) (by decide), fun x ex => ⟨vp_in_nI (by omega) (by decide), ?_⟩⟩
    rw [ex]
    exact ⟨(hw j hj).symm, hK1 j p2 hj⟩
theorem b_glue_S {n k a : Nat} {c : Nat → Nat → Int32} {cure p1 p2 : Int32} {sp st up lo ef we wt cu : Nat → Int32} {laps : Nat → Option Nat} (hk : k < 6) (hl : laps k = some a) (h : RLo n k c cure sp st up lo ef we wt cu) (K : (Nat → Int32) → (Nat → Int32) → Prop) (hK0 : K (c 0) st) (hK1 : ∀ i g, i < n → g ≤ 5 → K (upd (c 0) i (nI g)) (upd st (5 * k + i) (nI g))) : w_X9_glue_S a (nI k) p1 p2 laps (nI n) (c 0) (fun r gl' => w_X10_glue (nI k) p1 p2 sp st (fun r2 st' => r = r2 ∧ K gl' st')) := by
  obtain ⟨h1, h5, hs, he, hb, hw, hc⟩ := h
  unfold w_X9_glue_S
  refine x_lapS hk hl (x_hasSpot h1 h5 ?_)
  cases hr : rng p1 0 (nI n - 1) with
  | false =>
    refine bF2 ?_
    unfold w_X10_glue
    refine y_spotS hk h1 h5 hs ?_
    rw [hr]
    exact bF2 ⟨rfl, hK0⟩
  | true =>
    obtain ⟨i, hi, rfl⟩ := rng_sp h1 h5 hr
    refine bT1 ?_
    refine e_put (nI i) p2 0 5 5 (c 0) (by decide) _ (fun hno => ?_) (fun j hj ep hv => ?_)
    · unfold w_X10_glue
      refine y_spotS hk h1 h5 hs ?_
      rw [hr]
      refine bT1 ?_
      rw [e_in]
      cases hv : rng p2 0 5 with
      | false => exact bF2 ⟨rfl, hK0⟩
      | true => exact absurd ⟨rng0_n (m := 4) (by decide) (by omega) (by decide), hv⟩ hno
    · have eij : i = j := (nI_eq (by omega) (by omega)).mp ep
      subst eij
      unfold w_X10_glue
      refine y_spotS hk h1 h5 hs ?_
      rw [hr]
      refine bT1 ?_
      rw [e_in, hv]
      refine bT1 ?_
      rw [ix5, nI_clamp (by omega)]
      refine ⟨vp_in_nI (by omega) (by decide), fun x ex => ⟨vp_in_nI (by omega) (by decide), ?_⟩⟩
      rw [ex]
      obtain ⟨g, hg, rfl⟩ := rng0 (m := 5) (by decide) hv
      exact ⟨(he i hi).1.symm, hK1 i g hi hg⟩
theorem b_work_S {n k a : Nat} {c : Nat → Nat → Int32} {cure p1 p2 : Int32} {sp st up lo ef we wt cu : Nat → Int32} {laps : Nat → Option Nat} (hk : k < 6) (hl : laps k = some a) (h : RLo n k c cure sp st up lo ef we wt cu) (K : (Nat → Int32) → (Nat → Int32) → Prop) (hK0 : K (c 3) ef) (hK1 : ∀ i g, i < n → g ≤ 1000 → K (upd (c 3) i (nI g)) (upd ef (5 * k + i) (nI g))) : w_X9_work_S a (nI k) p1 p2 laps (nI n) (c 3) (fun r gl' => w_X10_work (nI k) p1 p2 sp ef (fun r2 st' => r = r2 ∧ K gl' st')) := by
  obtain ⟨h1, h5, hs, he, hb, hw, hc⟩ := h
  unfold w_X9_work_S
  refine x_lapS hk hl (x_hasSpot h1 h5 ?_)
  cases hr : rng p1 0 (nI n - 1) with
  | false =>
    refine bF2 ?_
    unfold w_X10_work
    refine y_spotS hk h1 h5 hs ?_
    rw [hr]
    exact bF2 ⟨rfl, hK0⟩
  | true =>
    obtain ⟨i, hi, rfl⟩ := rng_sp h1 h5 hr
    refine bT1 ?_
    refine e_put (nI i) p2 0 1000 5 (c 3) (by decide) _ (fun hno => ?_) (fun j hj ep hv => ?_)
    · unfold w_X10_work
      refine y_spotS hk h1 h5 hs ?_
      rw [hr]
      refine bT1 ?_
      rw [e_in]
      cases hv : rng p2 0 1000 with
      | false => exact bF2 ⟨rfl, hK0⟩
      | true => exact absurd ⟨rng0_n (m := 4) (by decide) (by omega) (by decide), hv⟩ hno
    · have eij : i = j := (nI_eq (by omega) (by omega)).mp ep
      subst eij
      unfold w_X10_work
      refine y_spotS hk h1 h5 hs ?_
      rw [hr]
      refine bT1 ?_
      rw [e_in, hv]
      refine bT1 ?_
      rw [ix5, nI_clamp (by omega)]
      refine ⟨vp_in_nI (by omega) (by decide), fun x ex => ⟨vp_in_nI (by omega) (by decide), ?_⟩⟩
      rw [ex]
      obtain ⟨g, hg, rfl⟩ := rng0 (m := 1000) (by decide) hv
      exact ⟨(he i hi).2.2.2.1.symm, hK1 i g hi hg⟩
theorem b_spot_S {n k a : Nat} {c : Nat → Nat → Int32} {cure p1 p2 : Int32} {sp st up lo ef we wt cu : Nat → Int32} {laps : Nat → Option Nat} (hk : k < 6) (hl : laps k = some a) (h : RLo n k c cure sp st up lo ef we wt cu) (K : Prop) (hK : K) : w_X9_spot_S a (nI k) p1 p2 laps (nI n) (c 0) (c 1) (c 2) (c 3) (c 4) (fun r => w_X10_spot (nI k) p1 p2 sp st up lo ef we (fun r2 => r = r2 ∧ K)) := by
  obtain ⟨h1, h5, hs, he, hb, hw, hc⟩ := h
  unfold w_X9_spot_S
  refine x_lapS hk hl (x_hasSpot h1 h5 ?_)
  cases hr : rng p1 0 (nI n - 1) with
  | false =>
    refine bF2 ?_
    unfold w_X10_spot
    refine y_spotS hk h1 h5 hs ?_
    rw [hr]
    exact bF2 ⟨rfl, hK⟩
  | true =>
    obtain ⟨i, hi, rfl⟩ := rng_sp h1 h5 hr
    have hv5 : vp_in (nI i) 5 := vp_in_nI (by omega) (by decide)
    have hv6 : vp_in (nI k) 6 := vp_in_nI hk (by decide)
    have hv30 : vp_in (nI (5 * k + i)) 30 := vp_in_nI (by omega) (by decide)
    obtain ⟨q0, q1, q2, q3, q4⟩ := he i hi
    have y : ∀ Q : Int32 → Prop, ((p2 = 0 → Q (c 0 i)) ∧ (¬ p2 = 0 → (p2 = 1 → (¬ nI i = nI n - 1 → Q (c 1 i)) ∧ (nI i = nI n - 1 → Q (-6))) ∧ (¬ p2 = 1 → (p2 = 2 → (¬ nI i = nI n - 1 → Q (c 2 i)) ∧ (nI i = nI n - 1 → Q (-6))) ∧ (¬ p2 = 2 → (p2 = 3 → Q (c 3 i)) ∧ (¬ p2 = 3 → (p2 = 4 → Q (c 4 i)) ∧ (¬ p2 = 4 → Q (-2))))))) → w_X10_spot (nI k) (nI i) p2 sp st up lo ef we Q := by
      intro Q hQ
      unfold w_X10_spot
      refine y_spotS hk h1 h5 hs ?_
      rw [hr]
      refine bT1 ?_
      simp only [forall_eq, ix5, nI_clamp (show k < 2 ^ 31 by omega), nI_clamp (show 5 * k + i < 2 ^ 31 by omega), hs, hv6, hv30, true_and, wj1, q0, q1, q2, q3, q4, reduceCtorEq, false_implies, true_implies, and_true]
      by_cases hlast : nI i = nI n - 1
      · simp only [hlast, not_true, false_implies, true_implies, true_and] at hQ ⊢
        exact hQ
      · simp only [hlast, not_false_iff, false_implies, true_implies, and_true] at hQ ⊢
        exact hQ
    refine bT1 ?_
    unfold w_X5_isLast
    simp only [hv5, nI_clamp (show i < 2 ^ 31 by omega), true_and, reduceCtorEq, false_implies, true_implies, and_true]
    by_cases a0 : p2 = 0
    · exact cT a0 (y _ (cT a0 ⟨rfl, hK⟩))
    · refine cF a0 ?_
      by_cases a1 : p2 = 1
      · refine cT a1 ?_
        by_cases hlast : nI i = nI n - 1
        · exact cT' hlast (y _ (cF a0 (cT a1 (cT' hlast ⟨rfl, hK⟩))))
        · exact cF' hlast (y _ (cF a0 (cT a1 (cF' hlast ⟨rfl, hK⟩))))
      · refine cF a1 ?_
        by_cases a2 : p2 = 2
        · refine cT a2 ?_
          by_cases hlast : nI i = nI n - 1
          · exact cT' hlast (y _ (cF a0 (cF a1 (cT a2 (cT' hlast ⟨rfl, hK⟩)))))
          · exact cF' hlast (y _ (cF a0 (cF a1 (cT a2 (cF' hlast ⟨rfl, hK⟩)))))
        · refine cF a2 ?_
          by_cases a3 : p2 = 3
          · exact cT a3 (y _ (cF a0 (cF a1 (cF a2 (cT a3 ⟨rfl, hK⟩)))))
          · refine cF a3 ?_
            by_cases a4 : p2 = 4
            · exact cT a4 (y _ (cF a0 (cF a1 (cF a2 (cF a3 (cT a4 ⟨rfl, hK⟩))))))
            · exact cF a4 (y _ (cF a0 (cF a1 (cF a2 (cF a3 (cF a4 ⟨rfl, hK⟩))))))
