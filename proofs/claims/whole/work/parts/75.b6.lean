/-! the cheapest -/
def chMay (kd hd sw : Nat → Int32) (load kind mg : Int32) (k : Nat) : Bool := decide ((kind = -1 ∨ kd k = kind) ∧ ¬ hd k < load ∧ ¬ (hd k - sw k) < (hd k * mg) / 100)
def chB (kd pr hd sw : Nat → Int32) (load kind mg : Int32) : Nat → Option Nat
  | 0 => none
  | k + 1 => if chMay kd hd sw load kind mg k = true then (match chB kd pr hd sw load kind mg k with
      | none => some k
      | some m => if pr m ≤ pr k then some m else some k) else chB kd pr hd sw load kind mg k
theorem chB_lt (kd pr hd sw : Nat → Int32) (load kind mg : Int32) : ∀ k m, chB kd pr hd sw load kind mg k = some m → m < k
  | 0, m, h => by cases h
  | k + 1, m, h => by
    simp only [chB] at h
    split at h
    · split at h
      · cases h; omega
      · rename_i q hq
        have := chB_lt kd pr hd sw load kind mg k q hq
        split at h
        · cases h; omega
        · cases h; omega
    · have := chB_lt kd pr hd sw load kind mg k m h
      omega
def foundV : Option Nat → Int32
  | none => -6
  | some m => nI m
def leastV (pr : Nat → Int32) : Option Nat → Int32
  | none => 1001
  | some m => pr m
theorem x_bestFor {kd pr hd sw : Nat → Int32} {load kind mg : Int32} {n : Nat} (hn : n ≤ 12) (hp : ∀ j, j < n → ∃ w : Nat, w ≤ 1000 ∧ pr j = nI w) {Q : Int32 → Prop} (h : Q (foundV (chB kd pr hd sw load kind mg n))) : w_X1_bestFor load kind mg (nI n) kd hd sw pr Q := by
  unfold w_X1_bestFor
  refine for_3 n (by omega) (fun k => foundV (chB kd pr hd sw load kind mg k)) (fun k => leastV pr (chB kd pr hd sw load kind mg k)) (fun K k hk hK => ?_) (fun K => cT (Int32.le_refl _) h) rfl rfl
  have hi : vp_in (nI k) 12 := vp_in_nI (by omega) (by decide)
  refine cF (lt_f rfl hk (by omega)) ?_
  simp only [wj1, wj2, w_X1_warns, forall_eq, nI_clamp (show k < 2 ^ 31 by omega), nI_1, hi, true_and, reduceCtorEq, false_implies, true_implies, and_true]
  -- the leaves
  have keep : (chMay kd hd sw load kind mg k = false ∨ leastV pr (chB kd pr hd sw load kind mg k) ≤ pr k) → K (foundV (chB kd pr hd sw load kind mg k)) (leastV pr (chB kd pr hd sw load kind mg k)) (nI (k + 1)) := by
    intro hq
    rcases hq with hq | hq
    · simp only [chB, hq] at hK
      simpa using hK
    · cases hm : chMay kd hd sw load kind mg k with
      | false => simp only [chB, hm] at hK; simpa using hK
      | true =>
        cases hb : chB kd pr hd sw load kind mg k with
        | none =>
          rw [hb] at hq
          obtain ⟨w, hw, ew⟩ := hp k hk
          simp only [leastV] at hq
          rw [ew, show (1001 : Int32) = nI 1001 by decide, nI_leI (by decide) (by omega)] at hq
          omega
        | some m =>
          rw [hb] at hq
          simp only [leastV] at hq
          simp only [chB, hm, hb, if_true, if_pos hq] at hK
          exact hK
  have take : chMay kd hd sw load kind mg k = true → ¬ leastV pr (chB kd pr hd sw load kind mg k) ≤ pr k → K (nI k) (pr k) (nI (k + 1)) := by
    intro hm hq
    cases hb : chB kd pr hd sw load kind mg k with
    | none => simp only [chB, hm, hb, if_true] at hK; exact hK
    | some m =>
      rw [hb] at hq
      simp only [leastV] at hq
      simp only [chB, hm, hb, if_true, if_neg hq] at hK
      exact hK
  have rest : (kind = -1 ∨ kd k = kind) → ((hd k < load → K (foundV (chB kd pr hd sw load kind mg k)) (leastV pr (chB kd pr hd sw load kind mg k)) (nI (k + 1))) ∧ (¬ hd k < load → ((hd k - sw k) < (hd k * mg) / 100 → K (foundV (chB kd pr hd sw load kind mg k)) (leastV pr (chB kd pr hd sw load kind mg k)) (nI (k + 1))) ∧ (¬ (hd k - sw k) < (hd k * mg) / 100 → ((leastV pr (chB kd pr hd sw load kind mg k) ≤ pr k → K (foundV (chB kd pr hd sw load kind mg k)) (leastV pr (chB kd pr hd sw load kind mg k)) (nI (k + 1))) ∧ (¬ leastV pr (chB kd pr hd sw load kind mg k) ≤ pr k → K (nI k) (pr k) (nI (k + 1))))))) := by
    intro hkd
    refine ⟨fun hc => keep (Or.inl (by simp [chMay, hc])), fun hc => ⟨fun hc2 => keep (Or.inl (by simp [chMay, hc2])), fun hc2 => ⟨fun hc3 => keep (Or.inr hc3), fun hc3 => take (by simp only [chMay, decide_eq_true_eq]; exact ⟨hkd, hc, hc2⟩) hc3⟩⟩⟩
  by_cases h1 : kind = -1
  · exact cT h1 (rest (Or.inl h1))
  · refine cF h1 ?_
    by_cases h2 : kd k = kind
    · exact cT' h2 (rest (Or.inr h2))
    · exact cF' h2 (keep (Or.inl (by simp [chMay, h1, h2])))
theorem y_cheapest {kd pr hd sw g : Nat → Int32} {load kind : Int32} {n : Nat} (hn : n ≤ 12) (hr1 : rng kind (-1) 3 = true) (hr2 : rng load 0 10000 = true) {Q : Int32 → Prop} (h : Q (foundV (chB kd pr hd sw load kind (g 7) n))) : w_X10_cheapest load kind (nI n) hd sw g kd pr Q := by
  unfold w_X10_cheapest
  rw [e_in, hr1]
  refine bT1 ?_
  rw [e_in, hr2]
  refine bT1 ?_
  have hk0 : kind < 0 ↔ kind = -1 := by
    rw [rng_iff] at hr1
    have em1 : (-1 : Int32).toInt = -1 := by decide
    have e0 : (0 : Int32).toInt = 0 := by decide
    rw [i_lt, e0]
    constructor
    · intro q
      exact Int32.toInt_inj.mp (by rw [em1]; rw [em1] at hr1; omega)
    · intro q
      rw [q, em1]
      omega
  have e7 : (Int32.toNatClampNeg 7) = 7 := by decide
  refine for_2 n (by omega) (fun k => foundV (chB kd pr hd sw load kind (g 7) k)) (fun K k hk hK => ?_) (fun K => cT (Int32.le_refl _) h) rfl
  have hi : vp_in (nI k) 12 := vp_in_nI (by omega) (by decide)
  refine cF (lt_f rfl hk (by omega)) ?_
  simp only [wj1, forall_eq, nI_clamp (show k < 2 ^ 31 by omega), nI_1, hi, vin7, true_and, e7, hk0, reduceCtorEq, false_implies, true_implies, and_true]
  have keep : chMay kd hd sw load kind (g 7) k = false → K (foundV (chB kd pr hd sw load kind (g 7) k)) (nI (k + 1)) := by
    intro hq
    simp only [chB, hq] at hK
    simpa using hK
  have last : chMay kd hd sw load kind (g 7) k = true → ((foundV (chB kd pr hd sw load kind (g 7) k) < 0 → K (nI k) (nI (k + 1))) ∧ (¬ foundV (chB kd pr hd sw load kind (g 7) k) < 0 → vp_in (foundV (chB kd pr hd sw load kind (g 7) k)) 12 ∧ ((pr (Int32.toNatClampNeg (foundV (chB kd pr hd sw load kind (g 7) k))) ≤ pr k → K (foundV (chB kd pr hd sw load kind (g 7) k)) (nI (k + 1))) ∧ (¬ pr (Int32.toNatClampNeg (foundV (chB kd pr hd sw load kind (g 7) k))) ≤ pr k → K (nI k) (nI (k + 1)))))) := by
    intro hm
    simp only [chB, hm, if_true] at hK
    cases hb : chB kd pr hd sw load kind (g 7) k with
    | none =>
      rw [hb] at hK
      simp only [foundV] at hK ⊢
      exact cT (by decide) hK
    | some m =>
      rw [hb] at hK
      have hml := chB_lt kd pr hd sw load kind (g 7) k m hb
      simp only [foundV] at hK ⊢
      refine cF (nI_pos (by omega)) ⟨vp_in_nI (by omega) (by decide), ?_⟩
      rw [nI_clamp (by omega)]
      by_cases hc : pr m ≤ pr k
      · rw [if_pos hc] at hK; exact cT hc hK
      · rw [if_neg hc] at hK; exact cF hc hK
  by_cases hc : hd k < load
  · exact cT hc (keep (by simp [chMay, hc]))
  · refine cF hc ?_
    by_cases hc2 : (hd k - sw k) < (hd k * g 7) / 100
    · exact cT hc2 (keep (by simp [chMay, hc2]))
    · refine cF hc2 ?_
      by_cases h1 : kind = -1
      · exact cT h1 (last (by simp only [chMay, decide_eq_true_eq]; exact ⟨Or.inl h1, hc, hc2⟩))
      · refine cF h1 ?_
        by_cases h2 : kd k = kind
        · exact cT' h2 (last (by simp only [chMay, decide_eq_true_eq]; exact ⟨Or.inr h2, hc, hc2⟩))
        · exact cF' h2 (keep (by simp [chMay, h1, h2]))
theorem chB_congr {kd pr hd sw kd2 pr2 hd2 sw2 : Nat → Int32} {load kind mg : Int32} : ∀ {n : Nat}, (∀ j, j < n → kd2 j = kd j ∧ pr2 j = pr j ∧ hd2 j = hd j ∧ sw2 j = sw j) → chB kd2 pr2 hd2 sw2 load kind mg n = chB kd pr hd sw load kind mg n
  | 0, _ => rfl
  | n + 1, h => by
    have ih := chB_congr (load := load) (kind := kind) (mg := mg) (n := n) (fun j hj => h j (by omega))
    obtain ⟨a, b, c, d⟩ := h n (by omega)
    have hm : chMay kd2 hd2 sw2 load kind mg n = chMay kd hd sw load kind mg n := by simp only [chMay, a, c, d]
    simp only [chB]
    rw [hm, ih]
    cases hb : chB kd pr hd sw load kind mg n with
    | none => rfl
    | some m =>
      have hml := chB_lt kd pr hd sw load kind mg n m hb
      simp only [(h m (by omega)).2.1, b]
theorem b_cheapest {load kind c s : Int32} {kd pr hd sw kd2 pr2 hd2 sw2 f g : Nat → Int32} (h : RC c kd pr hd sw s kd2 pr2 hd2 sw2) (hE : RE f g) (K : Prop) (hK : K) : w_X9_cheapest load kind f c kd hd sw pr (fun r => w_X10_cheapest load kind s hd2 sw2 g kd2 pr2 (fun r2 => r = r2 ∧ K)) := by
  obtain ⟨n, hn, rfl, rfl, he⟩ := h
  unfold w_X9_cheapest w_X9_isLoad
  rw [e_within]
  cases h1 : rng kind (-1) 3 with
  | false =>
    refine bF2 ?_
    unfold w_X10_cheapest
    dsimp only
    rw [e_in, h1]
    exact bF2 ⟨rfl, hK⟩
  | true =>
    refine bT1 ?_
    rw [e_within]
    cases h2 : rng load 0 10000 with
    | false =>
      refine bF1 ?_
      unfold w_X10_cheapest
      dsimp only
      rw [e_in, h1]
      refine bT1 ?_
      rw [e_in, h2]
      exact bF2 ⟨rfl, hK⟩
    | true =>
      refine bT2 ⟨vin7, ?_⟩
      refine x_bestFor hn (fun j hj => (he j hj).2.2.2.2) (y_cheapest hn h1 h2 ⟨?_, hK⟩)
      rw [chB_congr (fun j hj => ⟨(he j hj).1, (he j hj).2.1, (he j hj).2.2.1, (he j hj).2.2.2.1⟩), show Int32.toNatClampNeg 7 = 7 by decide, (hE 7 (by decide)).1]
/-! laps: which there are -/
theorem x_lapS {laps : Nat → Option Nat} {k a : Nat} (hk : k < 6) (h : laps k = some a) {Q : Prop} (hQ : Q) : w_X9_lapAt_S a (nI k) laps Q := by
  unfold w_X9_lapAt_S
  rw [e_within, rng0_n (m := 5) (by decide) (by omega) (by decide), nI_clamp (by omega)]
  exact bT2 ⟨vp_in_nI hk (by decide), h, hQ⟩
theorem x_lapN {laps : Nat → Option Nat} {p : Int32} (h : ∀ k, k < 6 → p = nI k → laps k = none) {Q : Prop} (hQ : Q) : w_X9_lapAt_N p laps Q := by
  unfold w_X9_lapAt_N
  rw [e_within]
  cases hr : rng p 0 5 with
  | false => exact bF1 hQ
  | true =>
    obtain ⟨k, hk, rfl⟩ := rng0 (m := 5) (by decide) hr
    rw [nI_clamp (by omega)]
    exact bT2 ⟨vp_in_nI (by omega) (by decide), h k (by omega) rfl, hQ⟩
theorem y_lapS {sp : Nat → Int32} {k n : Nat} (hk : k < 6) (h1 : 1 ≤ n) (h5 : n ≤ 5) (h : sp k = nI n) {Q : Bool → Prop} (hQ : Q true) : w_X10_isLap (nI k) sp Q := by
  unfold w_X10_isLap w_X10_isPlace
  rw [e_in, rng0_n (m := 5) (by decide) (by omega) (by decide), nI_clamp (by omega), h]
  exact bT2 ⟨vp_in_nI hk (by decide), cF (nI_nle (by omega) (by omega)) hQ⟩
theorem y_lapN {sp : Nat → Int32} {p : Int32} (h : ∀ k, k < 6 → p = nI k → sp k = 0) {Q : Bool → Prop} (hQ : Q false) : w_X10_isLap p sp Q := by
  unfold w_X10_isLap w_X10_isPlace
  rw [e_in]
  cases hr : rng p 0 5 with
  | false => exact bF1 hQ
  | true =>
    obtain ⟨k, hk, rfl⟩ := rng0 (m := 5) (by decide) hr
    rw [nI_clamp (by omega), h k (by omega) rfl]
    exact bT2 ⟨vp_in_nI (by omega) (by decide), cT (by decide) hQ⟩
theorem y_spotN {sp : Nat → Int32} {p i : Int32} (h : ∀ k, k < 6 → p = nI k → sp k = 0) {Q : Bool → Prop} (hQ : Q false) : w_X10_isSpot p i sp Q := by
  unfold w_X10_isSpot
  exact y_lapN h (bF1 hQ)
theorem y_spotS {sp : Nat → Int32} {k n : Nat} {i : Int32} (hk : k < 6) (h1 : 1 ≤ n) (h5 : n ≤ 5) (h : sp k = nI n) {Q : Bool → Prop} (hQ : Q (rng i 0 (nI n - 1))) : w_X10_isSpot (nI k) i sp Q := by
  unfold w_X10_isSpot
  refine y_lapS hk h1 h5 h (bT2 ⟨vp_in_nI hk (by decide), ?_⟩)
  rw [e_in, nI_clamp (by omega), h]
  cases hr : rng i 0 (nI n - 1) with
  | false => rw [hr] at hQ; exact bF1 hQ
  | true => rw [hr] at hQ; exact bT2 hQ
theorem rng_sp {n : Nat} {i : Int32} (h1 : 1 ≤ n) (h5 : n ≤ 5) (h : rng i 0 (nI n - 1) = true) : ∃ j, j < n ∧ i = nI j := by
  have e : nI n - 1 = nI (n - 1) := pk_sub (b := 1) h1
  rw [e] at h
  obtain ⟨j, hj, ej⟩ := rng0 (m := n - 1) (by rw [nI_toInt (by omega)]) h
  exact ⟨j, by omega, ej⟩
theorem x_hasSpot {n : Nat} {i : Int32} (h1 : 1 ≤ n) (h5 : n ≤ 5) {Q : Bool → Prop} (hQ : Q (rng i 0 (nI n - 1))) : w_X5_hasSpot i (nI n) Q := by
  unfold w_X5_hasSpot
  rw [e_within]
  cases hr : rng i 0 (nI n - 1) with
  | false => rw [hr] at hQ; exact bF1 hQ
  | true =>
    obtain ⟨j, hj, rfl⟩ := rng_sp h1 h5 hr
    rw [hr] at hQ
    exact bT2 (cF (lt_f (N := 5) (by decide) (by omega) (by decide)) hQ)
