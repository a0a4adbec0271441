/-! fits, unseen -/
theorem x_soundAt {sd : Nat → Int32} {s g : Nat} (hs : s < 4) (hg : g < 4) {Q : Int32 → Prop} (h : Q (sd (4 * s + g))) : w_X4_soundAt (nI s) (nI g) sd Q := by
  unfold w_X4_soundAt
  intro x ex
  have e4 : (4 : Int32) = nI 4 := by decide
  have em : nI s * 4 + nI g = nI (4 * s + g) := by rw [e4, pk_mul, nI_add, Nat.mul_comm]
  have e15 : (16 : Int32) - 1 = 15 := by decide
  rw [em] at ex
  subst ex
  rw [e_within, e15, rng0_n (m := 15) (by decide) (by omega) (by decide), nI_clamp (by omega)]
  exact bT2 ⟨vp_in_nI (by omega) (by decide), h⟩
def fitB (heard so sd : Nat → Int32) (p g : Nat) : Bool := decide (heard p = -1 ∨ sd (4 * (so p).toNatClampNeg + g) = heard p)
theorem x_gaps {heard sound so sa sd ss : Nat → Int32} (h : RK heard sound so sa sd ss) {p : Nat} (hp : p < 10) {Q : Int32 → Prop} (hQ : Q (bitsOf (fitB heard so sd p) 4)) : w_X4_gapsThatFit (nI p) heard so sd Q := by
  unfold w_X4_gapsThatFit
  rw [e_within, rng0_n (m := 9) (by decide) (by omega) (by decide)]
  refine bT1 ⟨vp_in_nI hp (by decide), fun x ex => ?_⟩
  rw [nI_clamp (by omega)] at ex
  subst ex
  obtain ⟨s, hs, es, -⟩ := h.2.1 p hp
  refine for_2 4 (by decide) (bitsOf (fitB heard so sd p)) (fun K k hk hK => ?_) (fun K => cT (le_r (by decide)) hQ) rfl
  refine cF (lt_f (by decide) hk (by decide)) ?_
  simp only [wj1, forall_eq, nI_clamp (show p < 2 ^ 31 by omega), nI_1]
  have ef : fitB heard so sd p k = decide (heard p = -1 ∨ sd (4 * s + k) = heard p) := by
    unfold fitB
    rw [es, nI_clamp (by omega)]
  simp only [bitsOf, ef] at hK
  by_cases h1 : heard p = -1
  · simp [h1] at hK ⊢
    exact hK
  · refine cF h1 ⟨vp_in_nI hp (by decide), ?_⟩
    rw [es]
    refine x_soundAt hs hk ?_
    by_cases h2 : sd (4 * s + k) = heard p
    · simp [h1, h2] at hK ⊢
      exact hK
    · simp [h1, h2] at hK ⊢
      exact hK
theorem y_fitsAt {heard sound so sa sd ss : Nat → Int32} (h : RK heard sound so sa sd ss) {p g : Nat} (hp : p < 10) (hg : g < 4) {Q : Bool → Prop} (hQ : Q (fitB heard so sd p g)) : w_X10_fitsAt (nI p) (nI g) sound sa ss Q := by
  unfold w_X10_fitsAt
  have hi : vp_in (nI p) 10 := vp_in_nI hp (by decide)
  obtain ⟨s, hs, es, es2⟩ := h.2.1 p hp
  have e4 : (4 : Int32) = nI 4 := by decide
  have em2 : 4 * nI s + nI g = nI (4 * s + g) := by rw [e4, pk_mul, nI_add]
  have hlt : 4 * s + g < 16 := by omega
  simp only [nI_clamp (show p < 2 ^ 31 by omega), es2, em2, nI_clamp (show 4 * s + g < 2 ^ 31 by omega), h.2.2 _ hlt]
  have ef : fitB heard so sd p g = decide (heard p = -1 ∨ sd (4 * s + g) = heard p) := by
    unfold fitB
    rw [es, nI_clamp (by omega)]
  rw [ef] at hQ
  refine ⟨hi, ?_⟩
  rcases h.1 p hp with ⟨a, b⟩ | ⟨q, hq, a, b⟩
  · refine cT (by rw [b]; decide) ?_
    simp [a] at hQ
    exact hQ
  · have hn1 : ¬ heard p = -1 := by
      rw [a]
      intro hh
      have := congrArg Int32.toInt hh
      rw [nI_toInt (by omega), show (-1 : Int32).toInt = -1 by decide] at this
      omega
    have hn0 : ¬ sound p < 0 := by
      rw [b]
      exact nI_pos (by omega)
    refine cF hn0 ⟨hi, vp_in_nI hlt (by decide), hi, ?_⟩
    rw [b]
    rw [a] at hQ hn1
    by_cases h2 : sd (4 * s + g) = nI q
    · simp [h2] at hQ ⊢
      exact hQ
    · simp [h2, hn1] at hQ ⊢
      exact hQ
theorem b_fit {p : Int32} {heard sound so sa sd ss : Nat → Int32} (h : RK heard sound so sa sd ss) (K : Prop) (hK : K) : w_X9_fit p heard so sd (fun r => w_X10_fit p sound sa ss (fun r2 => r = r2 ∧ K)) := by
  unfold w_X9_fit
  rw [e_within]
  cases hp : rng p 0 9 with
  | false =>
    refine bF1 ?_
    unfold w_X10_fit
    dsimp only
    rw [e_in, hp]
    exact bF2 ⟨rfl, hK⟩
  | true =>
    refine bT2 ?_
    obtain ⟨j, hj, rfl⟩ := rng0 (m := 9) (by decide) hp
    refine x_gaps h (by omega) ?_
    unfold w_X10_fit
    dsimp only
    rw [e_in, hp]
    refine bT1 ?_
    refine for_2 4 (by decide) (bitsOf (fitB heard so sd j)) (fun K2 k hk hK2 => ?_) (fun K2 => cT (le_r (by decide)) ⟨rfl, hK⟩) rfl
    refine cF (lt_f (by decide) hk (by decide)) (y_fitsAt h (by omega) hk ?_)
    simp only [wj1, forall_eq, nI_1]
    simp only [bitsOf] at hK2
    cases hf : fitB heard so sd j k with
    | true => rw [hf] at hK2; simp at hK2 ⊢; exact hK2
    | false => rw [hf] at hK2; simp [or_0] at hK2 ⊢; exact hK2
/-- pairs alike, as the class counts them and as the reference does -/
def pin (S : Nat → Int32) (g : Nat) (acc : Int32) : Nat → Int32
  | 0 => acc
  | k + 1 => if S g = S (g + 1 + k) then pin S g acc k + 1 else pin S g acc k
def pout (S : Nat → Int32) : Nat → Int32
  | 0 => 0
  | g + 1 => pin S g (pout S g) (3 - g)
def qin (S : Nat → Int32) (g : Nat) (acc : Int32) : Nat → Int32
  | 0 => acc
  | k + 1 => if S g = S k then qin S g acc k + 1 else qin S g acc k
def qout (S : Nat → Int32) : Nat → Int32
  | 0 => 0
  | g + 1 => qin S g (qout S g) g
theorem ite_b (c : Prop) [Decidable c] (x : Int32) : (if c then x + 1 else x) = x + bI (decide c) := by
  by_cases h : c
  · simp [h, bI]
  · simp [h, bI]
theorem pq (S : Nat → Int32) : pout S 4 = qout S 4 := by
  simp only [pout, qout, pin, qin, Nat.sub_self, Nat.reduceSub, Nat.reduceAdd, ite_b]
  have c : ∀ a b : Nat, decide (S a = S b) = decide (S b = S a) := fun a b => by
    by_cases h : S a = S b
    · simp [h]
    · simp [h, Ne.symm h]
  rw [c 1 0, c 2 0, c 2 1, c 3 0, c 3 1, c 3 2]
  generalize bI (decide (S 0 = S 1)) = a1
  generalize bI (decide (S 0 = S 2)) = a2
  generalize bI (decide (S 0 = S 3)) = a3
  generalize bI (decide (S 1 = S 2)) = a4
  generalize bI (decide (S 1 = S 3)) = a5
  generalize bI (decide (S 2 = S 3)) = a6
  ac_rfl
theorem for_2s {α : Type} {B : (α → Int32 → Prop) → α → Int32 → Prop} (k0 N : Nat) (hN : N < 2 ^ 31) (h0 : k0 ≤ N) (it : Nat → α) (hs : ∀ K k, k0 ≤ k → k < N → K (it (k + 1)) (nI (k + 1)) → B K (it k) (nI k)) (he : ∀ K, B K (it N) (nI N)) {a0 : α} {i0 : Int32} (ha : a0 = it k0) (hi : i0 = nI k0) : ∃ n, wL2 B n a0 i0 := by
  subst ha
  subst hi
  refine wL2_in (fun a b => ∃ k, k0 ≤ k ∧ k ≤ N ∧ b = nI k ∧ a = it k) (fun _ b => N - b.toNatClampNeg) ?_ (it k0) (nI k0) ⟨k0, Nat.le_refl _, h0, rfl, rfl⟩
  intro K a b hI hK
  obtain ⟨k, hk0, hk, rfl, rfl⟩ := hI
  by_cases h : k = N
  · subst h; exact he K
  · refine hs K k hk0 (by omega) (hK _ _ ⟨k + 1, by omega, by omega, rfl, rfl⟩ ?_)
    rw [nI_clamp (by omega), nI_clamp (by omega)]
    omega
theorem x_pairs {sd : Nat → Int32} {s : Nat} (hs : s < 4) {Q : Int32 → Prop} (h : Q (pout (fun g => sd (4 * s + g)) 4)) : w_X4_pairsAlike (nI s) sd Q := by
  unfold w_X4_pairsAlike
  refine for_2 4 (by decide) (pout (fun g => sd (4 * s + g))) (fun K g hg hK => ?_) (fun K => cT (le_r (by decide)) h) rfl
  refine cF (lt_f (by decide) hg (by decide)) (fun x ex => ?_)
  rw [nI_1] at ex
  refine for_2s (g + 1) 4 (by decide) (by omega) (fun j => pin (fun g => sd (4 * s + g)) g (pout (fun g => sd (4 * s + g)) g) (j - (g + 1))) (fun K2 j hgj hj hK2 => ?_) (fun K2 => ?_) (by simp [pin]) ex
  · refine cF (lt_f (by decide) hj (by decide)) ?_
    refine x_soundAt hs hg (x_soundAt hs hj ?_)
    simp only [wj1, forall_eq, nI_1]
    rw [show j + 1 - (g + 1) = (j - (g + 1)) + 1 by omega] at hK2
    simp only [pin] at hK2
    rw [show g + 1 + (j - (g + 1)) = j by omega] at hK2
    exact j_if' (J := fun x => K2 x (nI (j + 1))) hK2
  · refine cT (le_r (by decide)) (fun y ey => ?_)
    rw [nI_1] at ey
    subst ey
    simp only [pout] at hK
    rw [show 4 - (g + 1) = 3 - g by omega]
    exact hK
theorem b_unseen {p : Int32} {heard sound so sa sd ss : Nat → Int32} (h : RK heard sound so sa sd ss) (K : Prop) (hK : K) : w_X9_unseen p sd (fun r => w_X10_unseen p ss (fun r2 => r = r2 ∧ K)) := by
  unfold w_X9_unseen
  rw [e_within]
  cases hp : rng p 0 3 with
  | false =>
    refine bF1 ?_
    unfold w_X10_unseen
    dsimp only
    rw [e_in, hp]
    exact bF2 ⟨rfl, hK⟩
  | true =>
    refine bT2 ?_
    obtain ⟨s, hs, rfl⟩ := rng0 (m := 3) (by decide) hp
    refine x_pairs (by omega) ?_
    unfold w_X10_unseen
    dsimp only
    rw [e_in, hp]
    refine bT1 ?_
    have e4 : (4 : Int32) = nI 4 := by decide
    have em : ∀ g : Nat, 4 * nI s + nI g = nI (4 * s + g) := fun g => by rw [e4, pk_mul, nI_add]
    refine for_2 4 (by decide) (qout (fun g => sd (4 * s + g))) (fun K1 g hg hK1 => ?_) (fun K1 => cT (le_r (by decide)) ⟨pq _, hK⟩) rfl
    refine cF (lt_f (by decide) hg (by decide)) ?_
    refine for_2s 0 g (by omega) (Nat.zero_le _) (fun j => qin (fun g => sd (4 * s + g)) g (qout (fun g => sd (4 * s + g)) g) j) (fun K2 j _ hj hK2 => ?_) (fun K2 => ?_) rfl rfl
    · refine cF (lt_f rfl hj (by omega)) ?_
      rw [em, em]
      refine ⟨vp_in_nI (by omega) (by decide), vp_in_nI (by omega) (by decide), ?_⟩
      simp only [wj1, forall_eq, nI_1, nI_clamp (show 4 * s + g < 2 ^ 31 by omega), nI_clamp (show 4 * s + j < 2 ^ 31 by omega)]
      rw [h.2.2 _ (show 4 * s + g < 16 by omega), h.2.2 _ (show 4 * s + j < 16 by omega)]
      simp only [qin, ite_b] at hK2
      by_cases hc : sd (4 * s + g) = sd (4 * s + j)
      · refine cT' hc ?_
        simp only [hc, decide_true] at hK2
        exact hK2
      · refine cF' hc ?_
        simp only [hc, decide_false] at hK2
        exact hK2
    · refine cT (Int32.le_refl _) (fun y ey => ?_)
      rw [nI_1] at ey
      subst ey
      exact hK1
