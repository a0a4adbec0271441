/-! the pure side: small facts -/
def rng (a b c : Int32) : Bool := decide (¬ a < b ∧ ¬ c < a)
theorem e_within (a b c : Int32) (Q : Bool → Prop) : w_X9_within a b c Q = Q (rng a b c) := by
  unfold w_X9_within rng
  apply propext
  by_cases h1 : a < b
  · simp [h1]
  · by_cases h2 : c < a
    · simp [h1, h2]
    · simp [h1, h2]
theorem e_in (a b c : Int32) (Q : Bool → Prop) : w_X10_in a b c Q = Q (rng a b c) := by
  unfold w_X10_in rng
  apply propext
  by_cases h1 : a < b
  · simp [h1]
  · by_cases h2 : c < a
    · simp [h1, h2]
    · simp [h1, h2]
theorem i_lt {a b : Int32} : a < b ↔ a.toInt < b.toInt := Int32.lt_iff_toInt_lt
theorem i_le {a b : Int32} : a ≤ b ↔ a.toInt ≤ b.toInt := Int32.le_iff_toInt_le
theorem rng_iff {a b c : Int32} : rng a b c = true ↔ b.toInt ≤ a.toInt ∧ a.toInt ≤ c.toInt := by
  unfold rng
  rw [decide_eq_true_eq, i_lt, i_lt]
  omega
theorem rng_f {a b c : Int32} : rng a b c = false ↔ ¬ (b.toInt ≤ a.toInt ∧ a.toInt ≤ c.toInt) := by
  rw [← rng_iff]
  cases rng a b c <;> simp
theorem i_nat {x : Int32} (h : 0 ≤ x.toInt) : ∃ j : Nat, j < 2 ^ 31 ∧ x = nI j ∧ x.toInt = (j : Int) := by
  obtain ⟨j, h1, h2⟩ := nI_of (x := x) (by rw [i_lt]; show ¬ x.toInt < 0; omega)
  exact ⟨j, h1, h2, by rw [h2, nI_toInt h1]⟩
theorem rng0 {a c : Int32} {m : Nat} (hc : c.toInt = (m : Int)) (h : rng a 0 c = true) : ∃ j : Nat, j ≤ m ∧ a = nI j := by
  rw [rng_iff] at h
  obtain ⟨h1, h2⟩ := h
  have h1' : 0 ≤ a.toInt := h1
  obtain ⟨j, -, e1, e2⟩ := i_nat h1'
  exact ⟨j, by omega, e1⟩
theorem rng0_n {j : Nat} {c : Int32} {m : Nat} (hc : c.toInt = (m : Int)) (hj : j ≤ m) (hm : m < 2 ^ 31) : rng (nI j) 0 c = true := by
  rw [rng_iff, nI_toInt (by omega), hc]
  exact ⟨Int.natCast_nonneg j, by omega⟩
theorem rng_same {a b c b' c' : Int32} (h1 : b = b') (h2 : c = c') : rng a b c = rng a b' c' := by rw [h1, h2]
theorem upd_s {f : Nat → Int32} {k : Nat} {x : Int32} : upd f k x k = x := pk_us
theorem upd_n {f : Nat → Int32} {k j : Nat} {x : Int32} (h : j ≠ k) : upd f k x j = f j := pk_un h
theorem updB_s {f : Nat → Bool} {k : Nat} {x : Bool} : updB f k x k = x := by simp [updB]
theorem updB_n {f : Nat → Bool} {k j : Nat} {x : Bool} (h : j ≠ k) : updB f k x j = f j := by simp [updB, h]
theorem upd_eq {f g : Nat → Int32} {n k : Nat} {x : Int32} (h : ∀ j, j < n → f j = g j) : ∀ j, j < n → upd f k x j = upd g k x j := by
  intro j hj
  unfold upd
  by_cases e : j = k
  · rw [if_pos e, if_pos e]
  · rw [if_neg e, if_neg e, h j hj]
theorem bT1 {P Q : Prop} (h : P) : (true = true → P) ∧ (true = false → Q) := ⟨fun _ => h, fun q => (by cases q)⟩
theorem bT2 {P Q : Prop} (h : P) : (true = false → Q) ∧ (true = true → P) := ⟨fun q => (by cases q), fun _ => h⟩
theorem bF1 {P Q : Prop} (h : P) : (false = false → P) ∧ (false = true → Q) := ⟨fun _ => h, fun q => (by cases q)⟩
theorem bF2 {P Q : Prop} (h : P) : (false = true → Q) ∧ (false = false → P) := ⟨fun q => (by cases q), fun _ => h⟩
theorem cT {c P Q : Prop} (hc : c) (h : P) : (c → P) ∧ (¬ c → Q) := ⟨fun _ => h, fun q => absurd hc q⟩
theorem cF {c P Q : Prop} (hc : ¬ c) (h : Q) : (c → P) ∧ (¬ c → Q) := ⟨fun q => absurd q hc, fun _ => h⟩
theorem cT' {c P Q : Prop} (hc : c) (h : P) : (¬ c → Q) ∧ (c → P) := ⟨fun q => absurd hc q, fun _ => h⟩
theorem cF' {c P Q : Prop} (hc : ¬ c) (h : Q) : (¬ c → Q) ∧ (c → P) := ⟨fun _ => h, fun q => absurd q hc⟩
/-! signs -/
def RS (c : Int32) (row : Nat → Int32) (s : Int32) (sg : Nat → Int32) : Prop := ∃ n : Nat, n ≤ 40 ∧ c = nI n ∧ s = nI n ∧ ∀ j, j < n → sg j = row j
theorem b_wipe {c s : Int32} {row sg : Nat → Int32} (h : RS c row s sg) (K : Int32 → Int32 → Prop) (hK : ∀ c' s', RS c' row s' sg → K c' s') : w_X9_wipe c (fun r c' => w_X10_wipe s (fun r2 s' => r = r2 ∧ K c' s')) := by
  obtain ⟨n, hn, rfl, rfl, he⟩ := h
  simp only [w_X9_wipe, w_X10_wipe, w_X7_clear]
  exact ⟨trivial, hK _ _ ⟨0, by omega, rfl, rfl, fun j hj => absurd hj (by omega)⟩⟩
/-! rows that are put -/
theorem e_put (p v a b : Int32) (n : Nat) (f : Nat → Int32) (hn : n < 2 ^ 31) (Q : Int32 → (Nat → Int32) → Prop) (h1 : ¬ (rng p 0 (nI n - 1) = true ∧ rng v a b = true) → Q (-2) f) (h2 : ∀ j, j < n → p = nI j → rng v a b = true → Q (f j) (upd f j v)) : w_X9_put p v a b n f Q := by
  unfold w_X9_put
  rw [e_within]
  cases hr : rng p 0 (nI n - 1) with
  | false => exact bF1 (h1 (by rw [hr]; simp))
  | true =>
    refine bT2 ?_
    have hp : ∃ j, j < n ∧ p = nI j := by
      by_cases h0 : n = 0
      · subst h0
        rw [rng_iff] at hr
        have e : (nI 0 - 1 : Int32).toInt = -1 := by decide
        have e0 : (0 : Int32).toInt = 0 := by decide
        omega
      · have e : nI n - 1 = nI (n - 1) := pk_sub (b := 1) (by omega)
        rw [e] at hr
        obtain ⟨j, h3, h4⟩ := rng0 (m := n - 1) (by rw [nI_toInt (by omega)]) hr
        exact ⟨j, by omega, h4⟩
    obtain ⟨j, hj, rfl⟩ := hp
    rw [e_within]
    cases hv : rng v a b with
    | false => exact bF2 (h1 (by rw [hv]; simp))
    | true =>
      refine bT1 ⟨vp_in_nI hj hn, fun x ex => ⟨vp_in_nI hj hn, ?_⟩⟩
      rw [ex, nI_clamp (by omega)]
      exact h2 j hj rfl hv
def RR (n : Nat) (f g : Nat → Int32) : Prop := ∀ j, j < n → g j = f j
theorem RR_upd {n : Nat} {f g : Nat → Int32} (h : RR n f g) (k : Nat) (v : Int32) : RR n (upd f k v) (upd g k v) := upd_eq h
theorem RS_i {c s : Int32} {row sg : Nat → Int32} (h : RS c row s sg) : ∃ n : Nat, n ≤ 40 ∧ c = nI n ∧ s = nI n ∧ ∀ j, j < n → sg j = row j := h
theorem rng_in {p c : Int32} {n : Nat} (h : rng p 0 c = true) (hc : c.toInt + 1 = (n : Int)) : vp_in p n := by
  rw [rng_iff] at h
  rw [vp_in_iff]
  have e0 : (0 : Int32).toInt = 0 := by decide
  omega
theorem b_rate {p v : Int32} {f g : Nat → Int32} (h : RR 5 f g) (K : (Nat → Int32) → (Nat → Int32) → Prop) (hK : ∀ f' g', RR 5 f' g' → K f' g') : w_X9_rate p v f (fun r f' => w_X10_rate p v g (fun r2 g' => r = r2 ∧ K f' g')) := by
  have e4 : nI 5 - 1 = (4 : Int32) := by decide
  simp only [w_X9_rate, w_X9_put, w_X10_rate, e_within, e_in, e4, forall_eq]
  cases hp : rng p 0 4 <;> cases hv : rng v 0 100 <;> simp
  · exact hK _ _ h
  · exact hK _ _ h
  · exact hK _ _ h
  · have hi : vp_in p 5 := rng_in hp (by decide)
    obtain ⟨j, hj, rfl⟩ := vp_in_of hi (by decide)
    simp only [hi, true_and, nI_clamp (show j < 2 ^ 31 by omega)]
    exact ⟨(h j hj).symm, hK _ _ (RR_upd h j v)⟩
theorem b_say {v c s : Int32} {row sg : Nat → Int32} (h : RS c row s sg) (K : (Nat → Int32) → Int32 → (Nat → Int32) → Int32 → Prop) (hK : ∀ row' c' sg' s', RS c' row' s' sg' → K row' c' sg' s') : w_X9_say v c row (fun r row' c' => w_X10_say v s sg (fun r2 sg' s' => r = r2 ∧ K row' c' sg' s')) := by
  have h0 := h
  obtain ⟨n, hn, rfl, rfl, he⟩ := h
  have e40 : (40 : Int32) = nI 40 := by decide
  simp only [w_X9_say, w_X10_say, e_within, e_in, w_X7_append, forall_eq, e40, nI_ltI (show n < 2 ^ 31 by omega) (show 40 < 2 ^ 31 by decide), nI_eq (show n < 2 ^ 31 by omega) (show 40 < 2 ^ 31 by decide), nI_clamp (show n < 2 ^ 31 by omega), nI_1]
  cases hr : rng v 33 126 <;> simp
  · exact hK _ _ _ _ h0
  · by_cases hc : n = 40
    · subst hc
      simp
      exact hK _ _ _ _ h0
    · have hl : n < 40 := by omega
      have hl' : ¬ 40 ≤ n := by omega
      simp only [hl, hc, hl', vp_in_nI hl (show 40 < 2 ^ 31 by decide)]
      simp
      exact hK (upd row n v) _ (upd sg n v) _ ⟨n + 1, by omega, rfl, rfl, fun j hj => by
        unfold upd
        by_cases e : j = n
        · rw [if_pos e, if_pos e]
        · rw [if_neg e, if_neg e, he j (by omega)]⟩
/-! counted loops -/
theorem for_1 {B : (Int32 → Prop) → Int32 → Prop} (N : Nat) (hN : N < 2 ^ 31) (hs : ∀ K k, k < N → K (nI (k + 1)) → B K (nI k)) (he : ∀ K, B K (nI N)) : ∃ n, wL1 B n 0 := by
  refine wL1_in (fun b => ∃ k, k ≤ N ∧ b = nI k) (fun b => N - b.toNatClampNeg) ?_ 0 ⟨0, Nat.zero_le _, rfl⟩
  intro K b hI hK
  obtain ⟨k, hk, rfl⟩ := hI
  by_cases h : k = N
  · subst h; exact he K
  · refine hs K k (by omega) (hK _ ⟨k + 1, by omega, rfl⟩ ?_)
    rw [nI_clamp (by omega), nI_clamp (by omega)]
    omega
theorem for_2 {α : Type} {B : (α → Int32 → Prop) → α → Int32 → Prop} (N : Nat) (hN : N < 2 ^ 31) (it : Nat → α) (hs : ∀ K k, k < N → K (it (k + 1)) (nI (k + 1)) → B K (it k) (nI k)) (he : ∀ K, B K (it N) (nI N)) {a0 : α} (ha : a0 = it 0) : ∃ n, wL2 B n a0 0 := by
  subst ha
  refine wL2_in (fun a b => ∃ k, k ≤ N ∧ b = nI k ∧ a = it k) (fun _ b => N - b.toNatClampNeg) ?_ (it 0) 0 ⟨0, Nat.zero_le _, rfl, rfl⟩
  intro K a b hI hK
  obtain ⟨k, hk, rfl, rfl⟩ := hI
  by_cases h : k = N
  · subst h; exact he K
  · refine hs K k (by omega) (hK _ _ ⟨k + 1, by omega, rfl, rfl⟩ ?_)
    rw [nI_clamp (by omega), nI_clamp (by omega)]
    omega
theorem for_2r {α : Type} {B : (Int32 → α → Prop) → Int32 → α → Prop} (N : Nat) (hN : N < 2 ^ 31) (it : Nat → α) (hs : ∀ K k, k < N → K (nI (k + 1)) (it (k + 1)) → B K (nI k) (it k)) (he : ∀ K, B K (nI N) (it N)) {a0 : α} (ha : a0 = it 0) : ∃ n, wL2 B n 0 a0 := by
  subst ha
  refine wL2_in (fun b a => ∃ k, k ≤ N ∧ b = nI k ∧ a = it k) (fun b _ => N - b.toNatClampNeg) ?_ 0 (it 0) ⟨0, Nat.zero_le _, rfl, rfl⟩
  intro K b a hI hK
  obtain ⟨k, hk, rfl, rfl⟩ := hI
  by_cases h : k = N
  · subst h; exact he K
  · refine hs K k (by omega) (hK _ _ ⟨k + 1, by omega, rfl, rfl⟩ ?_)
    rw [nI_clamp (by omega), nI_clamp (by omega)]
    omega
theorem for_3 {α β : Type} {B : (α → β → Int32 → Prop) → α → β → Int32 → Prop} (N : Nat) (hN : N < 2 ^ 31) (it : Nat → α) (ib : Nat → β) (hs : ∀ K k, k < N → K (it (k + 1)) (ib (k + 1)) (nI (k + 1)) → B K (it k) (ib k) (nI k)) (he : ∀ K, B K (it N) (ib N) (nI N)) {a0 : α} {b0 : β} (ha : a0 = it 0) (hb : b0 = ib 0) : ∃ n, wL3 B n a0 b0 0 := by
  subst ha
  subst hb
  refine wL3_in (fun a b c => ∃ k, k ≤ N ∧ c = nI k ∧ a = it k ∧ b = ib k) (fun _ _ c => N - c.toNatClampNeg) ?_ (it 0) (ib 0) 0 ⟨0, Nat.zero_le _, rfl, rfl, rfl⟩
  intro K a b c hI hK
  obtain ⟨k, hk, rfl, rfl, rfl⟩ := hI
  by_cases h : k = N
  · subst h; exact he K
  · refine hs K k (by omega) (hK _ _ _ ⟨k + 1, by omega, rfl, rfl, rfl⟩ ?_)
    rw [nI_clamp (by omega), nI_clamp (by omega)]
    omega
theorem lt_f {k N : Nat} {c : Int32} (hc : c = nI N) (h : k < N) (hN : N < 2 ^ 31) : ¬ c ≤ nI k := by
  rw [hc, nI_leI (by omega) (by omega)]
  omega
theorem le_r {N : Nat} {c : Int32} (hc : c = nI N) : c ≤ nI N := by
  rw [hc]
  exact Int32.le_refl _
/-- bits by a test -/
def bitsOf (t : Nat → Bool) : Nat → Int32
  | 0 => 0
  | n + 1 => if t n = true then bitsOf t n ||| (1 <<< (nI n &&& 31)) else bitsOf t n
theorem or_0 (x : Int32) : x ||| 0 = x := by
  apply Int32.toBitVec_inj.mp
  simp
theorem x_lapBits {laps : Nat → Option Nat} {Q : Int32 → Prop} (h : Q (bitsOf (fun k => (laps k).isSome) 6)) : w_X9_lapBits laps Q := by
  unfold w_X9_lapBits
  refine for_2 6 (by decide) (bitsOf (fun k => (laps k).isSome)) (fun K k hk hK => ?_) (fun K => ⟨fun _ => h, fun q => absurd (le_r (by decide)) q⟩) rfl
  refine cF (lt_f (by decide) hk (by decide)) ⟨vp_in_nI hk (by decide), ?_⟩
  simp only [wj1, forall_eq, nI_clamp (show k < 2 ^ 31 by omega), nI_1]
  cases hl : laps k with
  | none => simp only [bitsOf, hl] at hK; simp; simpa using hK
  | some a => simp only [bitsOf, hl] at hK; simp; simpa using hK
theorem x_bits {hours : Nat → Int32} {Q : Int32 → Prop} (h : Q (bitsOf (fun k => decide (¬ hours k ≤ 0)) 7)) : w_X3_bits hours Q := by
  unfold w_X3_bits
  refine for_2 7 (by decide) (bitsOf (fun k => decide (¬ hours k ≤ 0))) (fun K k hk hK => ?_) (fun K => ⟨fun _ => h, fun q => absurd (le_r (by decide)) q⟩) rfl
  refine cF (lt_f (by decide) hk (by decide)) ?_
  unfold w_X3_isThere
  rw [e_within, rng0_n (m := 6) (by decide) (by omega) (by decide)]
  refine bT2 ⟨vp_in_nI hk (by decide), ?_⟩
  simp only [wj1, forall_eq, nI_clamp (show k < 2 ^ 31 by omega), nI_1]
  by_cases hc : hours k ≤ 0
  · simp only [bitsOf, hc] at hK; simp [hc]; simpa using hK
  · simp only [bitsOf, hc] at hK; simp [hc]; simpa using hK
theorem y_joints {hours : Nat → Int32} {Q : Int32 → Prop} (h : Q (bitsOf (fun k => decide (¬ hours k ≤ 0)) 7)) : w_X10_joints hours Q := by
  unfold w_X10_joints
  refine for_2 7 (by decide) (bitsOf (fun k => decide (¬ hours k ≤ 0))) (fun K k hk hK => ?_) (fun K => ⟨fun _ => h, fun q => absurd (le_r (by decide)) q⟩) rfl
  refine cF (lt_f (by decide) hk (by decide)) ⟨vp_in_nI hk (by decide), ?_⟩
  simp only [wj1, forall_eq, nI_clamp (show k < 2 ^ 31 by omega), nI_1, or_0]
  by_cases hc : hours k ≤ 0
  · simp only [bitsOf, hc] at hK; simp [hc]; simpa using hK
  · simp only [bitsOf, hc] at hK; simp [hc]; simpa using hK
