/-! choices -/
def RC (c : Int32) (kd pr hd sw : Nat → Int32) (s : Int32) (kd2 pr2 hd2 sw2 : Nat → Int32) : Prop := ∃ n : Nat, n ≤ 12 ∧ c = nI n ∧ s = nI n ∧ ∀ j, j < n → kd2 j = kd j ∧ pr2 j = pr j ∧ hd2 j = hd j ∧ sw2 j = sw j ∧ ∃ w : Nat, w ≤ 1000 ∧ pr j = nI w
theorem b_choice {p0 p1 p2 p3 c s : Int32} {kd pr hd sw kd2 pr2 hd2 sw2 : Nat → Int32} (h : RC c kd pr hd sw s kd2 pr2 hd2 sw2) (K : (Nat → Int32) → (Nat → Int32) → (Nat → Int32) → (Nat → Int32) → Int32 → (Nat → Int32) → (Nat → Int32) → (Nat → Int32) → (Nat → Int32) → Int32 → Prop) (hK : ∀ a b d e f a' b' d' e' f', RC f a b d e f' a' b' d' e' → K a b d e f a' b' d' e' f') : w_X9_choice p0 p1 p2 p3 c kd pr hd sw (fun r a b d e f => w_X10_choice p0 p1 p2 p3 s kd2 pr2 hd2 sw2 (fun r2 a' b' d' e' f' => r = r2 ∧ K a b d e f a' b' d' e' f')) := by
  have h0 := h
  obtain ⟨n, hn, rfl, rfl, he⟩ := h
  have e12 : (12 : Int32) = nI 12 := by decide
  simp only [w_X9_choice, w_X9_isLoad, w_X10_choice, e_within, e_in, w_X1_append, forall_eq, e12, nI_ltI (show n < 2 ^ 31 by omega) (show 12 < 2 ^ 31 by decide), nI_eq (show n < 2 ^ 31 by omega) (show 12 < 2 ^ 31 by decide), nI_clamp (show n < 2 ^ 31 by omega), nI_1]
  cases hr : rng p0 0 3 <;> cases hr1 : rng p1 0 1000 <;> cases hr2 : rng p2 0 10000 <;> cases hr3 : rng p3 0 10000 <;> simp
  all_goals first
    | exact hK _ _ _ _ _ _ _ _ _ _ h0
    | skip
  by_cases hc : n = 12
  · subst hc
    simp
    exact hK _ _ _ _ _ _ _ _ _ _ h0
  · have hl : n < 12 := by omega
    have hl' : ¬ 12 ≤ n := by omega
    simp only [hl, hc, hl', vp_in_nI hl (show 12 < 2 ^ 31 by decide)]
    simp
    obtain ⟨w, hw, rfl⟩ := rng0 (m := 1000) (by decide) hr1
    refine hK (upd kd n _) (upd pr n _) (upd hd n _) (upd sw n _) _ (upd kd2 n _) (upd pr2 n _) (upd hd2 n _) (upd sw2 n _) _ ⟨n + 1, by omega, rfl, rfl, fun j hj => ?_⟩
    by_cases e : j = n
    · subst e; simp only [upd_s]; exact ⟨trivial, trivial, trivial, trivial, w, hw, rfl⟩
    · simp only [upd_n e]; exact he j (by omega)
/-! joints -/
def RJ (hours needs jh jn : Nat → Int32) : Prop := ∀ j, j < 7 → jh j = hours j ∧ jn j = needs j ∧ (∃ w : Nat, w ≤ 100 ∧ hours j = nI w) ∧ ∃ d : Nat, d ≤ 127 ∧ needs j = nI d
theorem b_joint {p a b sc : Int32} {hours needs jh jn : Nat → Int32} (h : RJ hours needs jh jn) (K : (Nat → Int32) → (Nat → Int32) → Int32 → (Nat → Int32) → (Nat → Int32) → Prop) (h1 : K hours needs sc jh jn) (hK : ∀ h' n' jh' jn', RJ h' n' jh' jn' → K h' n' 0 jh' jn') : w_X9_joint p a b sc hours needs (fun r h' n' s' => w_X10_joint p a b jh jn (fun r2 jh' jn' => r = r2 ∧ K h' n' s' jh' jn')) := by
  simp only [w_X9_joint, w_X3_change, w_X10_joint, w_X10_isJoint, e_within, e_in, forall_eq]
  cases hp : rng p 0 6 <;> cases ha : rng a 0 100 <;> cases hb : rng b 0 127 <;> simp
  all_goals first
    | exact h1
    | skip
  have hi : vp_in p 7 := rng_in hp (by decide)
  obtain ⟨j, hj, rfl⟩ := vp_in_of hi (by decide)
  simp only [hi, true_and, nI_clamp (show j < 2 ^ 31 by omega)]
  obtain ⟨w, hw, rfl⟩ := rng0 (m := 100) (by decide) ha
  obtain ⟨d, hd, rfl⟩ := rng0 (m := 127) (by decide) hb
  refine ⟨(h j hj).1.symm, hK _ _ _ _ (fun i hi' => ?_)⟩
  by_cases e : i = j
  · subst e; simp only [upd_s]; exact ⟨trivial, trivial, ⟨w, hw, rfl⟩, d, hd, rfl⟩
  · simp only [upd_n e]; exact h i hi'
/-! settings -/
def RE (f g : Nat → Int32) : Prop := ∀ j, j < 8 → g j = f j ∧ (zLEAST j).toInt ≤ (f j).toInt ∧ (f j).toInt ≤ (zMOST j).toInt
theorem b_set {p v : Int32} {f g : Nat → Int32} (h : RE f g) (K : (Nat → Int32) → (Nat → Int32) → Prop) (hK : ∀ f' g', RE f' g' → K f' g') : w_X9_set p v f (fun r f' => w_X10_set p v g (fun r2 g' => r = r2 ∧ K f' g')) := by
  have e7 : nI 8 - 1 = (7 : Int32) := by decide
  have e7' : (8 : Int32) - 1 = 7 := by decide
  simp only [w_X9_set, w_X9_put, w_X10_set, e_within, e_in, e7, e7', forall_eq, wj1]
  cases hp : rng p 0 7 with
  | false => simp; exact hK _ _ h
  | true =>
    have hi : vp_in p 8 := rng_in hp (by decide)
    obtain ⟨j, hj, rfl⟩ := vp_in_of hi (by decide)
    have hnew : rng v (zLEAST j) (zMOST j) = true → RE (upd f j v) (upd g j v) := by
      intro hv i hi'
      rw [rng_iff] at hv
      by_cases e : i = j
      · subst e; simp only [upd_s]; exact ⟨trivial, hv.1, hv.2⟩
      · simp only [upd_n e]; exact h i hi'
    simp only [hi, true_and, nI_clamp (show j < 2 ^ 31 by omega)]
    have key : ∀ (lo hi' : Int32), lo = zLEAST j → hi' = zMOST j → ((rng v lo hi' = true → f j = g j ∧ K (upd f j v) (upd g j v)) ∧ (rng v lo hi' = false → K f g)) := by
      intro lo hi' e1 e2
      subst e1
      subst e2
      exact ⟨fun hv => ⟨(h j hj).1.symm, hK _ _ (hnew hv)⟩, fun _ => hK _ _ h⟩
    have kk := key (zLEAST j) (zMOST j) rfl rfl
    rcases (show j = 0 ∨ j = 1 ∨ j = 2 ∨ j = 3 ∨ j = 4 ∨ j = 5 ∨ j = 6 ∨ j = 7 by omega) with rfl | rfl | rfl | rfl | rfl | rfl | rfl | rfl
    all_goals
      simp only [nI, zLEAST, zMOST, bI] at *
      simp at kk ⊢
      cases hv : rng v _ _ <;> simp [hv] at kk ⊢ <;> exact kk
