/-! THE GREATEST BID: one that may be chosen, with the greatest price, of several the one told first -/
def gr_ob (b : Option Nat) : Int32 := match b with
  | none => -1
  | some b => nI b
def gr_up (cd : Nat → Bool) (P W : Nat → Nat) (b : Option Nat) (a : Nat) : Option Nat := match b with
  | none => if cd a = true then some a else none
  | some b => if cd a = true ∧ (P b < P a ∨ (P a = P b ∧ W a < W b)) then some a else some b
def gr_f (cd : Nat → Bool) (P W : Nat → Nat) : Nat → Nat → Option Nat → Option Nat
  | 0, _, b => b
  | k + 1, a, b => gr_f cd P W k (a + 1) (gr_up cd P W b a)
theorem gr_in {cd : Nat → Bool} {P W : Nat → Nat} {N : Nat} : ∀ k a b, a + k ≤ N → (∀ c, b = some c → c < N ∧ cd c = true) → ∀ c, gr_f cd P W k a b = some c → c < N ∧ cd c = true := by
  intro k
  induction k with
  | zero => intro a b _ h c hc; exact h c hc
  | succ k ih =>
    intro a b hN h c hc
    refine ih (a + 1) _ (by omega) ?_ c hc
    intro d hd
    cases b with
    | none =>
      simp only [gr_up] at hd
      split at hd
      · next hcd => cases hd; exact ⟨by omega, hcd⟩
      · cases hd
    | some b =>
      simp only [gr_up] at hd
      split at hd
      · next hcd => cases hd; exact ⟨by omega, hcd.1⟩
      · cases hd; exact h _ rfl
/-- it hangs on who may be chosen, on prices and order alone -/
theorem gr_cg {cd cd' : Nat → Bool} {P P' W W' : Nat → Nat} {N : Nat} (h1 : ∀ a, a < N → cd' a = cd a) (h2 : ∀ a, a < N → cd a = true → P' a = P a) (h3 : ∀ a b, a < N → b < N → cd a = true → cd b = true → (W' a < W' b ↔ W a < W b)) : ∀ k a b, a + k ≤ N → (∀ c, b = some c → c < N ∧ cd c = true) → gr_f cd' P' W' k a b = gr_f cd P W k a b := by
  intro k
  induction k with
  | zero => intro a b _ _; rfl
  | succ k ih =>
    intro a b hN hb
    have e : gr_up cd' P' W' b a = gr_up cd P W b a := by
      cases b with
      | none => simp only [gr_up, h1 a (by omega)]
      | some b =>
        obtain ⟨q1, q2⟩ := hb b rfl
        simp only [gr_up, h1 a (by omega)]
        by_cases ca : cd a = true
        · rw [h2 a (by omega) ca, h2 b q1 q2]
          simp only [ca, true_and, h3 a b (by omega) q1 ca q2]
        · simp only [ca, Bool.false_eq_true, false_and, if_false]
    show gr_f cd' P' W' k (a + 1) (gr_up cd' P' W' b a) = gr_f cd P W k (a + 1) (gr_up cd P W b a)
    rw [e]
    refine ih (a + 1) _ (by omega) ?_
    intro c hc
    cases b with
    | none =>
      simp only [gr_up] at hc
      split at hc
      · next hcd => cases hc; exact ⟨by omega, hcd⟩
      · cases hc
    | some b =>
      simp only [gr_up] at hc
      split at hc
      · next hcd => cases hc; exact ⟨by omega, hcd.1⟩
      · cases hc; exact hb _ rfl
/-- those behind the last that may be chosen change nothing -/
theorem gr_cut {cd : Nat → Bool} {P W : Nat → Nat} {na : Nat} (h : ∀ a, na ≤ a → cd a = false) : ∀ k a b, na ≤ a → gr_f cd P W k a b = b := by
  intro k
  induction k with
  | zero => intro a b _; rfl
  | succ k ih =>
    intro a b ha
    show gr_f cd P W k (a + 1) (gr_up cd P W b a) = b
    have : gr_up cd P W b a = b := by
      cases b <;> simp [gr_up, h a ha]
    rw [this]
    exact ih (a + 1) b (by omega)
theorem gr_ad {cd : Nat → Bool} {P W : Nat → Nat} : ∀ k l a b, gr_f cd P W (k + l) a b = gr_f cd P W l (a + k) (gr_f cd P W k a b) := by
  intro k
  induction k with
  | zero => intro l a b; simp [gr_f]
  | succ k ih =>
    intro l a b
    rw [show k + 1 + l = (k + l) + 1 by omega]
    show gr_f cd P W (k + l) (a + 1) (gr_up cd P W b a) = _
    rw [ih l (a + 1)]
    show _ = gr_f cd P W l (a + (k + 1)) (gr_f cd P W k (a + 1) (gr_up cd P W b a))
    rw [show a + 1 + k = a + (k + 1) by omega]
theorem gr_ob_lt (b : Option Nat) (h : ∀ c, b = some c → c < 8) : (gr_ob b < 0 ↔ b = none) := by
  cases b with
  | none => simp [gr_ob]
  | some c => simp [gr_ob]; exact Int32.not_lt.mp (nI_pos (by have := h c rfl; omega))
