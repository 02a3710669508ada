/-! COUNTING: who falls, who leads, in numbers alone -/
def hf (f : Nat → Nat) (s all : Nat) : Nat → Bool
  | 0 => false
  | k + 1 => hf f s all k || (decide (s / 2 ^ k % 2 = 1) && decide (all < 2 * f k))
def le_f (f : Nat → Nat) (s : Nat) : Nat → Option Nat
  | 0 => none
  | k + 1 => if s / 2 ^ k % 2 = 1 then (match le_f f s k with | none => some k | some b => if f k ≤ f b then some k else some b) else le_f f s k
def mx (f : Nat → Nat) : Nat → Nat
  | 0 => 0
  | k + 1 => if mx f k < f k then f k else mx f k
def mo_f (f : Nat → Nat) : Nat → Option Nat
  | 0 => none
  | k + 1 => if (match mo_f f k with | none => 0 | some b => f b) < f k then some k else mo_f f k
def fi_f (f : Nat → Nat) : Nat → Nat
  | 0 => 0
  | k + 1 => if f (fi_f f k) < f k then k else fi_f f k
def ro (F : Nat → Nat → Nat) : Nat → Nat → List Nat × Nat
  | 0, s => ([], s)
  | k + 1, s => if hf (F s) s (ct (F s) 4) 4 = true then ([], s) else match le_f (F s) s 4 with
    | none => ([], s)
    | some b => (b :: (ro F k (s - 2 ^ b)).1, (ro F k (s - 2 ^ b)).2)
theorem mx_le {f : Nat → Nat} {B : Nat} : ∀ k, (∀ c, c < k → f c ≤ B) → mx f k ≤ B := by
  intro k
  induction k with
  | zero => intro _; exact Nat.zero_le _
  | succ k ih =>
    intro h
    show (if mx f k < f k then f k else mx f k) ≤ B
    have h1 := ih (fun c hc => h c (by omega))
    have h2 := h k (by omega)
    split <;> omega
theorem mx_half {f : Nat → Nat} {all : Nat} : ∀ k, all < 2 * mx f k ↔ ∃ c, c < k ∧ all < 2 * f c := by
  intro k
  induction k with
  | zero => exact ⟨fun z => absurd z (Nat.not_lt_zero _), fun ⟨c, z, _⟩ => absurd z (Nat.not_lt_zero _)⟩
  | succ k ih =>
    show all < 2 * (if mx f k < f k then f k else mx f k) ↔ _
    constructor
    · intro z
      by_cases e : mx f k < f k
      · rw [if_pos e] at z; exact ⟨k, by omega, z⟩
      · rw [if_neg e] at z
        obtain ⟨c, h1, h2⟩ := ih.mp z
        exact ⟨c, by omega, h2⟩
    · rintro ⟨c, h1, h2⟩
      by_cases ec : c = k
      · subst ec
        split <;> omega
      · have := ih.mpr ⟨c, by omega, h2⟩
        split <;> omega
theorem hf_iff {f : Nat → Nat} {s all : Nat} : ∀ k, hf f s all k = true ↔ ∃ c, c < k ∧ s / 2 ^ c % 2 = 1 ∧ all < 2 * f c := by
  intro k
  induction k with
  | zero => exact ⟨fun z => absurd z (by show ¬ (false = true); decide), fun ⟨c, z, _⟩ => absurd z (Nat.not_lt_zero _)⟩
  | succ k ih =>
    show (hf f s all k || (decide (s / 2 ^ k % 2 = 1) && decide (all < 2 * f k))) = true ↔ _
    rw [Bool.or_eq_true, Bool.and_eq_true, decide_eq_true_iff, decide_eq_true_iff, ih]
    constructor
    · rintro (⟨c, h1, h2⟩ | ⟨h1, h2⟩)
      · exact ⟨c, by omega, h2⟩
      · exact ⟨k, by omega, h1, h2⟩
    · rintro ⟨c, h1, h2, h3⟩
      by_cases ec : c = k
      · subst ec; exact Or.inr ⟨h2, h3⟩
      · exact Or.inl ⟨c, by omega, h2, h3⟩
theorem le_none {f : Nat → Nat} {s : Nat} : ∀ k, le_f f s k = none → ∀ c, c < k → s / 2 ^ c % 2 ≠ 1 := by
  intro k
  induction k with
  | zero => intro _ c z; exact absurd z (Nat.not_lt_zero _)
  | succ k ih =>
    intro h c hc
    have h' : (if s / 2 ^ k % 2 = 1 then (match le_f f s k with | none => some k | some b => if f k ≤ f b then some k else some b) else le_f f s k) = none := h
    by_cases e : s / 2 ^ k % 2 = 1
    · rw [if_pos e] at h'
      cases hb : le_f f s k with
      | none => rw [hb] at h'; cases h'
      | some b => rw [hb] at h'; simp only at h'; split at h' <;> cases h'
    · rw [if_neg e] at h'
      by_cases ec : c = k
      · rw [ec]; exact e
      · exact ih h' c (by omega)
theorem le_some {f : Nat → Nat} {s : Nat} : ∀ k b, le_f f s k = some b → b < k ∧ s / 2 ^ b % 2 = 1 := by
  intro k
  induction k with
  | zero => intro b z; cases z
  | succ k ih =>
    intro b h
    have h' : (if s / 2 ^ k % 2 = 1 then (match le_f f s k with | none => some k | some b => if f k ≤ f b then some k else some b) else le_f f s k) = some b := h
    by_cases e : s / 2 ^ k % 2 = 1
    · rw [if_pos e] at h'
      cases hb : le_f f s k with
      | none =>
        rw [hb] at h'
        rw [← Option.some.inj h']; exact ⟨by omega, e⟩
      | some b' =>
        rw [hb] at h'
        simp only at h'
        have := ih b' hb
        by_cases e2 : f k ≤ f b'
        · rw [if_pos e2] at h'; rw [← Option.some.inj h']; exact ⟨by omega, e⟩
        · rw [if_neg e2] at h'; rw [← Option.some.inj h']; exact ⟨by omega, this.2⟩
    · rw [if_neg e] at h'
      have := ih b h'
      exact ⟨by omega, this.2⟩
theorem le_ext {f : Nat → Nat} {s n : Nat} : ∀ k, (∀ c, n ≤ c → c < n + k → s / 2 ^ c % 2 = 0) → le_f f s (n + k) = le_f f s n := by
  intro k
  induction k with
  | zero => intro _; rfl
  | succ k ih =>
    intro h
    show (if s / 2 ^ (n + k) % 2 = 1 then (match le_f f s (n + k) with | none => some (n + k) | some b => if f (n + k) ≤ f b then some (n + k) else some b) else le_f f s (n + k)) = _
    rw [if_neg (by have := h (n + k) (by omega) (by omega); omega)]
    exact ih (fun c h1 h2 => h c h1 (by omega))
theorem mo_fi {f : Nat → Nat} : ∀ k, mo_f f (k + 1) = if (∃ c, c < k + 1 ∧ 0 < f c) then some (fi_f f (k + 1)) else none := by
  intro k
  induction k with
  | zero =>
    show (if 0 < f 0 then some 0 else none) = _
    have e1 : fi_f f 1 = 0 := by
      show (if f 0 < f 0 then 0 else 0) = 0
      split <;> rfl
    rw [e1]
    by_cases z : 0 < f 0
    · rw [if_pos z, if_pos ⟨0, by omega, z⟩]
    · rw [if_neg z, if_neg (fun ⟨c, h1, h2⟩ => z (by have e : c = 0 := (by omega); rw [e] at h2; exact h2))]
  | succ k ih =>
    show (if (match mo_f f (k + 1) with | none => 0 | some b => f b) < f (k + 1) then some (k + 1) else mo_f f (k + 1)) = _
    have ef : fi_f f (k + 1 + 1) = if f (fi_f f (k + 1)) < f (k + 1) then k + 1 else fi_f f (k + 1) := rfl
    by_cases hp : ∃ c, c < k + 1 ∧ 0 < f c
    · rw [if_pos hp] at ih
      rw [ih]
      have hp2 : ∃ c, c < k + 1 + 1 ∧ 0 < f c := by obtain ⟨c, h1, h2⟩ := hp; exact ⟨c, by omega, h2⟩
      rw [if_pos hp2, ef]
      by_cases z : f (fi_f f (k + 1)) < f (k + 1)
      · rw [if_pos z, if_pos z]
      · rw [if_neg z, if_neg z]
    · rw [if_neg hp] at ih
      rw [ih]
      have hz : ∀ c, c < k + 1 → f c = 0 := fun c hc => Nat.eq_zero_of_not_pos (fun q => hp ⟨c, hc, q⟩)
      have hfi : ∀ j, fi_f f (j + 1) ≤ j := by
        intro j
        induction j with
        | zero => show (if f 0 < f 0 then 0 else 0) ≤ 0; split <;> omega
        | succ j ihj => show (if f (fi_f f (j + 1)) < f (j + 1) then j + 1 else fi_f f (j + 1)) ≤ j + 1; split <;> omega
      have h0 := hz (fi_f f (k + 1)) (by have := hfi k; omega)
      by_cases z : 0 < f (k + 1)
      · have z' : (match (none : Option Nat) with | none => 0 | some b => f b) < f (k + 1) := z
        rw [if_pos z', if_pos ⟨k + 1, by omega, z⟩, ef, if_pos (by omega)]
      · have z' : ¬ (match (none : Option Nat) with | none => 0 | some b => f b) < f (k + 1) := z
        rw [if_neg z', if_neg]
        rintro ⟨c, h1, h2⟩
        by_cases ec : c = k + 1
        · rw [ec] at h2; exact z h2
        · have := hz c (by omega); omega
theorem fi_lt {f : Nat → Nat} : ∀ j, fi_f f (j + 1) ≤ j := by
  intro j
  induction j with
  | zero => show (if f 0 < f 0 then 0 else 0) ≤ 0; split <;> omega
  | succ j ihj => show (if f (fi_f f (j + 1)) < f (j + 1) then j + 1 else fi_f f (j + 1)) ≤ j + 1; split <;> omega
theorem rb_0 : ∀ s, s < 16 → ∀ c, c < 4 → s / 2 ^ c % 2 = 1 → (nI s &&& (((1 : Int32) <<< (nI c &&& 31)) ^^^ (-1 : Int32))) = nI (s - 2 ^ c) ∧ rk_p (s - 2 ^ c) + 1 = rk_p s := by decide +kernel
theorem rb_1 {ch s c : Nat} (hch : ch < 5) (hs : s < 2 ^ ch) (hc : c < 4) (hb : s / 2 ^ c % 2 = 1) : (nI s &&& ((1 <<< (nI c &&& 31)) ^^^ (-1))) = nI (s - 2 ^ c) ∧ s - 2 ^ c < 2 ^ ch ∧ rk_p (s - 2 ^ c) + 1 = rk_p s := by
  have h16 : s < 16 := Nat.lt_of_lt_of_le hs (show 2 ^ ch ≤ 2 ^ 4 from Nat.pow_le_pow_right (by decide) (by omega))
  obtain ⟨q1, q2⟩ := rb_0 s h16 c hc hb
  exact ⟨q1, Nat.lt_of_le_of_lt (Nat.sub_le _ _) hs, q2⟩
theorem rb_3 : ∀ s, s < 16 → ∀ c, c < 4 → s / 2 ^ c % 2 = 1 → ∀ d, d < 4 → (s - 2 ^ c) / 2 ^ d % 2 = if d = c then 0 else s / 2 ^ d % 2 := by decide +kernel
theorem rb_2 : ∀ ch, ch < 5 → (∀ s, s < 2 ^ ch → s < 16 ∧ ∀ c, c < 4 → ch ≤ c → s / 2 ^ c % 2 = 0) ∧ 2 ^ ch - 1 < 2 ^ ch ∧ rk_p (2 ^ ch - 1) = ch ∧ ((1 : Int32) <<< (nI ch &&& 31)) - 1 = nI (2 ^ ch - 1) ∧ ∀ c, c < 4 → (2 ^ ch - 1) / 2 ^ c % 2 = if c < ch then 1 else 0 := by decide +kernel
theorem rb_p {s : Nat} (h : 1 ≤ rk_p s) : ∃ c, c < 4 ∧ s / 2 ^ c % 2 = 1 := by
  unfold rk_p at h
  by_cases h0 : s % 2 = 1
  · exact ⟨0, by omega, by rw [Nat.pow_zero, Nat.div_one]; exact h0⟩
  · by_cases h1 : s / 2 % 2 = 1
    · exact ⟨1, by omega, h1⟩
    · by_cases h2 : s / 4 % 2 = 1
      · exact ⟨2, by omega, h2⟩
      · exact ⟨3, by omega, by show s / 8 % 2 = 1; omega⟩
/-! sums by two orders -/
theorem ct_sw {f : Nat → Nat → Nat} : ∀ k j, ct (fun c => ct (fun a => f c a) j) k = ct (fun a => ct (fun c => f c a) k) j := by
  intro k
  induction k with
  | zero =>
    intro j
    induction j with
    | zero => rfl
    | succ j ihj => show 0 = ct (fun a => ct (fun c => f c a) 0) j + 0; rw [← ihj]; rfl
  | succ k ih =>
    intro j
    show ct (fun c => ct (fun a => f c a) j) k + ct (fun a => f k a) j = ct (fun a => ct (fun c => f c a) k + f k a) j
    rw [ih j, ct_add (f := fun a => ct (fun c => f c a) k) (g := fun a => f k a)]
theorem ct_pos {f : Nat → Nat} : ∀ k, 0 < ct f k ↔ ∃ c, c < k ∧ 0 < f c := by
  intro k
  induction k with
  | zero => exact ⟨fun z => absurd z (Nat.lt_irrefl _), fun ⟨c, z, _⟩ => absurd z (Nat.not_lt_zero _)⟩
  | succ k ih =>
    show 0 < ct f k + f k ↔ _
    constructor
    · intro z
      by_cases e : 0 < f k
      · exact ⟨k, by omega, e⟩
      · obtain ⟨c, h1, h2⟩ := ih.mp (by omega)
        exact ⟨c, by omega, h2⟩
    · rintro ⟨c, h1, h2⟩
      by_cases ec : c = k
      · subst ec; omega
      · have := ih.mpr ⟨c, by omega, h2⟩
        omega
theorem ct_one {f : Nat → Nat} {b : Nat} : ∀ k, b < k → (∀ c, c < k → c ≠ b → f c = 0) → ct f k = f b := by
  intro k
  induction k with
  | zero => intro z; exact absurd z (Nat.not_lt_zero _)
  | succ k ih =>
    intro hb h
    show ct f k + f k = f b
    by_cases e : b = k
    · subst e
      have : ct f b = 0 := Nat.eq_zero_of_not_pos (fun q => by
        obtain ⟨c, h1, h2⟩ := (ct_pos b).mp q
        have := h c (by omega) (by omega)
        omega)
      omega
    · rw [ih (by omega) (fun c h1 h2 => h c (by omega) h2), h k (by omega) (fun q => e q.symm)]; rfl
/-! ranks: what a round gives in all -/
theorem fr_cut {s b : Nat} (hs : s < 16) (hb : b < 4) (hbit : s / 2 ^ b % 2 = 1) : ∀ l : List Nat, (∀ d ∈ l, 1 ≤ d ∧ d ≤ 4) → ∀ c, c ≠ b → fr_k s l = some c → fr_k (s - 2 ^ b) l = some c := by
  intro l
  induction l with
  | nil => intro _ c _ z; cases z
  | cons d l ih =>
    intro h c hc z
    have z' : (if s / 2 ^ (d - 1) % 2 = 1 then some (d - 1) else fr_k s l) = some c := z
    have hd := h d List.mem_cons_self
    have e3 := rb_3 s hs b hb hbit (d - 1) (by omega)
    show (if (s - 2 ^ b) / 2 ^ (d - 1) % 2 = 1 then some (d - 1) else fr_k (s - 2 ^ b) l) = some c
    by_cases e : s / 2 ^ (d - 1) % 2 = 1
    · rw [if_pos e] at z'
      have ec := Option.some.inj z'
      rw [if_neg (by omega), e] at e3
      rw [if_pos e3]; exact z'
    · rw [if_neg e] at z'
      have e4 : ¬ (s - 2 ^ b) / 2 ^ (d - 1) % 2 = 1 := by
        rw [e3]
        split
        · decide
        · exact e
      rw [if_neg e4]
      exact ih (fun x hx => h x (List.mem_cons_of_mem _ hx)) c hc z'
section
variable {na ch : Nat} {w m sp : Nat → Nat} {has : Nat → Bool} {lk : Nat → List Nat}
/-- what an account gives in a round by ranks -/
def ta (v : Nat → Option Nat) (w : Nat → Nat) (lk : Nat → List Nat) (s a : Nat) : Nat := match v a with
  | none => 0
  | some x => if fr_k s (lk x) = none then 0 else w a
theorem ca_2 {v : Nat → Option Nat} {s c a : Nat} : ca 2 v w m lk s c a = match v a with
  | none => 0
  | some x => if fr_k s (lk x) = some c then w a else 0 := by
  unfold ca sh_n
  cases v a with
  | none => rfl
  | some x => rfl
theorem all_ta (c : cq_p na 2 ch w m sp has lk) (s : Nat) : ct (cn 2 (vc 2 has sp) w m lk s) 4 = ct (ta (vc 2 has sp) w lk s) 8 := by
  have e : ct (fun cc => ct (fun a => ca 2 (vc 2 has sp) w m lk s cc a) 8) 4 = ct (fun a => ct (fun cc => ca 2 (vc 2 has sp) w m lk s cc a) 4) 8 := ct_sw 4 8
  show ct (fun cc => ct (fun a => ca 2 (vc 2 has sp) w m lk s cc a) 8) 4 = _
  rw [e]
  refine ct_cg 8 fun a ha => ?_
  show ct (fun cc => ca 2 (vc 2 has sp) w m lk s cc a) 4 = ta (vc 2 has sp) w lk s a
  unfold ta
  cases hx : vc 2 has sp a with
  | none =>
    have : ∀ cc, ca 2 (vc 2 has sp) w m lk s cc a = 0 := fun cc => by rw [ca_2, hx]
    rw [ct_cg 4 (fun cc _ => this cc)]; rfl
  | some x =>
    have this : ∀ cc, ca 2 (vc 2 has sp) w m lk s cc a = if fr_k s (lk x) = some cc then w a else 0 := fun cc => by rw [ca_2, hx]
    have hl := (c.lk2 ha hx).2.2 rfl
    show _ = if fr_k s (lk x) = none then 0 else w a
    cases hf : fr_k s (lk x) with
    | none =>
      rw [if_pos rfl, ct_cg 4 (fun cc _ => (this cc).trans (by rw [hf, if_neg (by intro z; cases z)] : _ = 0))]; rfl
    | some y =>
      have hy := (fr_lt (lk x) hl.2.1 y hf).1
      have h4 := c.2.2.2.1
      rw [if_neg (by intro z; cases z), ct_one (b := y) 4 (by omega) (fun cc h1 h2 => by rw [this cc, hf, if_neg (fun z => h2 (Option.some.inj z).symm)]), this y, hf, if_pos rfl]
theorem cn_bit (c : cq_p na 2 ch w m sp has lk) {s cc : Nat} (h : 0 < cn 2 (vc 2 has sp) w m lk s cc) : s / 2 ^ cc % 2 = 1 ∧ cc < ch := by
  obtain ⟨a, h1, h2⟩ := (ct_pos 8).mp h
  rw [ca_2] at h2
  cases hx : vc 2 has sp a with
  | none => rw [hx] at h2; exact absurd h2 (Nat.lt_irrefl _)
  | some x =>
    rw [hx] at h2
    simp only at h2
    by_cases e : fr_k s (lk x) = some cc
    · have hl := (c.lk2 h1 hx).2.2 rfl
      have := fr_lt (lk x) hl.2.1 cc e
      exact ⟨this.2.1, this.1⟩
    · rw [if_neg e] at h2; exact absurd h2 (Nat.lt_irrefl _)
theorem any_cut (c : cq_p na 2 ch w m sp has lk) {s b : Nat} (hs : s < 16) (hb : b < 4) (hbit : s / 2 ^ b % 2 = 1) (hp : 0 < ct (cn 2 (vc 2 has sp) w m lk s) 4) (hh : ¬ hf (cn 2 (vc 2 has sp) w m lk s) s (ct (cn 2 (vc 2 has sp) w m lk s) 4) 4 = true) : 0 < ct (cn 2 (vc 2 has sp) w m lk (s - 2 ^ b)) 4 := by
  have h4 := c.2.2.2.1
  obtain ⟨cc, hc4, hcb, hcp⟩ : ∃ cc, cc < 4 ∧ cc ≠ b ∧ 0 < cn 2 (vc 2 has sp) w m lk s cc := by
    refine Classical.byContradiction fun q => ?_
    have e := ct_one (f := cn 2 (vc 2 has sp) w m lk s) (b := b) 4 hb (fun cc h1 h2 => Nat.eq_zero_of_not_pos fun z => q ⟨cc, h1, h2, z⟩)
    exact hh ((hf_iff 4).mpr ⟨b, hb, hbit, by omega⟩)
  obtain ⟨a, h1, h2⟩ := (ct_pos 8).mp hcp
  refine (ct_pos 4).mpr ⟨cc, hc4, (ct_pos 8).mpr ⟨a, h1, ?_⟩⟩
  rw [ca_2] at h2 ⊢
  cases hx : vc 2 has sp a with
  | none => rw [hx] at h2; exact absurd h2 (Nat.lt_irrefl _)
  | some x =>
    rw [hx] at h2
    simp only at h2 ⊢
    have hl := (c.lk2 h1 hx).2.2 rfl
    by_cases e : fr_k s (lk x) = some cc
    · rw [if_pos e] at h2
      rw [if_pos (fr_cut hs hb hbit (lk x) (fun d hd => by have := hl.2.1 d hd; omega) cc hcb e)]
      exact h2
    · rw [if_neg e] at h2; exact absurd h2 (Nat.lt_irrefl _)
theorem any_back (c : cq_p na 2 ch w m sp has lk) {s cc : Nat} (h : 0 < cn 2 (vc 2 has sp) w m lk s cc) : 0 < ct (cn 2 (vc 2 has sp) w m lk (2 ^ ch - 1)) 4 := by
  have h4 := c.2.2.2.1
  obtain ⟨a, h1, h2⟩ := (ct_pos 8).mp h
  rw [ca_2] at h2
  rw [all_ta c]
  refine (ct_pos 8).mpr ⟨a, h1, ?_⟩
  unfold ta
  cases hx : vc 2 has sp a with
  | none => rw [hx] at h2; exact absurd h2 (Nat.lt_irrefl _)
  | some x =>
    rw [hx] at h2
    simp only at h2 ⊢
    have hv := c.vc8 h1 hx
    have hl := (c.2.2.2.2 x hv.1).2.2.2.2.2 rfl hv.2
    have hw : 0 < w a := by
      by_cases e : fr_k s (lk x) = some cc
      · rw [if_pos e] at h2; exact h2
      · rw [if_neg e] at h2; exact absurd h2 (Nat.lt_irrefl _)
    have hne : fr_k (2 ^ ch - 1) (lk x) ≠ none := by
      cases hk : lk x with
      | nil => rw [hk] at hl; exact absurd hl.2.2.1 (by decide)
      | cons d l =>
        have hd := hl.2.1 d (by rw [hk]; exact List.mem_cons_self)
        have := (rb_2 ch (by omega)).2.2.2.2 (d - 1) (by omega)
        show (if (2 ^ ch - 1) / 2 ^ (d - 1) % 2 = 1 then some (d - 1) else fr_k (2 ^ ch - 1) l) ≠ none
        rw [if_pos (by rw [this, if_pos (by omega)])]
        intro z; cases z
    rw [if_neg hne]; exact hw
theorem ro_any (c : cq_p na 2 ch w m sp has lk) : ∀ k s, s < 16 → 0 < ct (cn 2 (vc 2 has sp) w m lk s) 4 → 0 < ct (cn 2 (vc 2 has sp) w m lk (ro (cn 2 (vc 2 has sp) w m lk) k s).2) 4 := by
  intro k
  induction k with
  | zero => intro s _ h; exact h
  | succ k ih =>
    intro s hs h
    show 0 < ct (cn 2 (vc 2 has sp) w m lk (if hf (cn 2 (vc 2 has sp) w m lk s) s (ct (cn 2 (vc 2 has sp) w m lk s) 4) 4 = true then ([], s) else match le_f (cn 2 (vc 2 has sp) w m lk s) s 4 with
      | none => ([], s)
      | some b => (b :: (ro (cn 2 (vc 2 has sp) w m lk) k (s - 2 ^ b)).1, (ro (cn 2 (vc 2 has sp) w m lk) k (s - 2 ^ b)).2)).2) 4
    by_cases hh : hf (cn 2 (vc 2 has sp) w m lk s) s (ct (cn 2 (vc 2 has sp) w m lk s) 4) 4 = true
    · rw [if_pos hh]; exact h
    · rw [if_neg hh]
      cases hb : le_f (cn 2 (vc 2 has sp) w m lk s) s 4 with
      | none => exact h
      | some b =>
        have hb2 := le_some 4 b hb
        exact ih (s - 2 ^ b) (Nat.lt_of_le_of_lt (Nat.sub_le _ _) hs) (any_cut c hs hb2.1 hb2.2 h hh)
end
