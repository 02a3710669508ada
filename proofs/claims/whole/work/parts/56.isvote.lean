/-! WHICH NUMBERS ARE VOTES -/
def rk_f (ch : Nat) : Nat → Nat → Nat → Bool
  | 0, _, _ => false
  | n + 1, s, r => if r % 8 = 0 then r == 0 else if ch < r % 8 then false else if s / 2 ^ (r % 8 - 1) % 2 = 1 then false else rk_f ch n (s + 2 ^ (r % 8 - 1)) (r / 8)
def rk_p (s : Nat) : Nat := s % 2 + s / 2 % 2 + s / 4 % 2 + s / 8 % 2
theorem rk_b1 : ∀ s, s < 16 → ∀ c, c < 4 → ((nI s >>> (nI c &&& 31)) &&& 1) = nI (s / 2 ^ c % 2) := by decide +kernel
theorem rk_b2 : ∀ s, s < 16 → ∀ c, c < 4 → s / 2 ^ c % 2 = 0 → (nI s ||| (1 <<< (nI c &&& 31))) = nI (s + 2 ^ c) ∧ s + 2 ^ c < 16 ∧ rk_p (s + 2 ^ c) = rk_p s + 1 := by decide +kernel
theorem rk_b3 : ∀ s, s < 16 → ∀ c, c < 4 → ((nI (2 * s) >>> (nI (c + 1) &&& 31)) &&& 1) = nI (s / 2 ^ c % 2) := by decide +kernel
theorem rk_b4 : ∀ s, s < 16 → ∀ c, c < 4 → s / 2 ^ c % 2 = 0 → (nI (2 * s) ||| (1 <<< (nI (c + 1) &&& 31))) = nI (2 * (s + 2 ^ c)) := by decide +kernel
theorem rk_b5 : ∀ ch, ch < 5 → ∀ s, s < 2 ^ ch → rk_p s ≤ ch ∧ s < 16 ∧ (rk_p s = ch → ∀ c, c < ch → s / 2 ^ c % 2 = 1) ∧ ∀ c, c < ch → s / 2 ^ c % 2 = 0 → s + 2 ^ c < 2 ^ ch := by decide +kernel
theorem rk_rem {r : Nat} (hr : r < 2 ^ 31) : nI r - nI r / 8 * 8 = nI (r % 8) := pk_rem (d := 8) hr (by decide) (by decide)
theorem rk_div {r : Nat} (hr : r < 2 ^ 31) : nI r / 8 = nI (r / 8) := pk_div (d := 8) hr (by decide) (by decide)
theorem rk_1 : ∀ b, b < 2 → ((nI b = 1) ↔ b = 1) ∧ ((nI b = 0) ↔ b = 0) := by decide +kernel
theorem M_isRanks_l (M : ax_M) {ch m : Nat} (hch : ch ≤ 4) (hm0 : 0 < m) (hm : m < 2 ^ 31) : ∀ n s r, r < 8 ^ n → r < 2 ^ 31 → s < 16 → F_M_isRanks_4 (n + 1) M (nI ch) (nI m) (nI r) (nI (2 * s)) = some (if rk_f ch (n + 1) s r = true then 1 else 0, M) := by
  have hmp : ¬ nI m ≤ 0 := nI_nle hm0 hm
  intro n
  induction n with
  | zero =>
    intro s r h1 h2 h3
    have : r = 0 := by omega
    subst this
    simp [F_M_isRanks_4, G_M_isRanks_4, G_M_isRanks_63, rk_rem (show 0 < 2 ^ 31 by decide), rk_f, nI_0, hmp, px_bo1]
  | succ n ih =>
    intro s r h1 h2 h3
    have hr8 : r % 8 < 8 := Nat.mod_lt _ (by decide)
    show G_M_isRanks_4 (F_M_isRanks_4 (n + 1) ) M (nI ch) (nI m) (nI r) (nI (2 * s)) = _
    unfold G_M_isRanks_4
    rw [rk_rem h2]
    by_cases e0 : r % 8 = 0
    · by_cases e1 : r = 0
      · subst e1
        simp [G_M_isRanks_63, rk_f, nI_0, hmp, px_bo1]
      · have : ¬ nI r = 0 := nI_ne0 (by omega) h2
        simp [G_M_isRanks_62, G_M_isRanks_63, rk_f, e0, nI_0, this, px_bo0, e1]
    · have e0' : ¬ nI (r % 8) = 0 := nI_ne0 (by omega) (by omega)
      rw [if_neg e0']
      simp only [Option.bind_some]
      by_cases e2 : ch < r % 8
      · rw [if_pos (nI_lt e2 (by omega))]
        simp [G_M_isRanks_33, rk_f, e0, e2]
      · rw [if_neg (nI_nlt (by omega) (by omega))]
        have hc4 : r % 8 - 1 < 4 := by omega
        have b3 := rk_b3 s h3 (r % 8 - 1) hc4
        rw [show r % 8 - 1 + 1 = r % 8 by omega] at b3
        rw [b3]
        have hb : s / 2 ^ (r % 8 - 1) % 2 < 2 := Nat.mod_lt _ (by decide)
        by_cases e3 : s / 2 ^ (r % 8 - 1) % 2 = 1
        · rw [if_pos ((rk_1 _ hb).1.mpr e3)]
          simp [G_M_isRanks_33, rk_f, e0, e2, e3]
        · rw [if_neg (fun z => e3 ((rk_1 _ hb).1.mp z))]
          have e4 : s / 2 ^ (r % 8 - 1) % 2 = 0 := by omega
          have b4 := rk_b4 s h3 (r % 8 - 1) hc4 e4
          rw [show r % 8 - 1 + 1 = r % 8 by omega] at b4
          rw [b4, rk_div h2]
          rw [ih (s + 2 ^ (r % 8 - 1)) (r / 8) (by rw [Nat.pow_succ] at h1; omega) (by omega) (rk_b2 s h3 _ hc4 e4).2.1]
          conv => rhs; rw [rk_f, if_neg e0, if_neg e2, if_neg e3]
theorem V_hasChoice (M : ax_M) (x y : Int32) : f_V_hasChoice M x y = some (if ((x >>> (y &&& 31)) &&& 1) = 0 then 0 else 1, M) := by
  unfold f_V_hasChoice G_V_hasChoice_13
  split <;> simp [px_bo0, px_bo1]
theorem rk_and {r : Nat} (hr : r < 2 ^ 31) : (nI r &&& 7) = nI (r % 8) := pk_andN (by omega) 3 (by decide)
theorem rk_shr {r : Nat} (hr : r < 2 ^ 31) : nI r >>> ((3 : Int32) &&& 31) = nI (r / 8) := pk_shrN hr _ 3 (by decide)
theorem rk_m1 {r : Nat} (hr : 0 < r) : nI r - 1 = nI (r - 1) := by
  obtain ⟨k, rfl⟩ : ∃ k, r = k + 1 := ⟨r - 1, by omega⟩
  exact nI_pred k
theorem V_isRanks_l (M : ax_M) {ch m : Nat} (h2c : 2 ≤ ch) (hch : ch ≤ 4) (hm0 : 0 < m) (hm : m < 2 ^ 31) : ∀ n s r, r < 8 ^ n → r < 2 ^ 31 → s < 2 ^ ch → F_V_isRanks_7 (n + 1) M (nI m) (nI ch) (nI s) (nI r) (nI (rk_p s)) = some (if rk_f ch (n + 1) s r = true then 1 else 0, M) := by
  have hmp : ¬ nI m ≤ 0 := nI_nle hm0 hm
  intro n
  induction n with
  | zero =>
    intro s r h1 h2 h3
    have : r = 0 := by omega
    subst this
    have hf : rk_f ch (0 + 1) s 0 = true := by simp [rk_f]
    rw [hf]
    simp [F_V_isRanks_7, G_V_isRanks_7, G_V_isRanks_65, G_V_isRanks_78, nI_0, hmp, px_bo1]
  | succ n ih =>
    intro s r h1 h2 h3
    obtain ⟨p1, p2, p3, p4⟩ := rk_b5 ch (by omega) s h3
    show G_V_isRanks_7 (F_V_isRanks_7 (n + 1)) M (nI m) (nI ch) (nI s) (nI r) (nI (rk_p s)) = _
    unfold G_V_isRanks_7
    by_cases hp : rk_p s = ch
    · rw [if_pos (by rw [hp]; exact Int32.le_refl _)]
      by_cases e1 : r = 0
      · subst e1
        simp [G_V_isRanks_65, G_V_isRanks_78, rk_f, nI_0, hmp, px_bo1]
      · have e1' : ¬ nI r = 0 := nI_ne0 (by omega) h2
        have hff : rk_f ch (n + 1 + 1) s r = false := by
          rw [rk_f]
          by_cases e0 : r % 8 = 0
          · simp [e0, e1]
          · rw [if_neg e0]
            by_cases e2 : ch < r % 8
            · rw [if_pos e2]
            · rw [if_neg e2, if_pos (p3 hp _ (by omega))]
        rw [hff]
        simp [G_V_isRanks_65, G_V_isRanks_77, G_V_isRanks_78, e1', hmp, px_bo0]
    · rw [if_neg (nI_ge (by omega) (by omega))]
      by_cases e1 : r = 0
      · subst e1
        simp [G_V_isRanks_65, G_V_isRanks_78, rk_f, nI_0, hmp, px_bo1]
      · rw [if_neg (nI_nle (by omega) h2), rk_and h2]
        simp only [Option.bind_some, V_isOutside]
        by_cases e0 : r % 8 = 0
        · have : (nI (r % 8) - 1 < 0 ∨ nI ch - 1 < nI (r % 8) - 1) := Or.inl (by rw [e0]; decide)
          have hff : rk_f ch (n + 1 + 1) s r = false := by simp [rk_f, e0, e1]
          rw [hff]
          simp [this, G_V_isRanks_46]
        · rw [rk_m1 (show 0 < r % 8 by omega), rk_m1 (show 0 < ch by omega)]
          by_cases e2 : ch < r % 8
          · have : (nI (r % 8 - 1) < 0 ∨ nI (ch - 1) < nI (r % 8 - 1)) := Or.inr (nI_lt (by omega) (by omega))
            simp [this, G_V_isRanks_46, rk_f, e0, e2]
          · have hx : ¬ (nI (r % 8 - 1) < 0 ∨ nI (ch - 1) < nI (r % 8 - 1)) := by
              rintro (z | z)
              · exact nI_pos (by omega) z
              · exact nI_nlt (by omega) (by omega) z
            have hc4 : r % 8 - 1 < 4 := by omega
            simp only [hx, if_false, if_true, V_hasChoice, rk_b1 s p2 _ hc4, Option.bind_some]
            have hb : s / 2 ^ (r % 8 - 1) % 2 < 2 := Nat.mod_lt _ (by decide)
            by_cases e3 : s / 2 ^ (r % 8 - 1) % 2 = 1
            · have e3' : ¬ nI (s / 2 ^ (r % 8 - 1) % 2) = 0 := fun z => by have := (rk_1 _ hb).2.mp z; omega
              have hff : rk_f ch (n + 1 + 1) s r = false := by simp [rk_f, e0, e2, e3]
              rw [hff]
              simp [e3', G_V_isRanks_46]
            · have e4 : s / 2 ^ (r % 8 - 1) % 2 = 0 := by omega
              obtain ⟨b1, b2, b3⟩ := rk_b2 s p2 _ hc4 e4
              rw [b1, rk_shr h2, nI_1, ← b3, ih _ _ (by rw [Nat.pow_succ] at h1; omega) (by omega) (p4 _ (by omega) e4)]
              have e4' : nI (s / 2 ^ (r % 8 - 1) % 2) = 0 := (rk_1 _ hb).2.mpr e4
              simp only [e4', if_true]
              conv => rhs; rw [rk_f, if_neg e0, if_neg e2, if_neg e3]
theorem rk_l {ch : Nat} (hch : ch ≤ 4) : ∀ n s r, s < 2 ^ ch → rk_f ch n s r = true → ∃ l : List Nat, l.length + rk_p s ≤ ch ∧ (∀ d ∈ l, 1 ≤ d ∧ d ≤ ch) ∧ r = sm_dg l := by
  intro n
  induction n with
  | zero => intro s r _ h; cases h
  | succ n ih =>
    intro s r hs h
    obtain ⟨p1, p2, p3, p4⟩ := rk_b5 ch (by omega) s hs
    rw [rk_f] at h
    by_cases e0 : r % 8 = 0
    · rw [if_pos e0] at h
      have : r = 0 := by simpa using h
      exact ⟨[], by simpa using p1, (fun d hd => absurd hd (by simp)), this⟩
    · rw [if_neg e0] at h
      by_cases e2 : ch < r % 8
      · rw [if_pos e2] at h; cases h
      · rw [if_neg e2] at h
        by_cases e3 : s / 2 ^ (r % 8 - 1) % 2 = 1
        · rw [if_pos e3] at h; cases h
        · rw [if_neg e3] at h
          have e4 : s / 2 ^ (r % 8 - 1) % 2 = 0 := by omega
          obtain ⟨l, l1, l2, l3⟩ := ih _ _ (p4 _ (by omega) e4) h
          have := (rk_b2 s p2 (r % 8 - 1) (by omega) e4).2.2
          refine ⟨r % 8 :: l, by simp; omega, fun d hd => ?_, by simp [sm_dg]; omega⟩
          rcases List.mem_cons.mp hd with rfl | hd
          · exact ⟨by omega, by omega⟩
          · exact l2 d hd
theorem st_and {r : Nat} (hr : r < 2 ^ 31) : (nI r &&& 31) = nI (r % 32) := pk_andN (by omega) 5 (by decide)
theorem st_0 {r : Nat} (hr : r < 2 ^ 31) : nI r >>> ((5 * 0 : Int32) &&& 31) = nI r := by rw [pk_shrN hr _ 0 (by decide)]; simp
theorem st_1 {r : Nat} (hr : r < 2 ^ 31) : nI r >>> ((5 * 1 : Int32) &&& 31) = nI (r / 32) := pk_shrN hr _ 5 (by decide)
theorem st_2 {r : Nat} (hr : r < 2 ^ 31) : nI r >>> ((5 * 2 : Int32) &&& 31) = nI (r / 1024) := pk_shrN hr _ 10 (by decide)
theorem st_3 {r : Nat} (hr : r < 2 ^ 31) : nI r >>> ((5 * 3 : Int32) &&& 31) = nI (r / 32768) := pk_shrN hr _ 15 (by decide)
theorem st_rem {r : Nat} (hr : r < 2 ^ 31) : nI r - nI r / 32 * 32 = nI (r % 32) := pk_rem (d := 32) hr (by decide) (by decide)
theorem st_div {r : Nat} (hr : r < 2 ^ 31) : nI r / 32 = nI (r / 32) := pk_div (d := 32) hr (by decide) (by decide)
