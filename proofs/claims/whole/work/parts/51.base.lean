/-! FIRST FUNCTIONS, EVALUATED -/
theorem px_bo0 : ax_bo 0 = some 0 := rfl
theorem px_bo1 : ax_bo 1 = some 1 := rfl
/-- an index: outside, or a number below n -/
theorem px_ix (x : Int32) {n : Nat} (hn : n < 2 ^ 31) : (x < 0 ∨ nI n ≤ x) ∨ ∃ j, j < n ∧ x = nI j ∧ ¬ (nI j < 0 ∨ nI n ≤ nI j) := by
  rcases pk_ix x hn with h | h | ⟨j, hj, rfl⟩
  · exact Or.inl (Or.inl h)
  · exact Or.inl (Or.inr h)
  · refine Or.inr ⟨j, hj, rfl, ?_⟩
    rintro (h | h)
    · exact nI_pos (by omega) h
    · exact nI_ge hj hn h
theorem px_8 (n a : Nat) : (8 : Int32) * nI n + nI a = nI (8 * n + a) := by
  rw [show (8 : Int32) = nI 8 from rfl, pk_mul, nI_add]
theorem V_isOutside (M : ax_M) (x a b : Int32) : f_V_isOutside M x a b = some (if x < a ∨ b < x then 1 else 0, M) := by
  unfold f_V_isOutside G_V_isOutside_10 G_V_isOutside_15
  by_cases h1 : x < a
  · simp [h1, px_bo1]
  · by_cases h2 : x ≤ b
    · simp [h1, h2, px_bo0, Int32.not_lt.mpr h2]
    · simp [h1, h2, px_bo1, Int32.not_le.mp h2]
theorem V_isOutN (M : ax_M) {x a b : Int32} (h : ¬ (x < a ∨ b < x)) : f_V_isOutside M x a b = some (0, M) := by rw [V_isOutside, if_neg h]
theorem V_isOutY (M : ax_M) {x a b : Int32} (h : x < a ∨ b < x) : f_V_isOutside M x a b = some (1, M) := by rw [V_isOutside, if_pos h]
theorem M_isIn (M : ax_M) (x a b : Int32) : f_M_isIn M x a b = some (if x < a ∨ b < x then 0 else 1, M) := by
  unfold f_M_isIn G_M_isIn_14 G_M_isIn_15
  by_cases h1 : x < a
  · simp [h1, px_bo0]
  · by_cases h2 : b < x
    · simp [h1, h2, px_bo0]
    · simp [h1, h2, px_bo1]
theorem M_isInY (M : ax_M) {x a b : Int32} (h : ¬ (x < a ∨ b < x)) : f_M_isIn M x a b = some (1, M) := by rw [M_isIn, if_neg h]
theorem M_isInN (M : ax_M) {x a b : Int32} (h : x < a ∨ b < x) : f_M_isIn M x a b = some (0, M) := by rw [M_isIn, if_pos h]
section
variable {M : ax_M}
theorem V_isNoAccount (nq nu na : Nat) (h : px_W nq nu M.2.2) (hna : ax_i M 0 2 = nI na) (h8 : na ≤ 8) (x : Int32) : f_V_isNoAccount M (some 0) x = some (if x < 0 ∨ nI na ≤ x then 1 else 0, M) := by
  unfold f_V_isNoAccount G_V_isNoAccount_18 G_V_isNoAccount_23
  simp only [e_V_gi nq nu h, hna, Option.bind_some]
  by_cases h1 : x < 0
  · simp [h1, px_bo1]
  · by_cases h2 : nI na ≤ x
    · simp [h1, h2, px_bo1]
    · have h3 : x < 8 := Int32.lt_of_lt_of_le (Int32.not_le.mp h2) (nI_le h8 (by decide))
      simp [h1, h2, h3, px_bo0]
theorem M_isAccount (nq nu na : Nat) (h : px_W nq nu M.2.2) (hna : ax_i M 100 3 = nI na) (x : Int32) : f_M_isAccount M (some 100) x = some (if x < 0 ∨ nI na ≤ x then 0 else 1, M) := by
  unfold f_M_isAccount G_M_isAccount_16 G_M_isAccount_17
  simp only [e_M_gi nq nu h, hna, Option.bind_some]
  by_cases h1 : x < 0
  · simp [h1, px_bo0]
  · by_cases h2 : nI na ≤ x
    · simp [h1, h2, px_bo0]
    · simp [h1, h2, px_bo1]
theorem M_isQuestion (nq nu : Nat) (h : px_W nq nu M.2.2) (hq : ax_i M 100 8 = nI nq) (x : Int32) : f_M_isQuestion M (some 100) x = some (if x < 0 ∨ nI nq ≤ x then 0 else 1, M) := by
  unfold f_M_isQuestion G_M_isQuestion_16 G_M_isQuestion_17
  simp only [e_M_gi nq nu h, hq, Option.bind_some]
  by_cases h1 : x < 0
  · simp [h1, px_bo0]
  · by_cases h2 : nI nq ≤ x
    · simp [h1, h2, px_bo0]
    · simp [h1, h2, px_bo1]
theorem M_isAuction (nq nu : Nat) (h : px_W nq nu M.2.2) (hq : ax_i M 100 25 = nI nu) (x : Int32) : f_M_isAuction M (some 100) x = some (if x < 0 ∨ nI nu ≤ x then 0 else 1, M) := by
  unfold f_M_isAuction G_M_isAuction_16 G_M_isAuction_17
  simp only [e_M_gi nq nu h, hq, Option.bind_some]
  by_cases h1 : x < 0
  · simp [h1, px_bo0]
  · by_cases h2 : nI nu ≤ x
    · simp [h1, h2, px_bo0]
    · simp [h1, h2, px_bo1]
theorem V_questionAt_no (nq nu : Nat) (h : px_W nq nu M.2.2) (h6 : nq ≤ 6) {x : Int32} (hx : x < 0 ∨ nI nq ≤ x) : f_V_questionAt M (some 0) x = some (none, M) := by
  unfold f_V_questionAt G_V_questionAt_19
  rw [V_isOutside]
  rcases px_ix x (n := 6) (by decide) with h1 | ⟨j, hj, rfl, h1⟩
  · have h2 : x < 0 ∨ 5 < x := h1.imp id (fun h => by rw [Int32.lt_iff_toInt_lt]; have := Int32.le_iff_toInt_le.mp h; rw [nI_toInt (by decide)] at this; show (5 : Int) < _; omega)
    simp [h2]
  · have h2 : ¬ (nI j < 0 ∨ 5 < nI j) := by
      rintro (h | h)
      · exact nI_pos (by omega) h
      · exact absurd ((nI_ltI (a := 5) (by decide) (by omega)).mp h) (by omega)
    have h3 : nq ≤ j := by
      rcases hx with h | h
      · exact absurd h (nI_pos (by omega))
      · exact (nI_leI (by omega) (by omega)).mp h
    simp [h2, e_V_r8 nq nu h, e_V_q nq nu h hj, Nat.not_lt.mpr h3]
theorem V_questionAt (nq nu : Nat) (h : px_W nq nu M.2.2) (h6 : nq ≤ 6) {n : Nat} (hn : n < nq) : f_V_questionAt M (some 0) (nI n) = some (some (10 * n + 1000), M) := by
  unfold f_V_questionAt G_V_questionAt_19
  have h2 : ¬ (nI n < 0 ∨ 5 < nI n) := by
    rintro (h | h)
    · exact nI_pos (by omega) h
    · exact absurd ((nI_ltI (a := 5) (by decide) (by omega)).mp h) (by omega)
  simp [V_isOutside, h2, e_V_r8 nq nu h, e_V_q nq nu h (show n < 6 by omega), hn]
theorem V_auctionAt_no (nq nu : Nat) (h : px_W nq nu M.2.2) (h6 : nu ≤ 6) {x : Int32} (hx : x < 0 ∨ nI nu ≤ x) : f_V_auctionAt M (some 0) x = some (none, M) := by
  unfold f_V_auctionAt G_V_auctionAt_19
  rw [V_isOutside]
  rcases px_ix x (n := 6) (by decide) with h1 | ⟨j, hj, rfl, h1⟩
  · have h2 : x < 0 ∨ 5 < x := h1.imp id (fun h => by rw [Int32.lt_iff_toInt_lt]; have := Int32.le_iff_toInt_le.mp h; rw [nI_toInt (by decide)] at this; show (5 : Int) < _; omega)
    simp [h2]
  · have h2 : ¬ (nI j < 0 ∨ 5 < nI j) := by
      rintro (h | h)
      · exact nI_pos (by omega) h
      · exact absurd ((nI_ltI (a := 5) (by decide) (by omega)).mp h) (by omega)
    have h3 : nu ≤ j := by
      rcases hx with h | h
      · exact absurd h (nI_pos (by omega))
      · exact (nI_leI (by omega) (by omega)).mp h
    simp [h2, e_V_r10 nq nu h, e_V_a nq nu h hj, Nat.not_lt.mpr h3]
theorem V_auctionAt (nq nu : Nat) (h : px_W nq nu M.2.2) (h6 : nu ≤ 6) {n : Nat} (hn : n < nu) : f_V_auctionAt M (some 0) (nI n) = some (some (10 * n + 2000), M) := by
  unfold f_V_auctionAt G_V_auctionAt_19
  have h2 : ¬ (nI n < 0 ∨ 5 < nI n) := by
    rintro (h | h)
    · exact nI_pos (by omega) h
    · exact absurd ((nI_ltI (a := 5) (by decide) (by omega)).mp h) (by omega)
  simp [V_isOutside, h2, e_V_r10 nq nu h, e_V_a nq nu h (show n < 6 by omega), hn]
end
