theorem tt_bo0 : ax_bo 0 = some 0 := rfl
theorem tt_bo1 : ax_bo 1 = some 1 := rfl
theorem tt_isOut (M : ax_M) (x a b : Int32) : f_V_isOutside M x a b = some (if x < a ∨ b < x then 1 else 0, M) := by
  unfold f_V_isOutside G_V_isOutside_10 G_V_isOutside_15
  by_cases h1 : x < a
  · simp [h1, tt_bo1]
  · by_cases h2 : x ≤ b
    · simp [h1, h2, tt_bo0, Int32.not_lt.mpr h2]
    · simp [h1, h2, tt_bo1, Int32.not_le.mp h2]
theorem tt_noAcc {nq nu : Nat} {M : ax_M} (h : px_W nq nu M.2.2) (x : Int32) {na : Nat} (hna : ax_i M 0 2 = nI na) (h8 : na ≤ 8) : f_V_isNoAccount M (some 0) x = some (if x < 0 ∨ nI na ≤ x then 1 else 0, M) := by
  unfold f_V_isNoAccount G_V_isNoAccount_18 G_V_isNoAccount_23
  simp only [e_V_gi h, hna, Option.bind_some]
  by_cases h1 : x < 0
  · simp [h1, tt_bo1]
  · by_cases h2 : nI na ≤ x
    · simp [h1, h2, tt_bo1]
    · have h3 : x < 8 := by
        have := Int32.not_le.mp h2
        have h4 : nI na ≤ 8 := nI_le h8 (by decide)
        exact Int32.lt_of_lt_of_le this h4
      simp [h1, h2, h3, tt_bo0]
theorem tt_weigh {nq nu na j : Nat} {M : ax_M} (h : px_W nq nu M.2.2) (hna : ax_i M 0 2 = nI na) (h8 : na ≤ 8) (w : Int32) (hj : j < na) : f_V_weigh M (some 0) (nI j) w = some (if w < 0 ∨ 1000 < w then (-2, M) else (ax_i M 1 j, ax_wi M 1 j w)) := by
  have hj8 : j < 8 := by omega
  have hx : ¬ (nI j < 0 ∨ nI na ≤ nI j) := by
    rintro (h | h)
    · exact nI_pos (by omega) h
    · exact nI_ge hj (by omega) h
  simp only [f_V_weigh, e_V_ob h, tt_noAcc h _ hna h8, tt_isOut, Option.bind_some, if_neg hx, if_true, e_V_r3 h, e_V_rd1 h hj8, e_V_wr1 h hj8]
  by_cases hw : w < 0 ∨ 1000 < w
  · simp [hw]
  · simp [hw]
