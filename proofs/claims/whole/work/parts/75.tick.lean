/-! TICK -/
section
variable {T na nq nu h mt : Nat}
theorem V_noA (W : ∀ {M : ax_M}, px_W nq nu M.2.2 → px_W nq nu M.2.2) {M : ax_M} (hW : px_W nq nu M.2.2) : ∀ k i f, i + k = 6 → nu ≤ i → F_V_endAuctions_2 (f + k + 1) M (some 0) (nI i) = some M := by
  intro k
  induction k with
  | zero =>
    intro i f e _
    have : i = 6 := by omega
    subst this
    show G_V_endAuctions_2 _ M _ _ = _
    simp only [G_V_endAuctions_2]
    rw [if_pos (show (6 : Int32) ≤ nI 6 from Int32.le_refl _)]
  | succ k ih =>
    intro i f e hi
    show G_V_endAuctions_2 (F_V_endAuctions_2 (f + k + 1)) M _ _ = _
    have x3 : ¬ (6 : Int32) ≤ nI i := nI_ge (b := 6) (by omega) (by decide)
    simp only [G_V_endAuctions_2, G_V_endAuctions_35, if_neg x3, e_V_r10 nq nu hW, e_V_a nq nu hW (show i < 6 by omega), Option.bind_some, if_neg (show ¬ i < nu by omega), if_true, nI_1]
    exact ih (i + 1) f (by omega) (by omega)
theorem V_noQ {M : ax_M} (hW : px_W nq nu M.2.2) : ∀ k i f, i + k = 6 → nq ≤ i → F_V_endQuestions_2 (f + k + 1) M (some 0) (nI i) = some M := by
  intro k
  induction k with
  | zero =>
    intro i f e _
    have : i = 6 := by omega
    subst this
    show G_V_endQuestions_2 _ M _ _ = _
    simp only [G_V_endQuestions_2]
    rw [if_pos (show (6 : Int32) ≤ nI 6 from Int32.le_refl _)]
  | succ k ih =>
    intro i f e hi
    show G_V_endQuestions_2 (F_V_endQuestions_2 (f + k + 1)) M _ _ = _
    have x3 : ¬ (6 : Int32) ≤ nI i := nI_ge (b := 6) (by omega) (by decide)
    simp only [G_V_endQuestions_2, G_V_endQuestions_45, if_neg x3, e_V_r8 nq nu hW, e_V_q nq nu hW (show i < 6 by omega), Option.bind_some, if_neg (show ¬ i < nq by omega), if_true, nI_1]
    exact ih (i + 1) f (by omega) (by omega)
theorem RA.W {i : Nat} {M N : ax_M} (g : RA T na nq nu h mt i M N) : px_W nq nu M.2.2 ∧ px_W nq nu N.2.2 := ⟨g.2.1.1, by rw [g.1]; exact g.2.1.1⟩
theorem tk_a : ∀ k i M N, i + k = nu → RA T na nq nu h mt i M N → ∃ M' N', (∀ f, F_V_endAuctions_2 (f + (6 - i) + 1) M (some 0) (nI i) = some M') ∧ (∀ (rec15 : ax_M → Option Nat → Int32 → Int32 → Option (Int32 × ax_M)) f v1 v2, F_M_tick_98 rec15 (f + k + 1) N (some 100) v1 v2 (nI i) = rec15 N' (some 100) v1 (v2 + 1)) ∧ fr_V M M' ∧ fr_M N N' ∧ RA T na nq nu h mt nu M' N' := by
  intro k
  induction k with
  | zero =>
    intro i M N e g
    have : i = nu := by omega
    subst this
    obtain ⟨W1, W2⟩ := g.W
    have h6 := g.2.1.2.2.2.1
    refine ⟨M, N, fun f => V_noA (fun z => z) W1 (6 - i) i f (by omega) (Nat.le_refl _), fun rec15 f v1 v2 => ?_, fr_V.refl M, fr_M.refl N, g⟩
    show G_M_tick_98 rec15 _ N _ _ _ _ = _
    have i9 : ax_i N 100 25 = nI i := by rw [← ov_iM (M := M) 100 25 (by omega)]; exact g.2.1.2.2.2.2.2.2.2.2.2.2.2.2.2.2.2.1
    simp only [G_M_tick_98, e_M_gi nq i W2, Option.bind_some, i9, if_pos (Int32.le_refl _)]
  | succ k ih =>
    intro i M N e g
    obtain ⟨W1, W2⟩ := g.W
    have h6 := g.2.1.2.2.2.1
    have hi : i < nu := by omega
    have hi6 : i < 6 := by omega
    obtain ⟨i1, i2, _, _, _, _, _, _, i9, _⟩ := g.2.1.2.2.2.2.2.2.2
    rw [ov_iM 100 25 (by omega)] at i9
    rw [ov_iV 0 0 (by omega)] at i1
    rw [ov_iM 100 1 (by omega)] at i2
    have x1 : ¬ nI nu ≤ nI i := nI_ge hi (by omega)
    have x3 : ¬ (6 : Int32) ≤ nI i := nI_ge (b := 6) hi6 (by decide)
    obtain ⟨en, hen, hV, hM⟩ : ∃ en, en < 2 ^ 31 ∧ ax_i M (10 * i + 2000) 5 = nI en ∧ ax_i N 126 i = nI en := by
      obtain ⟨kd, un, le, sp, sh, en, tl, kp, td, bw, u, p, wn, is, ⟨a1, a2, a3, a4, a5, a6, a7, a8, a9, a10, a11, b1, b2, b3, b4, b5, b6, b7, b8, b9, b10, b11, b12, b13, b14, b15⟩, _⟩ := g.2.2.2.2.2 i hi (Nat.le_refl _)
      have := g.2.1.2.2.2.2.1
      have := g.2.1.2.2.2.2.2.2.1
      exact ⟨en, by omega, by rw [← ov_iV (N := N) _ _ (by omega)]; exact b11, by rw [← ov_iM (M := M) 126 i (by omega)]; exact b12⟩
    have hstep : ∃ M1 N1, (∀ f, F_V_endAuctions_2 (f + (6 - i) + 1) M (some 0) (nI i) = F_V_endAuctions_2 (f + (6 - (i + 1)) + 1) M1 (some 0) (nI (i + 1))) ∧ (∀ (rec15 : ax_M → Option Nat → Int32 → Int32 → Option (Int32 × ax_M)) f v1 v2, F_M_tick_98 rec15 (f + (k + 1) + 1) N (some 100) v1 v2 (nI i) = F_M_tick_98 rec15 (f + k + 1) N1 (some 100) v1 v2 (nI (i + 1))) ∧ fr_V M M1 ∧ fr_M N N1 ∧ RA T na nq nu h mt (i + 1) M1 N1 := by
      by_cases ee : nI en = nI (h + 1)
      · obtain ⟨M1, N1, e1, e2, e3, e4, e5⟩ := en_step g hi (by rw [hV, ee])
        refine ⟨M1, N1, fun f => ?_, fun rec15 f v1 v2 => ?_, e3, e4, e5⟩
        · rw [show f + (6 - i) + 1 = (f + (6 - (i + 1)) + 1) + 1 by omega]
          show G_V_endAuctions_2 (F_V_endAuctions_2 (f + (6 - (i + 1)) + 1)) M _ _ = _
          simp only [G_V_endAuctions_2, G_V_endAuctions_35, if_neg x3, e_V_r10 nq nu W1, e_V_a nq nu W1 hi6, Option.bind_some, if_pos hi, reduceCtorEq, if_false, e_A_gi nq nu W1 hi, hV, e_V_gi nq nu W1, i1, if_pos ee, e_V_ob nq nu W1, e1, nI_1]
        · show G_M_tick_98 rec15 (F_M_tick_98 rec15 (f + k + 1)) N _ _ _ _ = _
          simp only [G_M_tick_98, G_M_tick_124, e_M_gi nq nu W2, Option.bind_some, i9, if_neg x1, e_M_r32 nq nu W2, e_M_rd126 nq nu W2 hi6, hM, i2, if_pos ee, e_M_ob nq nu W2, e2, nI_1]
      · refine ⟨M, N, fun f => ?_, fun rec15 f v1 v2 => ?_, fr_V.refl M, fr_M.refl N, g.1, g.2.1, g.2.2.1, g.2.2.2.1, fun m hm hm2 => ?_, fun m hm hm2 => g.2.2.2.2.2 m hm (by omega)⟩
        · rw [show f + (6 - i) + 1 = (f + (6 - (i + 1)) + 1) + 1 by omega]
          show G_V_endAuctions_2 (F_V_endAuctions_2 (f + (6 - (i + 1)) + 1)) M _ _ = _
          simp only [G_V_endAuctions_2, G_V_endAuctions_35, if_neg x3, e_V_r10 nq nu W1, e_V_a nq nu W1 hi6, Option.bind_some, if_pos hi, reduceCtorEq, if_false, e_A_gi nq nu W1 hi, hV, e_V_gi nq nu W1, i1, if_neg ee, nI_1]
        · show G_M_tick_98 rec15 (F_M_tick_98 rec15 (f + k + 1)) N _ _ _ _ = _
          simp only [G_M_tick_98, G_M_tick_124, e_M_gi nq nu W2, Option.bind_some, i9, if_neg x1, e_M_r32 nq nu W2, e_M_rd126 nq nu W2 hi6, hM, i2, if_neg ee, nI_1]
        · by_cases em : m = i
          · subst em; exact (g.2.2.2.2.2 m hm (Nat.le_refl _)).hh
          · exact g.2.2.2.2.1 m hm (by omega)
    obtain ⟨M1, N1, q1, q2, q3, q4, q5⟩ := hstep
    obtain ⟨M', N', r1, r2, r3, r4, r5⟩ := ih (i + 1) M1 N1 (by omega) q5
    exact ⟨M', N', fun f => (q1 f).trans (r1 f), fun rec15 f v1 v2 => (q2 rec15 f v1 v2).trans (r2 rec15 f v1 v2), q3.trans r3, q4.trans r4, r5⟩
/-- speakers are kept when a question ends: the reference's loop -/
def cp_r (i a : Nat) (N N' : ax_M) : Prop := N'.2.2 = N.2.2 ∧ (∀ id k, ax_l N' id k = ax_l N id k) ∧ (∀ id k, ¬ (id = 120 ∧ 8 * i ≤ k ∧ k < 8 * i + 8) → ax_i N' id k = ax_i N id k) ∧ (∀ c, c < 8 → ax_i N' 120 (8 * i + c) = if c < a then ax_i N 104 c else ax_i N 120 (8 * i + c))
end
