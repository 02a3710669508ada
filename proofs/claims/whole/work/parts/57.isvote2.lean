/-- the squares of the strengths -/
def st_q (r : Nat) : Nat → Nat
  | 0 => 0
  | c + 1 => st_q r c + (r / 32 ^ c % 32) * (r / 32 ^ c % 32)
theorem st_sh : ∀ c, c < 4 → ((((5 : Int32) * nI c) &&& 31).toBitVec.smod 32).toNat = 5 * c := by decide +kernel
theorem V_strengthOf (M : ax_M) {r c : Nat} (hr : r < 2 ^ 31) (hc : c < 4) : f_V_strengthOf M (nI r) (nI c) = some (nI (r / 32 ^ c % 32), M) := by
  unfold f_V_strengthOf
  rw [pk_shrN hr _ (5 * c) (st_sh c hc), st_and (by exact Nat.lt_of_le_of_lt (Nat.div_le_self _ _) hr)]
  rw [show (2 : Nat) ^ (5 * c) = 32 ^ c by rw [Nat.pow_mul]]
theorem V_isStrengths_l (M : ax_M) {ch m : Nat} (hch : ch ≤ 4) (hm : m < 2 ^ 31) (w : Int32) : ∀ k c f, c + k = ch → F_V_isStrengths_22 (f + k + 1) M (nI m) (nI ch) w (nI (st_q m c)) (nI c) = some (if w < nI (st_q m ch) then 0 else 1, M) := by
  intro k
  induction k with
  | zero =>
    intro c f h
    have : c = ch := by omega
    subst this
    show G_V_isStrengths_22 _ M _ _ _ _ _ = _
    unfold G_V_isStrengths_22 G_V_isStrengths_60
    rw [if_pos (Int32.le_refl _)]
    split <;> simp [px_bo0, px_bo1]
  | succ k ih =>
    intro c f h
    show G_V_isStrengths_22 (F_V_isStrengths_22 (f + k + 1)) M _ _ _ _ _ = _
    unfold G_V_isStrengths_22
    rw [if_neg (nI_ge (by omega) (by omega)), V_strengthOf M hm (by omega)]
    simp only [Option.bind_some]
    rw [pk_mul, nI_add, nI_1]
    exact ih (c + 1) f (by omega)
theorem M_isVote_l {nq nu : Nat} {M : ax_M} (h : px_W nq nu M.2.2) {ch m n j : Nat} (hn : n < 6) (hj : j < 8) (hch : ch ≤ 4) (hm : m < 2 ^ 31) : ∀ k c f, c + k = ch → F_M_isVote_95 (f + k + 1) M (some 100) (nI n) (nI j) (nI ch) (nI (st_q m c)) (nI (m / 32 ^ c)) (nI c) = some (if m / 32 ^ ch = 0 ∧ ¬ ax_i M 115 (8 * n + j) < nI (st_q m ch) then 1 else 0, M) := by
  intro k
  induction k with
  | zero =>
    intro c f h0
    have : c = ch := by omega
    subst this
    have hd : m / 32 ^ c < 2 ^ 31 := Nat.lt_of_le_of_lt (Nat.div_le_self _ _) hm
    show G_M_isVote_95 _ M _ _ _ _ _ _ _ = _
    unfold G_M_isVote_95 G_M_isVote_156 G_M_isVote_157
    rw [if_pos (Int32.le_refl _)]
    by_cases e : m / 32 ^ c = 0
    · rw [if_pos (by rw [e]; rfl), px_8]
      simp only [e_M_r19 nq nu h, e_M_rd115 nq nu h (show 8 * n + j < 48 by omega), Option.bind_some]
      by_cases e2 : ax_i M 115 (8 * n + j) < nI (st_q m c)
      · simp [e, e2, px_bo0]
      · simp [e, e2, px_bo1]
    · rw [if_neg (nI_ne0 (Nat.pos_of_ne_zero e) hd)]
      simp [e, px_bo0]
  | succ k ih =>
    intro c f h0
    have hd : m / 32 ^ c < 2 ^ 31 := Nat.lt_of_le_of_lt (Nat.div_le_self _ _) hm
    show G_M_isVote_95 (F_M_isVote_95 (f + k + 1)) M _ _ _ _ _ _ _ = _
    unfold G_M_isVote_95
    rw [if_neg (nI_ge (by omega) (by omega)), st_rem hd, st_div hd]
    simp only [Option.bind_some]
    rw [pk_mul, nI_add, nI_1, Nat.div_div_eq_div_mul, ← Nat.pow_succ]
    exact ih (c + 1) f (by omega)
theorem iv_2 : nI 2 = 2 := rfl
theorem iv_ch : ∀ ch, ch < 5 → 2 ≤ ch → ((1 : Int32) <<< (nI ch &&& 31)) = nI (2 ^ ch) ∧ ((1 : Int32) <<< (((5 : Int32) * nI ch) &&& 31)) = nI (32 ^ ch) ∧ 2 ^ ch < 2 ^ 31 ∧ 32 ^ ch < 2 ^ 31 ∧ 0 < 2 ^ ch ∧ 0 < 32 ^ ch := by decide +kernel
theorem iv_kd : ∀ kd, kd < 4 → ((nI kd = 0) ↔ kd = 0) ∧ ((nI kd = 1) ↔ kd = 1) ∧ ((nI kd = 2) ↔ kd = 2) := by decide +kernel
set_option maxHeartbeats 4000000 in
/-- both sides say alike of a number whether it is a vote -/
theorem isVote_b {kd ch : Nat} (w v : Int32) (a1 : kd < 4) (a2 : 2 ≤ ch) (a3 : ch ≤ 4) : ∃ b : Int32, (b = 0 ∨ (b = 1 ∧ sm_vt kd ch v)) ∧ ∀ (nq nu na : Nat) (M : ax_M) (_ : px_W nq nu M.2.2) (_ : nq ≤ 6) (_ : na ≤ 8) (n j : Nat) (_ : n < nq) (_ : j < na) (_ : ax_i M (10 * n + 1000) 0 = nI kd) (_ : ax_i M 105 n = nI kd) (_ : ax_i M (10 * n + 1000) 1 = nI ch) (_ : ax_i M 106 n = nI ch) (_ : ax_i M (10 * n + 1001) j = w) (_ : ax_i M 115 (8 * n + j) = w),
    f_V_isVote M (some (10 * n + 1000)) (nI j) v = some (b, M) ∧ f_M_isVote M (some 100) (nI n) (nI j) v = some (b, M) := by
  obtain ⟨s1, s2, s3, s4, s5, s6⟩ := iv_ch ch (by omega) a2
  obtain ⟨k0, k1, k2⟩ := iv_kd kd a1
  by_cases hv : v < 0
  · refine ⟨0, Or.inl rfl, ?_⟩
    intro nq nu na M h g3 h8 n j hn hj b1 b2 b3 b4 hw hw2
    have hn6 : n < 6 := by omega
    have hj8 : j < 8 := by omega
    refine ⟨?_, ?_⟩
    · have hr : f_V_isRanks M v (nI ch) = some (0, M) := by
        unfold f_V_isRanks
        show G_V_isRanks_7 _ M _ _ _ _ _ = _
        unfold G_V_isRanks_7 G_V_isRanks_65 G_V_isRanks_77 G_V_isRanks_78
        have : v ≤ 0 := Int32.le_of_lt hv
        simp [this, px_bo0]
      have hv1 : v < 1 := Int32.lt_trans hv (by decide)
      simp only [f_V_isVote, G_V_isVote_73, G_V_isVote_51, e_Q_gi nq nu h hn, b1, b3, Option.bind_some, V_isOutside, hv, hv1, true_or, if_true, hr, e_Q_r5 nq nu h hn, e_Q_rd1 nq nu h hn hj8, f_V_isStrengths]
      split
      · simp [px_bo0]
      · split
        · simp [px_bo0]
        · split
          · simp [px_bo0]
          · simp [px_bo0]
    · simp [f_M_isVote, e_M_r10 nq nu h, e_M_rd106 nq nu h hn6, Int32.not_le.mpr hv]
  · obtain ⟨m, hm, rfl⟩ := nI_of hv
    have hv0 : (0 : Int32) ≤ nI m := Int32.not_lt.mp hv
    rcases (show kd = 0 ∨ kd = 1 ∨ kd = 2 ∨ kd = 3 by omega) with rfl | rfl | rfl | rfl
    · by_cases e : m < ch
      · refine ⟨1, Or.inr ⟨rfl, hv, fun z => by cases z⟩, ?_⟩
        intro nq nu na M h g3 h8 n j hn hj b1 b2 b3 b4 hw hw2
        have hn6 : n < 6 := by omega
        have hj8 : j < 8 := by omega
        refine ⟨?_, ?_⟩
        · have : ¬ (nI m < 0 ∨ nI ch - 1 < nI m) := by
            rw [rk_m1 (by omega)]
            rintro (z | z)
            · exact hv z
            · exact nI_nlt (by omega) (by omega) z
          simp [f_V_isVote, G_V_isVote_51, e_Q_gi nq nu h hn, b1, b3, V_isOutN M this, px_bo1, nI_0]
        · have : ¬ nI ch ≤ nI m := nI_ge e (by omega)
          simp [f_M_isVote, G_M_isVote_59, e_M_r10 nq nu h, e_M_r9 nq nu h, e_M_rd106 nq nu h hn6, e_M_rd105 nq nu h hn6, b2, b4, hv0, this, px_bo1, nI_0]
      · refine ⟨0, Or.inl rfl, ?_⟩
        intro nq nu na M h g3 h8 n j hn hj b1 b2 b3 b4 hw hw2
        have hn6 : n < 6 := by omega
        have hj8 : j < 8 := by omega
        refine ⟨?_, ?_⟩
        · have : (nI m < 0 ∨ nI ch - 1 < nI m) := by
            rw [rk_m1 (by omega)]
            exact Or.inr (nI_lt (by omega) (by omega))
          simp [f_V_isVote, G_V_isVote_51, e_Q_gi nq nu h hn, b1, b3, V_isOutY M this, px_bo0, nI_0]
        · have : nI ch ≤ nI m := nI_le (by omega) hm
          simp [f_M_isVote, G_M_isVote_59, e_M_r10 nq nu h, e_M_r9 nq nu h, e_M_rd106 nq nu h hn6, e_M_rd105 nq nu h hn6, b2, b4, hv0, this, px_bo0, nI_0]
    · have k1' : nI 1 = 1 := rfl
      have hc : (nI m < 1 ∨ nI (2 ^ ch) - 1 < nI m) ↔ (m < 1 ∨ 2 ^ ch ≤ m) := by
        rw [rk_m1 s5, show (1 : Int32) = nI 1 from rfl, nI_ltI hm (by decide), nI_ltI (by omega) hm]
        omega
      by_cases e : m < 1 ∨ 2 ^ ch ≤ m
      · refine ⟨0, Or.inl rfl, ?_⟩
        intro nq nu na M h g3 h8 n j hn hj b1 b2 b3 b4 hw hw2
        have hn6 : n < 6 := by omega
        have hj8 : j < 8 := by omega
        refine ⟨?_, ?_⟩
        · have e' := hc.mpr e
          simp [f_V_isVote, G_V_isVote_73, e_Q_gi nq nu h hn, b1, b3, V_isOutY M e', s1, k1', px_bo0]
        · simp only [f_M_isVote, G_M_isVote_77, G_M_isVote_78, e_M_r10 nq nu h, e_M_r9 nq nu h, e_M_rd106 nq nu h hn6, e_M_rd105 nq nu h hn6, b2, b4, hv0, k1', s1, Option.bind_some, if_true]
          rcases e with e | e
          · simp [show nI m < 1 from nI_lt (b := 1) e (by decide), px_bo0]
          · have e' : nI (2 ^ ch) ≤ nI m := nI_le e hm
            by_cases e2 : nI m < 1
            · simp [e2, px_bo0]
            · simp [e2, e', px_bo0]
      · refine ⟨1, Or.inr ⟨rfl, hv, fun z => by cases z⟩, ?_⟩
        intro nq nu na M h g3 h8 n j hn hj b1 b2 b3 b4 hw hw2
        have hn6 : n < 6 := by omega
        have hj8 : j < 8 := by omega
        refine ⟨?_, ?_⟩
        · have e' : ¬ (nI m < 1 ∨ nI (2 ^ ch) - 1 < nI m) := fun z => e (hc.mp z)
          simp [f_V_isVote, G_V_isVote_73, e_Q_gi nq nu h hn, b1, b3, V_isOutN M e', s1, k1', px_bo1]
        · have e1 : ¬ nI m < 1 := fun z => e (Or.inl ((nI_ltI (b := 1) hm (by decide)).mp z))
          have e2 : ¬ nI (2 ^ ch) ≤ nI m := fun z => e (Or.inr ((nI_leI s3 hm).mp z))
          simp [f_M_isVote, G_M_isVote_77, G_M_isVote_78, e_M_r10 nq nu h, e_M_r9 nq nu h, e_M_rd106 nq nu h hn6, e_M_rd105 nq nu h hn6, b2, b4, hv0, k1', s1, e1, e2, px_bo1]
    · by_cases hm0 : m = 0
      · subst hm0
        refine ⟨0, Or.inl rfl, ?_⟩
        intro nq nu na M h g3 h8 n j hn hj b1 b2 b3 b4 hw hw2
        have hn6 : n < 6 := by omega
        have hj8 : j < 8 := by omega
        refine ⟨?_, ?_⟩
        · have hr : f_V_isRanks M (nI 0) (nI ch) = some (0, M) := by
            unfold f_V_isRanks
            show G_V_isRanks_7 _ M _ _ _ _ _ = _
            unfold G_V_isRanks_7 G_V_isRanks_65 G_V_isRanks_77 G_V_isRanks_78
            simp [nI_0, px_bo0]
          simp [f_V_isVote, e_Q_gi nq nu h hn, b1, b3, hr, px_bo0, iv_2]
        · have hr : f_M_isRanks M (nI ch) (nI 0) = some (0, M) := by
            unfold f_M_isRanks
            show G_M_isRanks_4 _ M _ _ _ _ = _
            unfold G_M_isRanks_4 G_M_isRanks_62 G_M_isRanks_63
            simp [nI_0, px_bo0]
          simp [f_M_isVote, e_M_r10 nq nu h, e_M_r9 nq nu h, e_M_rd106 nq nu h hn6, e_M_rd105 nq nu h hn6, b2, b4, hv0, hr, px_bo0, iv_2]
      · have p63 : m < 8 ^ 63 := Nat.lt_trans hm (by decide)
        have rV : ∀ M, f_V_isRanks M (nI m) (nI ch) = some (if rk_f ch 64 0 m = true then 1 else 0, M) := fun M => V_isRanks_l M a2 a3 (by omega) hm 63 0 m p63 hm (by omega)
        have rM : ∀ M, f_M_isRanks M (nI ch) (nI m) = some (if rk_f ch 64 0 m = true then 1 else 0, M) := fun M => M_isRanks_l M a3 (by omega) hm 63 0 m p63 hm (by decide)
        by_cases e : rk_f ch 64 0 m = true
        · refine ⟨1, Or.inr ⟨rfl, hv, fun _ => ?_⟩, ?_⟩
          · obtain ⟨l, l1, l2, l3⟩ := rk_l a3 64 0 m (by omega) e
            refine ⟨l, ?_, by omega, l2, by rw [l3]⟩
            cases l with
            | nil => exact absurd l3 hm0
            | cons d l => simp
          · intro nq nu na M h g3 h8 n j hn hj b1 b2 b3 b4 hw hw2
            have hn6 : n < 6 := by omega
            refine ⟨?_, ?_⟩
            · simp [f_V_isVote, e_Q_gi nq nu h hn, b1, b3, rV M, e, px_bo1, iv_2]
            · simp [f_M_isVote, e_M_r10 nq nu h, e_M_r9 nq nu h, e_M_rd106 nq nu h hn6, e_M_rd105 nq nu h hn6, b2, b4, hv0, rM M, e, px_bo1, iv_2]
        · refine ⟨0, Or.inl rfl, ?_⟩
          intro nq nu na M h g3 h8 n j hn hj b1 b2 b3 b4 hw hw2
          have hn6 : n < 6 := by omega
          have hj8 : j < 8 := by omega
          refine ⟨?_, ?_⟩
          · simp [f_V_isVote, e_Q_gi nq nu h hn, b1, b3, rV M, e, px_bo0, iv_2]
          · simp [f_M_isVote, e_M_r10 nq nu h, e_M_r9 nq nu h, e_M_rd106 nq nu h hn6, e_M_rd105 nq nu h hn6, b2, b4, hv0, rM M, e, px_bo0, iv_2]
    · have k3 : ¬ nI 3 = 0 ∧ ¬ nI 3 = 1 ∧ ¬ nI 3 = 2 := by decide
      have f1 : ∀ M, F_V_isStrengths_22 64 M (nI m) (nI ch) w (nI (st_q m 0)) (nI 0) = some (if w < nI (st_q m ch) then 0 else 1, M) := by
        intro M
        have := V_isStrengths_l M a3 hm w ch 0 (63 - ch) (by omega)
        rwa [show 63 - ch + ch + 1 = 64 by omega] at this
      rw [show nI (st_q m 0) = 0 from rfl, nI_0] at f1
      have f2 : ∀ {nq nu : Nat} {M : ax_M} (_ : px_W nq nu M.2.2) {n j : Nat} (_ : n < 6) (_ : j < 8), F_M_isVote_95 64 M (some 100) (nI n) (nI j) (nI ch) 0 (nI m) 0 = some (if m / 32 ^ ch = 0 ∧ ¬ ax_i M 115 (8 * n + j) < nI (st_q m ch) then 1 else 0, M) := by
        intro nq nu M h n j hn6 hj8
        have := M_isVote_l h hn6 hj8 a3 hm ch 0 (63 - ch) (by omega)
        rw [show 63 - ch + ch + 1 = 64 by omega] at this
        simpa [st_q, nI_0] using this
      have hc : (nI m < 0 ∨ nI (32 ^ ch) - 1 < nI m) ↔ ¬ (m / 32 ^ ch = 0) := by
        rw [rk_m1 s6, nI_ltI (by omega) hm, Nat.div_eq_zero_iff]
        constructor
        · rintro (z | z)
          · exact absurd z hv
          · omega
        · intro z
          exact Or.inr (by omega)
      by_cases e : m / 32 ^ ch = 0
      · have e' : ¬ (nI m < 0 ∨ nI (32 ^ ch) - 1 < nI m) := fun z => (hc.mp z) e
        by_cases e2 : w < nI (st_q m ch)
        · refine ⟨0, Or.inl rfl, ?_⟩
          intro nq nu na M h g3 h8 n j hn hj b1 b2 b3 b4 hw hw2
          have hn6 : n < 6 := by omega
          have hj8 : j < 8 := by omega
          refine ⟨?_, ?_⟩
          · simp [f_V_isVote, f_V_isStrengths, V_isOutN M e', e_Q_gi nq nu h hn, e_Q_r5 nq nu h hn, e_Q_rd1 nq nu h hn hj8, b1, b3, hw, k3, s2, f1 M, e2, px_bo0]
          · simp [f_M_isVote, e_M_r10 nq nu h, e_M_r9 nq nu h, e_M_rd106 nq nu h hn6, e_M_rd105 nq nu h hn6, b2, b4, hv0, k3, f2 h hn6 hj8, hw2, e, e2]
        · refine ⟨1, Or.inr ⟨rfl, hv, fun z => by cases z⟩, ?_⟩
          intro nq nu na M h g3 h8 n j hn hj b1 b2 b3 b4 hw hw2
          have hn6 : n < 6 := by omega
          have hj8 : j < 8 := by omega
          refine ⟨?_, ?_⟩
          · simp [f_V_isVote, f_V_isStrengths, V_isOutN M e', e_Q_gi nq nu h hn, e_Q_r5 nq nu h hn, e_Q_rd1 nq nu h hn hj8, b1, b3, hw, k3, s2, f1 M, e2, px_bo1]
          · simp [f_M_isVote, e_M_r10 nq nu h, e_M_r9 nq nu h, e_M_rd106 nq nu h hn6, e_M_rd105 nq nu h hn6, b2, b4, hv0, k3, f2 h hn6 hj8, hw2, e, e2]
      · have e' := hc.mpr e
        refine ⟨0, Or.inl rfl, ?_⟩
        intro nq nu na M h g3 h8 n j hn hj b1 b2 b3 b4 hw hw2
        have hn6 : n < 6 := by omega
        have hj8 : j < 8 := by omega
        refine ⟨?_, ?_⟩
        · simp [f_V_isVote, f_V_isStrengths, V_isOutY M e', e_Q_gi nq nu h hn, e_Q_r5 nq nu h hn, e_Q_rd1 nq nu h hn hj8, b1, b3, hw, k3, s2, px_bo0]
        · simp [f_M_isVote, e_M_r10 nq nu h, e_M_r9 nq nu h, e_M_rd106 nq nu h hn6, e_M_rd105 nq nu h hn6, b2, b4, hv0, k3, f2 h hn6 hj8, hw2, e]
