/-! THE LAW'S CALLS -/
theorem lg_self (r : Int64) : lg_cmp r r = 0 := by simp [lg_cmp]
theorem lw_r {xs : Nat → Int32} {L j : Nat} (h : j < L) (hL : L ≤ 3072) : ax_sr xs L (nI j) = some (xs j) := by
  unfold ax_sr
  rw [if_pos (nI_in h (by omega)), nI_clamp (by omega)]
section
variable {xs : Nat → Int32} {L i : Nat}
theorem lw_1 (hi : i + 6 ≤ L) (hL : L ≤ 3072) : ax_sr xs L (nI i + 1) = some (xs (i + 1)) := by rw [nI_1]; exact lw_r (by omega) hL
theorem lw_2 (hi : i + 6 ≤ L) (hL : L ≤ 3072) : ax_sr xs L (nI i + 2) = some (xs (i + 2)) := by rw [show (2 : Int32) = nI 2 from rfl, nI_add]; exact lw_r (by omega) hL
theorem lw_3 (hi : i + 6 ≤ L) (hL : L ≤ 3072) : ax_sr xs L (nI i + 3) = some (xs (i + 3)) := by rw [show (3 : Int32) = nI 3 from rfl, nI_add]; exact lw_r (by omega) hL
theorem lw_4 (hi : i + 6 ≤ L) (hL : L ≤ 3072) : ax_sr xs L (nI i + 4) = some (xs (i + 4)) := by rw [show (4 : Int32) = nI 4 from rfl, nI_add]; exact lw_r (by omega) hL
theorem lw_5 (hi : i + 6 ≤ L) (hL : L ≤ 3072) : ax_sr xs L (nI i + 5) = some (xs (i + 5)) := by rw [show (5 : Int32) = nI 5 from rfl, nI_add]; exact lw_r (by omega) hL
theorem lw_6 : nI i + 6 = nI (i + 6) := by rw [show (6 : Int32) = nI 6 from rfl, nI_add]
end
theorem Sim.ob {T : Nat} {M : ax_M} (h : Sim T M) : ax_ob M 0 (some 0) = some 0 := by
  obtain ⟨na, nq, nu, hh, mt, hg, _⟩ := h
  exact e_V_ob nq nu hg.1
theorem Sim.om {T : Nat} {M : ax_M} (h : Sim T M) : ax_ob M 3 (some 100) = some 100 := by
  obtain ⟨na, nq, nu, hh, mt, hg, _⟩ := h
  exact e_M_ob nq nu hg.1
theorem ob_fin {T : Nat} {M1 M2 : ax_M} (hS : Sim T M2) (h : ax_ob M1 3 (some 100) = none → M2 = M1) : ∃ a, ax_ob M1 3 (some 100) = some a := by
  cases e : ax_ob M1 3 (some 100) with
  | some a => exact ⟨a, rfl⟩
  | none =>
    have := hS.om
    rw [h e, e] at this
    cases this
theorem k_no {M : ax_M} (h : ax_ob M 3 (some 100) = none) (k : Nat) : ax_gi M 3 k (some 100) = none := by simp [ax_gi, h]
theorem ob_account {M M2 : ax_M} {r x y : Int32} (h : f_M_account M (some 100) x y = some (r, M2)) (hn : ax_ob M 3 (some 100) = none) : M2 = M := by
  have gi := k_no hn
  by_cases z0 : x < 0 ∨ 1000 < x
  · simp only [f_M_account, M_isInN M z0, Option.bind_some, if_true, G_M_account_21] at h
    exact (congrArg Prod.snd (Option.some.inj h)).symm
  by_cases z1 : y < 0 ∨ 1000000 < y
  · simp only [f_M_account, M_isInY M z0, M_isInN M z1, Option.bind_some, i32_10, if_false, if_true, G_M_account_21] at h
    exact (congrArg Prod.snd (Option.some.inj h)).symm
  · rw [show f_M_account M (some 100) x y = none by simp only [f_M_account, M_isInY M z0, M_isInY M z1, Option.bind_some, i32_10, if_false, gi, Option.bind_none]] at h
    cases h
theorem ob_tick {M M2 : ax_M} {r x : Int32} (h : f_M_tick M (some 100) x = some (r, M2)) (hn : ax_ob M 3 (some 100) = none) : M2 = M := by
  have gi := k_no hn
  by_cases z0 : x < 0 ∨ 50 < x
  · simp only [f_M_tick, M_isInN M z0, Option.bind_some, if_true] at h
    exact (congrArg Prod.snd (Option.some.inj h)).symm
  · have e1 : f_M_tick M (some 100) x = G_M_tick_15 (F_M_tick_15 63) M (some 100) x 0 := by
      simp only [f_M_tick, M_isInY M z0, Option.bind_some, i32_10, if_false]; rfl
    rw [e1, show G_M_tick_15 (F_M_tick_15 63) M (some 100) x 0 = none by simp only [G_M_tick_15, gi, Option.bind_none, ite_self]] at h
    cases h
theorem ob_mark {M M2 : ax_M} {r : Int64} {x y z : Int32} (h : f_M_mark M (some 100) x y z = some (r, M2)) : M2 = M := by
  have e : (f_M_mark M (some 100) x y z).map Prod.snd = some M := rfl
  rw [h] at e
  exact Option.some.inj e
theorem ob_pot {M M2 : ax_M} {r : Int64} (h : f_M_pot M (some 100) = some (r, M2)) : ∃ a, ax_ob M 3 (some 100) = some a := by
  cases e : ax_ob M 3 (some 100) with
  | some a => exact ⟨a, rfl⟩
  | none =>
    rw [show f_M_pot M (some 100) = none by simp [f_M_pot, ax_gl, e]] at h
    cases h
theorem ob_question {M M2 : ax_M} {r p0 p1 p2 p3 p4 : Int32} (h : f_M_question M (some 100) p0 p1 p2 p3 p4 = some (r, M2)) (hn : ax_ob M 3 (some 100) = none) : M2 = M := by
  have gi := k_no hn
  by_cases z0 : p0 < 0 ∨ 3 < p0
  · simp only [f_M_question, M_isInN M z0, Option.bind_some, if_true, G_M_question_50] at h
    exact (congrArg Prod.snd (Option.some.inj h)).symm
  by_cases z1 : p1 < 2 ∨ 4 < p1
  · simp only [f_M_question, M_isInY M z0, M_isInN M z1, Option.bind_some, i32_10, if_false, if_true, G_M_question_50] at h
    exact (congrArg Prod.snd (Option.some.inj h)).symm
  by_cases z2 : p2 < 1 ∨ 50 < p2
  · simp only [f_M_question, M_isInY M z0, M_isInY M z1, M_isInN M z2, Option.bind_some, i32_10, if_false, if_true, G_M_question_50] at h
    exact (congrArg Prod.snd (Option.some.inj h)).symm
  by_cases z3 : p3 < 0 ∨ 20 < p3
  · simp only [f_M_question, M_isInY M z0, M_isInY M z1, M_isInY M z2, M_isInN M z3, Option.bind_some, i32_10, if_false, if_true, G_M_question_50] at h
    exact (congrArg Prod.snd (Option.some.inj h)).symm
  by_cases z4 : p4 < 0 ∨ 100 < p4
  · simp only [f_M_question, M_isInY M z0, M_isInY M z1, M_isInY M z2, M_isInY M z3, M_isInN M z4, Option.bind_some, i32_10, if_false, if_true, G_M_question_50] at h
    exact (congrArg Prod.snd (Option.some.inj h)).symm
  · rw [show f_M_question M (some 100) p0 p1 p2 p3 p4 = none by simp only [f_M_question, M_isInY M z0, M_isInY M z1, M_isInY M z2, M_isInY M z3, M_isInY M z4, Option.bind_some, i32_10, if_false, gi, Option.bind_none]] at h
    cases h
theorem ob_auction {M M2 : ax_M} {r p0 p1 p2 p3 p4 : Int32} (h : f_M_auction M (some 100) p0 p1 p2 p3 p4 = some (r, M2)) (hn : ax_ob M 3 (some 100) = none) : M2 = M := by
  have gi := k_no hn
  by_cases z0 : p0 < 0 ∨ 4 < p0
  · simp only [f_M_auction, M_isInN M z0, Option.bind_some, if_true, G_M_auction_62] at h
    exact (congrArg Prod.snd (Option.some.inj h)).symm
  rw [M_auction_22 z0] at h
  unfold G_M_auction_22 at h
  by_cases z1 : p1 < 1 ∨ au_hi p0 < p1
  · simp only [M_isInN M z1, Option.bind_some, if_true, G_M_auction_62] at h
    exact (congrArg Prod.snd (Option.some.inj h)).symm
  by_cases z2 : p2 < 1 ∨ 10000 < p2
  · simp only [M_isInY M z1, M_isInN M z2, Option.bind_some, i32_10, if_false, if_true, G_M_auction_62] at h
    exact (congrArg Prod.snd (Option.some.inj h)).symm
  by_cases z3 : p3 < 0 ∨ 1000 < p3
  · simp only [M_isInY M z1, M_isInY M z2, M_isInN M z3, Option.bind_some, i32_10, if_false, if_true, G_M_auction_62] at h
    exact (congrArg Prod.snd (Option.some.inj h)).symm
  by_cases z4 : p4 < 1 ∨ 50 < p4
  · simp only [M_isInY M z1, M_isInY M z2, M_isInY M z3, M_isInN M z4, Option.bind_some, i32_10, if_false, if_true, G_M_auction_62] at h
    exact (congrArg Prod.snd (Option.some.inj h)).symm
  · simp only [M_isInY M z1, M_isInY M z2, M_isInY M z3, M_isInY M z4, Option.bind_some, i32_10, if_false, gi, Option.bind_none, reduceCtorEq] at h
theorem lw_gf {g : Nat} (h1 : 1000 ≤ g) (h2 : g ≤ 2060) : ax_gf [some 9999, some 0, some 100] [g, g + 1, g + 2, g + 3, g + 4, g + 5] = some () := k_gf (by
  intro o ho j hj z
  simp at ho hj
  rcases ho with ho | ho | ho
  · rw [ho] at z; have := Option.some.inj z; omega
  · rw [ho] at z; have := Option.some.inj z; omega
  · rw [ho] at z; have := Option.some.inj z; omega)
theorem lw_gq {T : Nat} {M : ax_M} (h : Sim T M) : ax_gf [some 9999, some 0, some 100] [(10 * (ax_i M 0 7).toNatClampNeg + 1000), (10 * (ax_i M 0 7).toNatClampNeg + 1000) + 1, (10 * (ax_i M 0 7).toNatClampNeg + 1000) + 2, (10 * (ax_i M 0 7).toNatClampNeg + 1000) + 3, (10 * (ax_i M 0 7).toNatClampNeg + 1000) + 4, (10 * (ax_i M 0 7).toNatClampNeg + 1000) + 5] = some () := by
  obtain ⟨na, nq, nu, hh, mt, hg, _⟩ := h
  obtain ⟨W, g2, g3, g4, g5, g6, g7, i1, i2, i3, i4, i5, i6, i7, i8, i9, i10⟩ := hg
  have e : (ax_i M 0 7).toNatClampNeg = nq := by rw [i6, nI_clamp (by omega)]
  rw [e]
  exact lw_gf (by omega) (by omega)
theorem lw_ga {T : Nat} {M : ax_M} (h : Sim T M) : ax_gf [some 9999, some 0, some 100] [(10 * (ax_i M 0 9).toNatClampNeg + 2000), (10 * (ax_i M 0 9).toNatClampNeg + 2000) + 1, (10 * (ax_i M 0 9).toNatClampNeg + 2000) + 2, (10 * (ax_i M 0 9).toNatClampNeg + 2000) + 3, (10 * (ax_i M 0 9).toNatClampNeg + 2000) + 4, (10 * (ax_i M 0 9).toNatClampNeg + 2000) + 5] = some () := by
  obtain ⟨na, nq, nu, hh, mt, hg, _⟩ := h
  obtain ⟨W, g2, g3, g4, g5, g6, g7, i1, i2, i3, i4, i5, i6, i7, i8, i9, i10⟩ := hg
  have e : (ax_i M 0 9).toNatClampNeg = nu := by rw [i8, nI_clamp (by omega)]
  rw [e]
  exact lw_gf (by omega) (by omega)
theorem lst_0 {xs : Nat → Int32} {L i T : Nat} {M : ax_M} {rec : ax_M → Int32 → Option (Int32 × ax_M)} (hi : i + 6 ≤ L) (hL : L ≤ 3072) (hT : T < 1000) (hS : Sim T M) : ∃ M2, G_L_0 xs L rec M (nI i) = rec M2 (nI (i + 6)) ∧ Sim (T + 1) M2 := by
  obtain ⟨r, M1, M2, e1, e2, e3⟩ := op_account hT hS (xs (i + 1)) (xs (i + 2))
  have e2' : f_M_account M1 (some 100) (xs (i + 1)) (xs (i + 2)) = some (r, M2) := e2
  obtain ⟨a, o2⟩ : ∃ a, ax_ob M1 3 (some 100) = some a := ob_fin e3 (fun q => ob_account e2' q)
  refine ⟨M2, ?_, e3⟩
  simp only [G_L_0, G_L_inc, lw_1 hi hL, lw_2 hi hL, hS.ob, Option.bind_some, e1, o2, e2', eq_self, if_true, lw_6]
theorem lst_1 {xs : Nat → Int32} {L i T : Nat} {M : ax_M} {rec : ax_M → Int32 → Option (Int32 × ax_M)} (hi : i + 6 ≤ L) (hL : L ≤ 3072) (hT : T < 1000) (hS : Sim T M) : ∃ M2, G_L_1 xs L rec M (nI i) = rec M2 (nI (i + 6)) ∧ Sim (T + 1) M2 := by
  obtain ⟨r, M1, M2, e1, e2, e3⟩ := op_weigh hT hS (xs (i + 1)) (xs (i + 2))
  have e2' : f_M_weigh M1 (some 100) (xs (i + 1)) (xs (i + 2)) = some (r, M2) := e2
  obtain ⟨a, o2, _⟩ := ax_bd (show (ax_ob M1 3 (some 100)).bind _ = some (r, M2) from e2')
  refine ⟨M2, ?_, e3⟩
  simp only [G_L_1, G_L_inc, lw_1 hi hL, lw_2 hi hL, hS.ob, Option.bind_some, e1, o2, e2', eq_self, if_true, lw_6]
theorem lst_2 {xs : Nat → Int32} {L i T : Nat} {M : ax_M} {rec : ax_M → Int32 → Option (Int32 × ax_M)} (hi : i + 6 ≤ L) (hL : L ≤ 3072) (hT : T < 1000) (hS : Sim T M) : ∃ M2, G_L_2 xs L rec M (nI i) = rec M2 (nI (i + 6)) ∧ Sim (T + 1) M2 := by
  obtain ⟨r, M1, M2, e1, e2, e3⟩ := op_fund hT hS (xs (i + 1)) (xs (i + 2))
  have e2' : f_M_fund M1 (some 100) (xs (i + 1)) (xs (i + 2)) = some (r, M2) := e2
  obtain ⟨a, o2, _⟩ := ax_bd (show (ax_ob M1 3 (some 100)).bind _ = some (r, M2) from e2')
  refine ⟨M2, ?_, e3⟩
  simp only [G_L_2, G_L_inc, lw_1 hi hL, lw_2 hi hL, hS.ob, Option.bind_some, e1, o2, e2', eq_self, if_true, lw_6]
theorem lst_3 {xs : Nat → Int32} {L i T : Nat} {M : ax_M} {rec : ax_M → Int32 → Option (Int32 × ax_M)} (hi : i + 6 ≤ L) (hL : L ≤ 3072) (hT : T < 1000) (hS : Sim T M) : ∃ M2, G_L_3 xs L rec M (nI i) = rec M2 (nI (i + 6)) ∧ Sim (T + 1) M2 := by
  obtain ⟨r, M1, M2, e1, e2, e3⟩ := op_speak hT hS (xs (i + 1)) (xs (i + 2))
  have e2' : f_M_speak M1 (some 100) (xs (i + 1)) (xs (i + 2)) = some (r, M2) := e2
  obtain ⟨a, o2, _⟩ := ax_bd (show (ax_ob M1 3 (some 100)).bind _ = some (r, M2) from e2')
  refine ⟨M2, ?_, e3⟩
  simp only [G_L_3, G_L_inc, lw_1 hi hL, lw_2 hi hL, hS.ob, Option.bind_some, e1, o2, e2', eq_self, if_true, lw_6]
theorem lst_4 {xs : Nat → Int32} {L i T : Nat} {M : ax_M} {rec : ax_M → Int32 → Option (Int32 × ax_M)} (hi : i + 6 ≤ L) (hL : L ≤ 3072) (hT : T < 1000) (hS : Sim T M) : ∃ M2, G_L_4 xs L rec M (nI i) = rec M2 (nI (i + 6)) ∧ Sim (T + 1) M2 := by
  obtain ⟨r, M1, M2, e1, e2, e3⟩ := op_holds hT hS (xs (i + 1)) (xs (i + 2))
  have e2' : f_M_holds M1 (some 100) (xs (i + 1)) (xs (i + 2)) = some (r, M2) := e2
  obtain ⟨a, o2, _⟩ := ax_bd (show (ax_ob M1 3 (some 100)).bind _ = some (r, M2) from e2')
  refine ⟨M2, ?_, e3⟩
  simp only [G_L_4, G_L_inc, lw_1 hi hL, lw_2 hi hL, hS.ob, Option.bind_some, e1, o2, e2', eq_self, if_true, lw_6, lg_self]
theorem lst_5 {xs : Nat → Int32} {L i T : Nat} {M : ax_M} {rec : ax_M → Int32 → Option (Int32 × ax_M)} (hi : i + 6 ≤ L) (hL : L ≤ 3072) (hT : T < 1000) (hS : Sim T M) : ∃ M2, G_L_5 xs L rec M (nI i) = rec M2 (nI (i + 6)) ∧ Sim (T + 1) M2 := by
  obtain ⟨r, M1, M2, e1, e2, e3⟩ := op_pot hT hS 
  have e2' : f_M_pot M1 (some 100)  = some (r, M2) := e2
  obtain ⟨a, o2⟩ : ∃ a, ax_ob M1 3 (some 100) = some a := ob_pot e2'
  refine ⟨M2, ?_, e3⟩
  simp only [G_L_5, G_L_inc, hS.ob, Option.bind_some, e1, o2, e2', eq_self, if_true, lw_6, lg_self]
theorem lst_6 {xs : Nat → Int32} {L i T : Nat} {M : ax_M} {rec : ax_M → Int32 → Option (Int32 × ax_M)} (hi : i + 6 ≤ L) (hL : L ≤ 3072) (hT : T < 1000) (hS : Sim T M) : ∃ M2, G_L_6 xs L rec M (nI i) = rec M2 (nI (i + 6)) ∧ Sim (T + 1) M2 := by
  obtain ⟨r, M1, M2, e1, e2, e3⟩ := op_tick hT hS (xs (i + 1))
  have e2' : f_M_tick M1 (some 100) (xs (i + 1)) = some (r, M2) := e2
  obtain ⟨a, o2⟩ : ∃ a, ax_ob M1 3 (some 100) = some a := ob_fin e3 (fun q => ob_tick e2' q)
  refine ⟨M2, ?_, e3⟩
  simp only [G_L_6, G_L_inc, lw_1 hi hL, hS.ob, Option.bind_some, e1, o2, e2', eq_self, if_true, lw_6]
theorem lst_7 {xs : Nat → Int32} {L i T : Nat} {M : ax_M} {rec : ax_M → Int32 → Option (Int32 × ax_M)} (hi : i + 6 ≤ L) (hL : L ≤ 3072) (hT : T < 1000) (hS : Sim T M) : ∃ M2, G_L_7 xs L rec M (nI i) = rec M2 (nI (i + 6)) ∧ Sim (T + 1) M2 := by
  obtain ⟨r, M1, M2, e1, e2, e3⟩ := op_mark hT hS (xs (i + 1)) (xs (i + 2)) (xs (i + 3))
  have e2' : f_M_mark M1 (some 100) (xs (i + 1)) (xs (i + 2)) (xs (i + 3)) = some (r, M2) := e2
  obtain ⟨a, o2⟩ : ∃ a, ax_ob M1 3 (some 100) = some a := ob_fin e3 (fun _ => ob_mark e2')
  refine ⟨M2, ?_, e3⟩
  simp only [G_L_7, G_L_inc, lw_1 hi hL, lw_2 hi hL, lw_3 hi hL, hS.ob, Option.bind_some, e1, o2, e2', eq_self, if_true, lw_6, lg_self]
theorem lst_8 {xs : Nat → Int32} {L i T : Nat} {M : ax_M} {rec : ax_M → Int32 → Option (Int32 × ax_M)} (hi : i + 6 ≤ L) (hL : L ≤ 3072) (hT : T < 1000) (hS : Sim T M) : ∃ M2, G_L_8 xs L rec M (nI i) = rec M2 (nI (i + 6)) ∧ Sim (T + 1) M2 := by
  obtain ⟨r, M1, M2, e1, e2, e3⟩ := op_question hT hS (xs (i + 1)) (xs (i + 2)) (xs (i + 3)) (xs (i + 4)) (xs (i + 5))
  have e2' : f_M_question M1 (some 100) (xs (i + 1)) (xs (i + 2)) (xs (i + 3)) (xs (i + 4)) (xs (i + 5)) = some (r, M2) := e2
  obtain ⟨a, o2⟩ : ∃ a, ax_ob M1 3 (some 100) = some a := ob_fin e3 (fun q => ob_question e2' q)
  have gf := lw_gq hS
  refine ⟨M2, ?_, e3⟩
  simp only [G_L_8, G_L_inc, lw_1 hi hL, lw_2 hi hL, lw_3 hi hL, lw_4 hi hL, lw_5 hi hL, hS.ob, Option.bind_some, e1, o2, e2', eq_self, if_true, lw_6, gf]
theorem lst_9 {xs : Nat → Int32} {L i T : Nat} {M : ax_M} {rec : ax_M → Int32 → Option (Int32 × ax_M)} (hi : i + 6 ≤ L) (hL : L ≤ 3072) (hT : T < 1000) (hS : Sim T M) : ∃ M2, G_L_9 xs L rec M (nI i) = rec M2 (nI (i + 6)) ∧ Sim (T + 1) M2 := by
  obtain ⟨r, M1, M2, e1, e2, e3⟩ := op_call hT hS (xs (i + 1)) (xs (i + 2)) (xs (i + 3)) (xs (i + 4))
  have e2' : f_M_call M1 (some 100) (xs (i + 1)) (xs (i + 2)) (xs (i + 3)) (xs (i + 4)) = some (r, M2) := e2
  obtain ⟨a, o2, _⟩ := ax_bd (show (ax_ob M1 3 (some 100)).bind _ = some (r, M2) from e2')
  refine ⟨M2, ?_, e3⟩
  simp only [G_L_9, G_L_inc, lw_1 hi hL, lw_2 hi hL, lw_3 hi hL, lw_4 hi hL, hS.ob, Option.bind_some, e1, o2, e2', eq_self, if_true, lw_6]
theorem lst_10 {xs : Nat → Int32} {L i T : Nat} {M : ax_M} {rec : ax_M → Int32 → Option (Int32 × ax_M)} (hi : i + 6 ≤ L) (hL : L ≤ 3072) (hT : T < 1000) (hS : Sim T M) : ∃ M2, G_L_10 xs L rec M (nI i) = rec M2 (nI (i + 6)) ∧ Sim (T + 1) M2 := by
  obtain ⟨r, M1, M2, e1, e2, e3⟩ := op_vote hT hS (xs (i + 1)) (xs (i + 2)) (xs (i + 3))
  have e2' : f_M_vote M1 (some 100) (xs (i + 1)) (xs (i + 2)) (xs (i + 3)) = some (r, M2) := e2
  obtain ⟨a, o2, _⟩ := ax_bd (show (ax_ob M1 3 (some 100)).bind _ = some (r, M2) from e2')
  refine ⟨M2, ?_, e3⟩
  simp only [G_L_10, G_L_inc, lw_1 hi hL, lw_2 hi hL, lw_3 hi hL, hS.ob, Option.bind_some, e1, o2, e2', eq_self, if_true, lw_6]
theorem lst_11 {xs : Nat → Int32} {L i T : Nat} {M : ax_M} {rec : ax_M → Int32 → Option (Int32 × ax_M)} (hi : i + 6 ≤ L) (hL : L ≤ 3072) (hT : T < 1000) (hS : Sim T M) : ∃ M2, G_L_11 xs L rec M (nI i) = rec M2 (nI (i + 6)) ∧ Sim (T + 1) M2 := by
  obtain ⟨r, M1, M2, e1, e2, e3⟩ := op_hide hT hS (xs (i + 1)) (xs (i + 2)) ((((xs (i + 3)).toInt64) <<< ((32 : Int32).toInt64 &&& 63)) ||| (((xs (i + 4)).toInt64) &&& 4294967295))
  have e2' : f_M_hide M1 (some 100) (xs (i + 1)) (xs (i + 2)) ((((xs (i + 3)).toInt64) <<< ((32 : Int32).toInt64 &&& 63)) ||| (((xs (i + 4)).toInt64) &&& 4294967295)) = some (r, M2) := e2
  obtain ⟨a, o2, _⟩ := ax_bd (show (ax_ob M1 3 (some 100)).bind _ = some (r, M2) from e2')
  refine ⟨M2, ?_, e3⟩
  simp only [G_L_11, G_L_inc, lw_1 hi hL, lw_2 hi hL, lw_3 hi hL, lw_4 hi hL, hS.ob, Option.bind_some, e1, o2, e2', eq_self, if_true, lw_6]
theorem lst_12 {xs : Nat → Int32} {L i T : Nat} {M : ax_M} {rec : ax_M → Int32 → Option (Int32 × ax_M)} (hi : i + 6 ≤ L) (hL : L ≤ 3072) (hT : T < 1000) (hS : Sim T M) : ∃ M2, G_L_12 xs L rec M (nI i) = rec M2 (nI (i + 6)) ∧ Sim (T + 1) M2 := by
  obtain ⟨r, M1, M2, e1, e2, e3⟩ := op_reveal hT hS (xs (i + 1)) (xs (i + 2)) (xs (i + 3)) (xs (i + 4))
  have e2' : f_M_reveal M1 (some 100) (xs (i + 1)) (xs (i + 2)) (xs (i + 3)) (xs (i + 4)) = some (r, M2) := e2
  obtain ⟨a, o2, _⟩ := ax_bd (show (ax_ob M1 3 (some 100)).bind _ = some (r, M2) from e2')
  refine ⟨M2, ?_, e3⟩
  simp only [G_L_12, G_L_inc, lw_1 hi hL, lw_2 hi hL, lw_3 hi hL, lw_4 hi hL, hS.ob, Option.bind_some, e1, o2, e2', eq_self, if_true, lw_6]
theorem lst_13 {xs : Nat → Int32} {L i T : Nat} {M : ax_M} {rec : ax_M → Int32 → Option (Int32 × ax_M)} (hi : i + 6 ≤ L) (hL : L ≤ 3072) (hT : T < 1000) (hS : Sim T M) : ∃ M2, G_L_13 xs L rec M (nI i) = rec M2 (nI (i + 6)) ∧ Sim (T + 1) M2 := by
  obtain ⟨r, M1, M2, e1, e2, e3⟩ := op_count hT hS (xs (i + 1)) (xs (i + 2))
  have e2' : f_M_count M1 (some 100) (xs (i + 1)) (xs (i + 2)) = some (r, M2) := e2
  obtain ⟨a, o2, _⟩ := ax_bd (show (ax_ob M1 3 (some 100)).bind _ = some (r, M2) from e2')
  refine ⟨M2, ?_, e3⟩
  simp only [G_L_13, G_L_inc, lw_1 hi hL, lw_2 hi hL, hS.ob, Option.bind_some, e1, o2, e2', eq_self, if_true, lw_6]
theorem lst_14 {xs : Nat → Int32} {L i T : Nat} {M : ax_M} {rec : ax_M → Int32 → Option (Int32 × ax_M)} (hi : i + 6 ≤ L) (hL : L ≤ 3072) (hT : T < 1000) (hS : Sim T M) : ∃ M2, G_L_14 xs L rec M (nI i) = rec M2 (nI (i + 6)) ∧ Sim (T + 1) M2 := by
  obtain ⟨r, M1, M2, e1, e2, e3⟩ := op_fallen hT hS (xs (i + 1)) (xs (i + 2))
  have e2' : f_M_fallen M1 (some 100) (xs (i + 1)) (xs (i + 2)) = some (r, M2) := e2
  obtain ⟨a, o2, _⟩ := ax_bd (show (ax_ob M1 3 (some 100)).bind _ = some (r, M2) from e2')
  refine ⟨M2, ?_, e3⟩
  simp only [G_L_14, G_L_inc, lw_1 hi hL, lw_2 hi hL, hS.ob, Option.bind_some, e1, o2, e2', eq_self, if_true, lw_6]
theorem lst_15 {xs : Nat → Int32} {L i T : Nat} {M : ax_M} {rec : ax_M → Int32 → Option (Int32 × ax_M)} (hi : i + 6 ≤ L) (hL : L ≤ 3072) (hT : T < 1000) (hS : Sim T M) : ∃ M2, G_L_15 xs L rec M (nI i) = rec M2 (nI (i + 6)) ∧ Sim (T + 1) M2 := by
  obtain ⟨r, M1, M2, e1, e2, e3⟩ := op_winner hT hS (xs (i + 1))
  have e2' : f_M_winner M1 (some 100) (xs (i + 1)) = some (r, M2) := e2
  obtain ⟨a, o2, _⟩ := ax_bd (show (ax_ob M1 3 (some 100)).bind _ = some (r, M2) from e2')
  refine ⟨M2, ?_, e3⟩
  simp only [G_L_15, G_L_inc, lw_1 hi hL, hS.ob, Option.bind_some, e1, o2, e2', eq_self, if_true, lw_6]
theorem lst_16 {xs : Nat → Int32} {L i T : Nat} {M : ax_M} {rec : ax_M → Int32 → Option (Int32 × ax_M)} (hi : i + 6 ≤ L) (hL : L ≤ 3072) (hT : T < 1000) (hS : Sim T M) : ∃ M2, G_L_16 xs L rec M (nI i) = rec M2 (nI (i + 6)) ∧ Sim (T + 1) M2 := by
  obtain ⟨r, M1, M2, e1, e2, e3⟩ := op_passed hT hS (xs (i + 1))
  have e2' : f_M_passed M1 (some 100) (xs (i + 1)) = some (r, M2) := e2
  obtain ⟨a, o2, _⟩ := ax_bd (show (ax_ob M1 3 (some 100)).bind _ = some (r, M2) from e2')
  refine ⟨M2, ?_, e3⟩
  simp only [G_L_16, G_L_inc, lw_1 hi hL, hS.ob, Option.bind_some, e1, o2, e2', eq_self, if_true, lw_6]
theorem lst_17 {xs : Nat → Int32} {L i T : Nat} {M : ax_M} {rec : ax_M → Int32 → Option (Int32 × ax_M)} (hi : i + 6 ≤ L) (hL : L ≤ 3072) (hT : T < 1000) (hS : Sim T M) : ∃ M2, G_L_17 xs L rec M (nI i) = rec M2 (nI (i + 6)) ∧ Sim (T + 1) M2 := by
  obtain ⟨r, M1, M2, e1, e2, e3⟩ := op_run hT hS (xs (i + 1))
  have e2' : f_M_run M1 (some 100) (xs (i + 1)) = some (r, M2) := e2
  obtain ⟨a, o2, _⟩ := ax_bd (show (ax_ob M1 3 (some 100)).bind _ = some (r, M2) from e2')
  refine ⟨M2, ?_, e3⟩
  simp only [G_L_17, G_L_inc, lw_1 hi hL, hS.ob, Option.bind_some, e1, o2, e2', eq_self, if_true, lw_6]
theorem lst_18 {xs : Nat → Int32} {L i T : Nat} {M : ax_M} {rec : ax_M → Int32 → Option (Int32 × ax_M)} (hi : i + 6 ≤ L) (hL : L ≤ 3072) (hT : T < 1000) (hS : Sim T M) : ∃ M2, G_L_18 xs L rec M (nI i) = rec M2 (nI (i + 6)) ∧ Sim (T + 1) M2 := by
  obtain ⟨r, M1, M2, e1, e2, e3⟩ := op_auction hT hS (xs (i + 1)) (xs (i + 2)) (xs (i + 3)) (xs (i + 4)) (xs (i + 5))
  have e2' : f_M_auction M1 (some 100) (xs (i + 1)) (xs (i + 2)) (xs (i + 3)) (xs (i + 4)) (xs (i + 5)) = some (r, M2) := e2
  obtain ⟨a, o2⟩ : ∃ a, ax_ob M1 3 (some 100) = some a := ob_fin e3 (fun q => ob_auction e2' q)
  have gf := lw_ga hS
  refine ⟨M2, ?_, e3⟩
  simp only [G_L_18, G_L_inc, lw_1 hi hL, lw_2 hi hL, lw_3 hi hL, lw_4 hi hL, lw_5 hi hL, hS.ob, Option.bind_some, e1, o2, e2', eq_self, if_true, lw_6, gf]
theorem lst_19 {xs : Nat → Int32} {L i T : Nat} {M : ax_M} {rec : ax_M → Int32 → Option (Int32 × ax_M)} (hi : i + 6 ≤ L) (hL : L ≤ 3072) (hT : T < 1000) (hS : Sim T M) : ∃ M2, G_L_19 xs L rec M (nI i) = rec M2 (nI (i + 6)) ∧ Sim (T + 1) M2 := by
  obtain ⟨r, M1, M2, e1, e2, e3⟩ := op_bid hT hS (xs (i + 1)) (xs (i + 2)) (xs (i + 3)) (xs (i + 4))
  have e2' : f_M_bid M1 (some 100) (xs (i + 1)) (xs (i + 2)) (xs (i + 3)) (xs (i + 4)) = some (r, M2) := e2
  obtain ⟨a, o2, _⟩ := ax_bd (show (ax_ob M1 3 (some 100)).bind _ = some (r, M2) from e2')
  refine ⟨M2, ?_, e3⟩
  simp only [G_L_19, G_L_inc, lw_1 hi hL, lw_2 hi hL, lw_3 hi hL, lw_4 hi hL, hS.ob, Option.bind_some, e1, o2, e2', eq_self, if_true, lw_6]
theorem lst_20 {xs : Nat → Int32} {L i T : Nat} {M : ax_M} {rec : ax_M → Int32 → Option (Int32 × ax_M)} (hi : i + 6 ≤ L) (hL : L ≤ 3072) (hT : T < 1000) (hS : Sim T M) : ∃ M2, G_L_20 xs L rec M (nI i) = rec M2 (nI (i + 6)) ∧ Sim (T + 1) M2 := by
  obtain ⟨r, M1, M2, e1, e2, e3⟩ := op_seal hT hS (xs (i + 1)) (xs (i + 2)) ((((xs (i + 3)).toInt64) <<< ((32 : Int32).toInt64 &&& 63)) ||| (((xs (i + 4)).toInt64) &&& 4294967295))
  have e2' : f_M_seal M1 (some 100) (xs (i + 1)) (xs (i + 2)) ((((xs (i + 3)).toInt64) <<< ((32 : Int32).toInt64 &&& 63)) ||| (((xs (i + 4)).toInt64) &&& 4294967295)) = some (r, M2) := e2
  obtain ⟨a, o2, _⟩ := ax_bd (show (ax_ob M1 3 (some 100)).bind _ = some (r, M2) from e2')
  refine ⟨M2, ?_, e3⟩
  simp only [G_L_20, G_L_inc, lw_1 hi hL, lw_2 hi hL, lw_3 hi hL, lw_4 hi hL, hS.ob, Option.bind_some, e1, o2, e2', eq_self, if_true, lw_6]
theorem lst_21 {xs : Nat → Int32} {L i T : Nat} {M : ax_M} {rec : ax_M → Int32 → Option (Int32 × ax_M)} (hi : i + 6 ≤ L) (hL : L ≤ 3072) (hT : T < 1000) (hS : Sim T M) : ∃ M2, G_L_21 xs L rec M (nI i) = rec M2 (nI (i + 6)) ∧ Sim (T + 1) M2 := by
  obtain ⟨r, M1, M2, e1, e2, e3⟩ := op_unseal hT hS (xs (i + 1)) (xs (i + 2)) (xs (i + 3)) (xs (i + 4))
  have e2' : f_M_unseal M1 (some 100) (xs (i + 1)) (xs (i + 2)) (xs (i + 3)) (xs (i + 4)) = some (r, M2) := e2
  obtain ⟨a, o2, _⟩ := ax_bd (show (ax_ob M1 3 (some 100)).bind _ = some (r, M2) from e2')
  refine ⟨M2, ?_, e3⟩
  simp only [G_L_21, G_L_inc, lw_1 hi hL, lw_2 hi hL, lw_3 hi hL, lw_4 hi hL, hS.ob, Option.bind_some, e1, o2, e2', eq_self, if_true, lw_6]
theorem lst_22 {xs : Nat → Int32} {L i T : Nat} {M : ax_M} {rec : ax_M → Int32 → Option (Int32 × ax_M)} (hi : i + 6 ≤ L) (hL : L ≤ 3072) (hT : T < 1000) (hS : Sim T M) : ∃ M2, G_L_22 xs L rec M (nI i) = rec M2 (nI (i + 6)) ∧ Sim (T + 1) M2 := by
  obtain ⟨r, M1, M2, e1, e2, e3⟩ := op_take hT hS (xs (i + 1)) (xs (i + 2))
  have e2' : f_M_take M1 (some 100) (xs (i + 1)) (xs (i + 2)) = some (r, M2) := e2
  obtain ⟨a, o2, _⟩ := ax_bd (show (ax_ob M1 3 (some 100)).bind _ = some (r, M2) from e2')
  refine ⟨M2, ?_, e3⟩
  simp only [G_L_22, G_L_inc, lw_1 hi hL, lw_2 hi hL, hS.ob, Option.bind_some, e1, o2, e2', eq_self, if_true, lw_6]
theorem lst_23 {xs : Nat → Int32} {L i T : Nat} {M : ax_M} {rec : ax_M → Int32 → Option (Int32 × ax_M)} (hi : i + 6 ≤ L) (hL : L ≤ 3072) (hT : T < 1000) (hS : Sim T M) : ∃ M2, G_L_23 xs L rec M (nI i) = rec M2 (nI (i + 6)) ∧ Sim (T + 1) M2 := by
  obtain ⟨r, M1, M2, e1, e2, e3⟩ := op_price hT hS (xs (i + 1))
  have e2' : f_M_price M1 (some 100) (xs (i + 1)) = some (r, M2) := e2
  obtain ⟨a, o2, _⟩ := ax_bd (show (ax_ob M1 3 (some 100)).bind _ = some (r, M2) from e2')
  refine ⟨M2, ?_, e3⟩
  simp only [G_L_23, G_L_inc, lw_1 hi hL, hS.ob, Option.bind_some, e1, o2, e2', eq_self, if_true, lw_6]
theorem lst_24 {xs : Nat → Int32} {L i T : Nat} {M : ax_M} {rec : ax_M → Int32 → Option (Int32 × ax_M)} (hi : i + 6 ≤ L) (hL : L ≤ 3072) (hT : T < 1000) (hS : Sim T M) : ∃ M2, G_L_24 xs L rec M (nI i) = rec M2 (nI (i + 6)) ∧ Sim (T + 1) M2 := by
  obtain ⟨r, M1, M2, e1, e2, e3⟩ := op_won hT hS (xs (i + 1)) (xs (i + 2))
  have e2' : f_M_won M1 (some 100) (xs (i + 1)) (xs (i + 2)) = some (r, M2) := e2
  obtain ⟨a, o2, _⟩ := ax_bd (show (ax_ob M1 3 (some 100)).bind _ = some (r, M2) from e2')
  refine ⟨M2, ?_, e3⟩
  simp only [G_L_24, G_L_inc, lw_1 hi hL, lw_2 hi hL, hS.ob, Option.bind_some, e1, o2, e2', eq_self, if_true, lw_6]
/-! THE LAW -/
theorem lw_neg : ∀ L, L < 6 → (Int32.ofNat L - 6).toInt < 0 := by decide +kernel
theorem lw_cmp {L i : Nat} (hL : L ≤ 3072) (hi : i ≤ 6000) : ((Int32.ofNat L - 6) < nI i) ↔ L < i + 6 := by
  by_cases h : L < 6
  · have h1 := lw_neg L h
    rw [Int32.lt_iff_toInt_lt, nI_toInt (by omega)]
    constructor
    · intro _; omega
    · intro _; omega
  · obtain ⟨k, rfl⟩ : ∃ k, L = k + 6 := ⟨L - 6, by omega⟩
    have e : Int32.ofNat (k + 6) - 6 = nI k := by
      show nI (k + 6) - 6 = nI k
      rw [← nI_add]
      exact Int32.add_sub_cancel _ _
    rw [e, nI_ltI (by omega) (by omega)]
    omega
theorem lw_step {xs : Nat → Int32} {L i T : Nat} {M : ax_M} {rec : ax_M → Int32 → Option (Int32 × ax_M)} (hi : i + 6 ≤ L) (hL : L ≤ 3072) (hT : T < 1000) (hS : Sim T M) : ∃ M2, G_L_head xs L rec M (nI i) = rec M2 (nI (i + 6)) ∧ Sim (T + 1) M2 := by
  unfold G_L_head
  rw [if_neg (fun z => by have := (lw_cmp hL (by omega)).mp z; omega), lw_r (by omega) hL, Option.bind_some, Option.bind_some]
  by_cases y0 : xs i &&& 31 = 0
  · rw [if_pos y0]; exact lst_0 hi hL hT hS
  rw [if_neg y0]
  by_cases y1 : xs i &&& 31 = 1
  · rw [if_pos y1]; exact lst_1 hi hL hT hS
  rw [if_neg y1]
  by_cases y2 : xs i &&& 31 = 2
  · rw [if_pos y2]; exact lst_2 hi hL hT hS
  rw [if_neg y2]
  by_cases y3 : xs i &&& 31 = 3
  · rw [if_pos y3]; exact lst_3 hi hL hT hS
  rw [if_neg y3]
  by_cases y4 : xs i &&& 31 = 4
  · rw [if_pos y4]; exact lst_4 hi hL hT hS
  rw [if_neg y4]
  by_cases y5 : xs i &&& 31 = 5
  · rw [if_pos y5]; exact lst_5 hi hL hT hS
  rw [if_neg y5]
  by_cases y6 : xs i &&& 31 = 6
  · rw [if_pos y6]; exact lst_6 hi hL hT hS
  rw [if_neg y6]
  by_cases y7 : xs i &&& 31 = 7
  · rw [if_pos y7]; exact lst_7 hi hL hT hS
  rw [if_neg y7]
  by_cases y8 : xs i &&& 31 = 8
  · rw [if_pos y8]; exact lst_8 hi hL hT hS
  rw [if_neg y8]
  by_cases y9 : xs i &&& 31 = 9
  · rw [if_pos y9]; exact lst_9 hi hL hT hS
  rw [if_neg y9]
  by_cases y10 : xs i &&& 31 = 10
  · rw [if_pos y10]; exact lst_10 hi hL hT hS
  rw [if_neg y10]
  by_cases y11 : xs i &&& 31 = 11
  · rw [if_pos y11]; exact lst_11 hi hL hT hS
  rw [if_neg y11]
  by_cases y12 : xs i &&& 31 = 12
  · rw [if_pos y12]; exact lst_12 hi hL hT hS
  rw [if_neg y12]
  by_cases y13 : xs i &&& 31 = 13
  · rw [if_pos y13]; exact lst_13 hi hL hT hS
  rw [if_neg y13]
  by_cases y14 : xs i &&& 31 = 14
  · rw [if_pos y14]; exact lst_14 hi hL hT hS
  rw [if_neg y14]
  by_cases y15 : xs i &&& 31 = 15
  · rw [if_pos y15]; exact lst_15 hi hL hT hS
  rw [if_neg y15]
  by_cases y16 : xs i &&& 31 = 16
  · rw [if_pos y16]; exact lst_16 hi hL hT hS
  rw [if_neg y16]
  by_cases y17 : xs i &&& 31 = 17
  · rw [if_pos y17]; exact lst_17 hi hL hT hS
  rw [if_neg y17]
  by_cases y18 : xs i &&& 31 = 18
  · rw [if_pos y18]; exact lst_18 hi hL hT hS
  rw [if_neg y18]
  by_cases y19 : xs i &&& 31 = 19
  · rw [if_pos y19]; exact lst_19 hi hL hT hS
  rw [if_neg y19]
  by_cases y20 : xs i &&& 31 = 20
  · rw [if_pos y20]; exact lst_20 hi hL hT hS
  rw [if_neg y20]
  by_cases y21 : xs i &&& 31 = 21
  · rw [if_pos y21]; exact lst_21 hi hL hT hS
  rw [if_neg y21]
  by_cases y22 : xs i &&& 31 = 22
  · rw [if_pos y22]; exact lst_22 hi hL hT hS
  rw [if_neg y22]
  by_cases y23 : xs i &&& 31 = 23
  · rw [if_pos y23]; exact lst_23 hi hL hT hS
  rw [if_neg y23]
  by_cases y24 : xs i &&& 31 = 24
  · rw [if_pos y24]; exact lst_24 hi hL hT hS
  rw [if_neg y24]
  exact ⟨M, by simp only [G_L_inc, Option.bind_some, lw_6], hS.up hT⟩
theorem lw_loop {xs : Nat → Int32} {L : Nat} (hL : L ≤ 3072) : ∀ k T M, Sim T M → L < 6 * T + 6 * k + 6 → T + k ≤ 999 → ∃ M', F_L_law xs L (k + 1) M (nI (6 * T)) = some (1, M') := by
  intro k
  induction k with
  | zero =>
    intro T M hS h1 h2
    refine ⟨M, ?_⟩
    show G_L_head xs L _ M _ = _
    unfold G_L_head
    rw [if_pos ((lw_cmp hL (by omega)).mpr (by omega))]
  | succ k ih =>
    intro T M hS h1 h2
    by_cases z : L < 6 * T + 6
    · refine ⟨M, ?_⟩
      show G_L_head xs L _ M _ = _
      unfold G_L_head
      rw [if_pos ((lw_cmp hL (by omega)).mpr (by omega))]
    · obtain ⟨M2, e1, e2⟩ := lw_step (xs := xs) (rec := F_L_law xs L (k + 1)) (i := 6 * T) (by omega) hL (show T < 1000 by omega) hS
      obtain ⟨M', e3⟩ := ih (T + 1) M2 e2 (by omega) (by omega)
      refine ⟨M', ?_⟩
      show G_L_head xs L (F_L_law xs L (k + 1)) M _ = _
      rw [e1, ← e3]
      rw [show 6 * T + 6 = 6 * (T + 1) by omega]
/-! THE START -/
def lw_ini : Option ax_M := (ax_nw ax_M0 0 (.inl 0) [some 9999]).bind (fun M1 => (ax_gf [some 9999, some 0] [0 + 1, 0 + 2, 0 + 3, 0 + 4, 0 + 5, 0 + 6, 0 + 7, 0 + 8, 0 + 9]).bind (fun _ => (f_V_init 0 M1 0).bind (fun M2 => (ax_nw M2 100 (.inl 3) [some 9999, some 0]).bind (fun M3 => (ax_gf [some 9999, some 0, some 100] [100 + 1, 100 + 2, 100 + 3, 100 + 4, 100 + 5, 100 + 6, 100 + 7, 100 + 8, 100 + 9, 100 + 10, 100 + 11, 100 + 12, 100 + 13, 100 + 14, 100 + 15, 100 + 16, 100 + 17, 100 + 18, 100 + 19, 100 + 20, 100 + 21, 100 + 22, 100 + 23, 100 + 24, 100 + 25, 100 + 26, 100 + 27, 100 + 28, 100 + 29, 100 + 30, 100 + 31, 100 + 32, 100 + 33, 100 + 34, 100 + 35, 100 + 36, 100 + 37, 100 + 38, 100 + 39, 100 + 40]).bind (fun _ => f_M_init 100 M3 100)))))
theorem lw_some : lw_ini.isSome = true := by decide +kernel
def lw_M : ax_M := lw_ini.getD ax_M0
theorem lw_eq : lw_ini = some lw_M := by
  unfold lw_M
  cases e : lw_ini with
  | none => have := lw_some; rw [e] at this; cases this
  | some x => rfl
theorem lw_v : px_v lw_M.2.2 := by
  refine ⟨?_, ?_, ?_, ?_, ?_, ?_, ?_, ?_, ?_, ?_, ?_, ?_, ?_, ?_, ?_, ?_, ?_, ?_, ?_⟩ <;> decide +kernel
theorem lw_m : px_m lw_M.2.2 := by
  refine ⟨?_, ?_, ?_, ?_, ?_, ?_, ?_, ?_, ?_, ?_, ?_, ?_, ?_, ?_, ?_, ?_, ?_, ?_, ?_, ?_, ?_, ?_, ?_, ?_, ?_, ?_, ?_, ?_, ?_, ?_, ?_, ?_, ?_, ?_, ?_, ?_, ?_, ?_, ?_, ?_, ?_, ?_, ?_, ?_, ?_, ?_, ?_, ?_, ?_, ?_, ?_, ?_, ?_, ?_, ?_, ?_, ?_, ?_, ?_, ?_, ?_, ?_, ?_, ?_, ?_, ?_, ?_, ?_, ?_, ?_, ?_, ?_, ?_, ?_, ?_, ?_, ?_, ?_, ?_, ?_, ?_⟩ <;> decide +kernel
theorem lw_5a : ∀ n, n < 6 → lw_M.2.2.1 5 n = none := by decide +kernel
theorem lw_6a : ∀ n, n < 6 → lw_M.2.2.1 6 n = none := by decide +kernel
theorem lw_7a : ∀ n, n < 6 → ∀ j, j < 6 → lw_M.2.2.2 (10 * n + 1000 + j) = none := by decide +kernel
theorem lw_8a : ∀ n, n < 6 → ∀ j, j < 6 → lw_M.2.2.2 (10 * n + 2000 + j) = none := by decide +kernel
theorem lw_c : ∀ a, a < 8 → ax_i lw_M 1 a = 0 ∧ ax_l lw_M 3 a = 0 ∧ ax_i lw_M 4 a = -1 := by decide +kernel
theorem lw_g : ax_i lw_M 0 0 = nI 0 ∧ ax_i lw_M 100 1 = nI 0 ∧ ax_l lw_M 0 1 = ax_l lw_M 100 2 ∧ ax_i lw_M 0 2 = nI 0 ∧ ax_i lw_M 100 3 = nI 0 ∧ ax_i lw_M 0 7 = nI 0 ∧ ax_i lw_M 100 8 = nI 0 ∧ ax_i lw_M 0 9 = nI 0 ∧ ax_i lw_M 100 25 = nI 0 ∧ ax_i lw_M 100 26 = nI 0 := by decide +kernel
theorem lw_start : Sim 0 lw_M := by
  refine ⟨0, 0, 0, 0, 0, ⟨⟨lw_v, lw_m, fun n hn => ?_, fun n hn => ?_, fun n hn => absurd hn (Nat.not_lt_zero _), fun n hn => absurd hn (Nat.not_lt_zero _), fun n j _ hn hj => lw_7a n hn j hj, fun n j _ hn hj => lw_8a n hn j hj⟩, by omega, by omega, by omega, by omega, by omega, by omega, lw_g⟩, fun a ha => ⟨fun z => absurd z (Nat.not_lt_zero _), fun _ => lw_c a ha⟩, fun n hn => absurd hn (Nat.not_lt_zero _), fun n hn => absurd hn (Nat.not_lt_zero _)⟩
  · rw [if_neg (Nat.not_lt_zero _)]; exact lw_5a n hn
  · rw [if_neg (Nat.not_lt_zero _)]; exact lw_6a n hn
theorem f_law_ok : ∀ (xs : Nat → Int32) (L : Nat), L ≤ 3072 → ∃ M, f_law xs L = some (1, M) := by
  intro xs L hL
  have e : f_law xs L = lw_ini.bind (fun M4 => F_L_law xs L 600 M4 0) := by
    simp only [f_law, lw_ini, Option.bind_assoc]
  obtain ⟨M', e2⟩ := lw_loop (xs := xs) hL 599 0 lw_M lw_start (by omega) (by omega)
  refine ⟨M', ?_⟩
  rw [e, lw_eq, Option.bind_some]
  exact e2
