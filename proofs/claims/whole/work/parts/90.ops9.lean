/-! CALLS THAT COUNT -/
theorem px_to (x : Int32) {k : Nat} (hk : k ≤ 8) : (x < 0 ∨ nI k - 1 < x) ∨ ∃ j, j < k ∧ x = nI j ∧ ¬ (nI j < 0 ∨ nI k - 1 < nI j) := by
  by_cases h : x < 0 ∨ nI k - 1 < x
  · exact Or.inl h
  · refine Or.inr ?_
    have h1 : ¬ x < 0 := fun z => h (Or.inl z)
    by_cases k0 : k = 0
    · subst k0
      exfalso
      obtain ⟨j, hj, rfl⟩ := nI_of h1
      refine h (Or.inr ?_)
      rw [Int32.lt_iff_toInt_lt, nI_toInt hj]
      have : (nI 0 - 1).toInt = -1 := by decide
      omega
    · rw [rk_m1 (show 0 < k by omega)] at h
      obtain ⟨j, hj, e⟩ := px_bd (n := k - 1) (nI_toInt (by omega)) h
      refine ⟨j, by omega, e, ?_⟩
      rw [rk_m1 (show 0 < k by omega), ← e]; exact h
def S_sc (id k : Nat) : Prop := S_cv id k ∨ S_cm id k
theorem sm_g.sc {T na nq nu h mt : Nat} {M M' : ax_M} (f : px_fr S_sc M M') (g : sm_g T na nq nu h mt M) : sm_g T na nq nu h mt M' := by
  obtain ⟨W, g2, g3, g4, g5, g6, g7, i1, i2, i3, i4, i5, i6, i7, i8, i9, i10⟩ := g
  have fi : ∀ id k, ¬ S_sc id k → ax_i M' id k = ax_i M id k := f.2.1
  have fl : ∀ id k, ¬ S_sc id k → ax_l M' id k = ax_l M id k := f.2.2
  refine ⟨f.W W, g2, g3, g4, g5, g6, g7, ?_, ?_, ?_, ?_, ?_, ?_, ?_, ?_, ?_, ?_⟩
  · rw [fi _ _ (by unfold S_sc S_cv S_cm; omega)]; exact i1
  · rw [fi _ _ (by unfold S_sc S_cv S_cm; omega)]; exact i2
  · rw [fl _ _ (by unfold S_sc S_cv S_cm; omega), fl _ _ (by unfold S_sc S_cv S_cm; omega)]; exact i3
  · rw [fi _ _ (by unfold S_sc S_cv S_cm; omega)]; exact i4
  · rw [fi _ _ (by unfold S_sc S_cv S_cm; omega)]; exact i5
  · rw [fi _ _ (by unfold S_sc S_cv S_cm; omega)]; exact i6
  · rw [fi _ _ (by unfold S_sc S_cv S_cm; omega)]; exact i7
  · rw [fi _ _ (by unfold S_sc S_cv S_cm; omega)]; exact i8
  · rw [fi _ _ (by unfold S_sc S_cv S_cm; omega)]; exact i9
  · rw [fi _ _ (by unfold S_sc S_cv S_cm; omega)]; exact i10
theorem Sim.sc {T : Nat} {M M' : ax_M} (f : px_fr S_sc M M') (g : Sim T M) : Sim T M' := by
  obtain ⟨na, nq, nu, h, mt, g1, g2, g3, g4⟩ := g
  have q3 := g1.2.2.1
  have q4 := g1.2.2.2.1
  exact ⟨na, nq, nu, h, mt, g1.sc f, fun a ha => (g2 a ha).fr f (fun id k z w => by unfold S_sc S_cv S_cm at w; omega), fun n hn => (g3 n hn).fr f (fun id k z w => by unfold S_sc S_cv S_cm at w; omega), fun n hn => (g4 n hn).fr f (fun id k z w => by unfold S_sc S_cv S_cm at w; omega)⟩
theorem px_fr.sc {M M1 M2 : ax_M} (f : px_fr S_cv M M1) (g : px_fr S_cm M1 M2) : px_fr S_sc M M2 := (f.mono fun id k z => Or.inl z).trans (g.mono fun id k z => Or.inr z)
/-- an account in a question, all in one -/
def cq_1 (M : ax_M) (n na kd ch a : Nat) (y : Nat × Nat × Nat × Bool × List Nat) : Prop :=
  (y.1 ≤ 1000 ∧ y.2.1 < 2 ^ 31 ∧ (y.2.2.2.1 = true → a < na) ∧ (a < na → y.2.2.1 < na) ∧ (na ≤ a → y.2.2.1 = a) ∧ (kd = 2 → y.2.2.2.1 = true → y.2.2.2.2.length ≤ ch ∧ (∀ d ∈ y.2.2.2.2, 1 ≤ d ∧ d ≤ ch) ∧ 1 ≤ y.2.2.2.2.length ∧ y.2.1 = sm_dg y.2.2.2.2)) ∧
  (ax_i M (10 * n + 1001) a = nI y.1 ∧ ax_i M (10 * n + 1002) a = (if y.2.2.2.1 = true then nI y.2.1 else -1) ∧ (if ax_i M 0 0 < ax_i M (10 * n + 1000) 3 then ax_i M 4 a else ax_i M (10 * n + 1005) a) = sm_sp a y.2.2.1) ∧
  (ax_i M 115 (8 * n + a) = nI y.1 ∧ ax_i M 116 (8 * n + a) = (if y.2.2.2.1 = true then 1 else 0) ∧ (y.2.2.2.1 = true → ax_i M 117 (8 * n + a) = nI y.2.1) ∧ (a < na → (if ax_i M 100 1 < ax_i M 108 n then ax_i M 104 a else ax_i M 120 (8 * n + a)) = nI y.2.2.1))
theorem cq_of {T na nq nu h mt n : Nat} {M : ax_M} (hg : sm_g T na nq nu h mt M) (hc : ∀ a, a < 8 → sm_c na M a) (hq : sm_q na M n) : ∃ (kd ch en : Nat) (w m sp : Nat → Nat) (has : Nat → Bool) (lk : Nat → List Nat), cq_p na kd ch w m sp has lk ∧ cq_V M n kd ch w m sp has ∧ cq_M M n na kd ch w m sp has ∧ ax_i M (10 * n + 1000) 3 = nI en ∧ ax_i M 108 n = nI en ∧ en ≤ 60000 ∧ ax_i M (10 * n + 1000) 4 = ax_i M 109 n ∧ sm_qc na en M n := by
  obtain ⟨W, g2, g3, g4, g5, g6, g7, i1, i2, i3, i4, i5, i6, i7, i8, i9, i10⟩ := id hg
  obtain ⟨kd, ch, sh, en, a1, a2, a3, a4, a5, b1, b2, b3, b4, b5, b6, b7, b8, b9, hcq, hd⟩ := hq
  have h1 : ∀ a, ∃ y, a < 8 → cq_1 M n na kd ch a y := by
    intro a
    by_cases ha : a < 8
    rotate_left
    · exact ⟨(0, 0, 0, false, []), fun z => absurd z ha⟩
    obtain ⟨w, p, d1, d2, d3, d4, d5, d6, d7, d8, d9, d10⟩ := hd a ha
    obtain ⟨hs, mm, l, h1, h2, h3, h4, h5, h6, h7⟩ : ∃ (hs : Bool) (mm : Nat) (l : List Nat), mm < 2 ^ 31 ∧ (hs = true → a < na) ∧ (kd = 2 → hs = true → l.length ≤ ch ∧ (∀ d ∈ l, 1 ≤ d ∧ d ≤ ch) ∧ 1 ≤ l.length ∧ mm = sm_dg l) ∧ ax_i M (10 * n + 1002) a = (if hs = true then nI mm else -1) ∧ ax_i M 116 (8 * n + a) = (if hs = true then 1 else 0) ∧ (hs = true → ax_i M 117 (8 * n + a) = nI mm) ∧ True := by
      rcases d4 with ⟨e1, e2⟩ | ⟨e1, e2, e3, e4, e5⟩
      · exact ⟨false, 0, [], by decide, fun z => (by cases z), fun _ z => (by cases z), by rw [e2]; rfl, by rw [e1]; rfl, fun z => (by cases z), trivial⟩
      · by_cases k2 : kd = 2
        · obtain ⟨l, l1, l2, l3, l4⟩ := e5 k2
          have hb := sm_dg_b a3 l2 l3
          exact ⟨true, sm_dg l, l, by omega, fun _ => e2, fun _ _ => ⟨l2, l3, l1, rfl⟩, by rw [e3, l4]; rfl, by rw [e1]; rfl, fun _ => l4, trivial⟩
        · obtain ⟨j, j1, j2⟩ := nI_of e4
          exact ⟨true, j, [], j1, fun _ => e2, fun z => absurd z k2, by rw [e3, j2]; rfl, by rw [e1]; rfl, fun _ => j2, trivial⟩
    obtain ⟨s, s1, s2, s3, s4⟩ : ∃ s, (a < na → s < na) ∧ (na ≤ a → s = a) ∧ (if ax_i M 0 0 < ax_i M (10 * n + 1000) 3 then ax_i M 4 a else ax_i M (10 * n + 1005) a) = sm_sp a s ∧ (a < na → (if ax_i M 100 1 < ax_i M 108 n then ax_i M 104 a else ax_i M 120 (8 * n + a)) = nI s) := by
      rw [i1, i2, b7, b8]
      by_cases hl : nI h < nI en
      · rw [if_pos hl, if_pos hl]
        by_cases z : a < na
        · obtain ⟨_, _, _, p', c1, c2, c3⟩ := (hc a ha).1 z
          exact ⟨p', fun _ => c1, fun q => absurd z (by omega), c3, fun _ => c2⟩
        · exact ⟨a, fun q => absurd q z, fun _ => rfl, by rw [((hc a ha).2 (by omega)).2.2, sm_sp, if_pos rfl], fun q => absurd q z⟩
      · rw [if_neg hl, if_neg hl]
        exact ⟨p, fun z => by omega, fun z => by omega, d10, fun _ => d9⟩
    exact ⟨(w, mm, s, hs, l), fun _ => ⟨⟨d1, h1, h2, s1, s2, h3⟩, ⟨d2, h4, s3⟩, d3, h5, h6, s4⟩⟩
  obtain ⟨F, hF⟩ := Classical.axiomOfChoice h1
  refine ⟨kd, ch, en, fun a => (F a).1, fun a => (F a).2.1, fun a => (F a).2.2.1, fun a => (F a).2.2.2.1, fun a => (F a).2.2.2.2, ⟨g2, a1, a2, a3, fun a ha => (hF a ha).1⟩, ⟨b1, b3, fun a ha => (hF a ha).2.1⟩, ⟨i5, b2, b4, fun a ha => (hF a ha).2.2⟩, b7, b8, a5, b9, hcq⟩
theorem cq_M.ov {M M' : ax_M} {n na kd ch : Nat} {w m sp : Nat → Nat} {has : Nat → Bool} (g : cq_M M n na kd ch w m sp has) (f : ∀ id k, 100 ≤ id ∧ id < 1000 → ax_i M' id k = ax_i M id k) : cq_M M' n na kd ch w m sp has := by
  obtain ⟨g1, g2, g3, g4⟩ := g
  refine ⟨by rw [f _ _ (by omega)]; exact g1, by rw [f _ _ (by omega)]; exact g2, by rw [f _ _ (by omega)]; exact g3, fun a ha => ?_⟩
  rw [f 115 _ (by omega), f 116 _ (by omega), f 117 _ (by omega), f 100 1 (by omega), f 108 n (by omega), f 104 a (by omega), f 120 _ (by omega)]
  exact g4 a ha
theorem px_fr.ovm {M M1 : ax_M} (f : px_fr S_cv M M1) : ∀ id k, 100 ≤ id ∧ id < 1000 → ax_i M1 id k = ax_i M id k := fun id k z => f.2.1 id k (by unfold S_cv; omega)
set_option maxHeartbeats 4000000 in
theorem op_count {T : Nat} {M : ax_M} (hT : T < 1000) (hS : Sim T M) (x y : Int32) : ag (f_V_count M (some 0) x y) (fun M1 => f_M_count M1 (some 100) x y) (Sim (T + 1)) := by
  obtain ⟨na, nq, nu, hh, mt, hg, hc, hq, ha⟩ := id hS
  obtain ⟨h, g2, g3, g4, g5, g6, g7, i1, i2, i3, i4, i5, i6, i7, i8, i9, i10⟩ := id hg
  rcases px_ix x (n := nq) (by omega) with hx | ⟨n, hn, rfl, hx⟩
  · refine ⟨-1, M, M, ?_, ?_, hS.up hT⟩
    · simp [f_V_count, G_V_count_24, e_V_ob nq nu, h, V_isNoAccount nq nu na, M_isAccount nq nu na, M_isQuestion nq nu, M_isAuction nq nu, V_isOutside, M_isIn, i1, i2, i4, i5, i6, i7, i8, i9, i10, g2, g3, g4, V_questionAt_no nq nu h g3 hx]
    · simp [f_M_count, G_M_count_24, e_M_ob nq nu, h, V_isNoAccount nq nu na, M_isAccount nq nu na, M_isQuestion nq nu, M_isAuction nq nu, V_isOutside, M_isIn, i1, i2, i4, i5, i6, i7, i8, i9, i10, g2, g3, g4, hx]
  have hn6 : n < 6 := by omega
  obtain ⟨kd, ch, en, w, m, sp, has, lk, c, gV, gM, _⟩ := cq_of hg hc (hq n hn)
  have h4 := c.2.2.2.1
  have nx : (nI n < 0 ∨ nI nq ≤ nI n) = False := eq_false hx
  rcases px_to y (k := ch) (by omega) with hy | ⟨j, hj, rfl, hy⟩
  · refine ⟨-1, M, M, ?_, ?_, hS.up hT⟩
    · simp only [f_V_count, G_V_count_24, e_V_ob nq nu h, V_questionAt nq nu h g3 hn, Option.bind_some, reduceCtorEq, if_false, e_Q_gi nq nu h hn, gV.2.1, V_isOutY M hy, i32_10]
    · simp only [f_M_count, G_M_count_24, e_M_ob nq nu h, M_isQuestion nq nu h i7, Option.bind_some, nx, if_false, i32_10, e_M_r10 nq nu h, e_M_rd106 nq nu h hn6, gM.2.2.1, M_isInN M hy, if_true]
  · obtain ⟨M1, q1, q2, _, q4, _⟩ := V_countVotes h hn c gV
    have W1 := q2.W h
    have j1 : ax_i M1 100 8 = nI nq := by rw [q2.ovm 100 8 (by omega)]; exact i7
    obtain ⟨M2, t, r1, r2, r3, _⟩ := M_findCounts W1 hn6 c (gM.ov q2.ovm)
    have W2 := r2.W W1
    refine ⟨nI (fc kd ch w m sp has lk j), M1, M2, ?_, ?_, (hS.up hT).sc (q2.sc r2)⟩
    · simp only [f_V_count, e_V_ob nq nu h, V_questionAt nq nu h g3 hn, Option.bind_some, reduceCtorEq, if_false, e_Q_gi nq nu h hn, gV.2.1, V_isOutN M hy, if_true, q1, e_V_r12 nq nu W1, e_V_rd8 nq nu W1 (show j < 4 by omega), q4 j hj, fc]
    · simp only [f_M_count, e_M_ob nq nu W1, M_isQuestion nq nu W1 j1, Option.bind_some, nx, if_false, i32_10, e_M_r10 nq nu W1, e_M_rd106 nq nu W1 hn6, (gM.ov q2.ovm).2.2.1, M_isInY M1 hy, r1, e_M_r44 nq nu W2, e_M_rd138 nq nu W2 (show j < 4 by omega), r3 j hj]
set_option maxHeartbeats 4000000 in
theorem op_fallen {T : Nat} {M : ax_M} (hT : T < 1000) (hS : Sim T M) (x y : Int32) : ag (f_V_fallen M (some 0) x y) (fun M1 => f_M_fallen M1 (some 100) x y) (Sim (T + 1)) := by
  obtain ⟨na, nq, nu, hh, mt, hg, hc, hq, ha⟩ := id hS
  obtain ⟨h, g2, g3, g4, g5, g6, g7, i1, i2, i3, i4, i5, i6, i7, i8, i9, i10⟩ := id hg
  rcases px_ix x (n := nq) (by omega) with hx | ⟨n, hn, rfl, hx⟩
  · refine ⟨-1, M, M, ?_, ?_, hS.up hT⟩
    · simp [f_V_fallen, e_V_ob nq nu, h, V_isNoAccount nq nu na, M_isAccount nq nu na, M_isQuestion nq nu, M_isAuction nq nu, V_isOutside, M_isIn, i1, i2, i4, i5, i6, i7, i8, i9, i10, g2, g3, g4, V_questionAt_no nq nu h g3 hx]
    · simp [f_M_fallen, e_M_ob nq nu, h, V_isNoAccount nq nu na, M_isAccount nq nu na, M_isQuestion nq nu, M_isAuction nq nu, V_isOutside, M_isIn, i1, i2, i4, i5, i6, i7, i8, i9, i10, g2, g3, g4, hx]
  have hn6 : n < 6 := by omega
  obtain ⟨kd, ch, en, w, m, sp, has, lk, c, gV, gM, _⟩ := cq_of hg hc (hq n hn)
  have h4 := c.2.2.2.1
  have nx : (nI n < 0 ∨ nI nq ≤ nI n) = False := eq_false hx
  have kd2 := (iv_kd kd c.2.1).2.2
  by_cases k2 : kd = 2
  rotate_left
  · have e0 : (nI kd = 2) = False := eq_false (fun z => k2 (kd2.mp z))
    refine ⟨-3, M, M, ?_, ?_, hS.up hT⟩
    · simp only [f_V_fallen, e_V_ob nq nu h, V_questionAt nq nu h g3 hn, Option.bind_some, reduceCtorEq, if_false, e_Q_gi nq nu h hn, gV.1, e0]
    · simp only [f_M_fallen, e_M_ob nq nu h, M_isQuestion nq nu h i7, Option.bind_some, nx, if_false, i32_10, e_M_r9 nq nu h, e_M_rd105 nq nu h hn6, gM.2.1, e0]
  have e0 : (nI kd = 2) = True := eq_true (kd2.mpr k2)
  obtain ⟨M1, q1, q2, _, _, q5, q6⟩ := V_countVotes h hn c gV
  have W1 := q2.W h
  have j1 : ax_i M1 100 8 = nI nq := by rw [q2.ovm 100 8 (by omega)]; exact i7
  obtain ⟨M2, t, r1, r2, _, _, _, _, r7⟩ := M_findCounts W1 hn6 c (gM.ov q2.ovm)
  have W2 := r2.W W1
  obtain ⟨r8, r9⟩ := r7 k2
  have q5' : ax_i M1 0 14 = nI (fe kd ch w m sp has lk).length := q5
  have q6' : ∀ j, j < (fe kd ch w m sp has lk).length → ax_i M1 9 j = nI ((fe kd ch w m sp has lk).getD j 0) := q6
  have hlen : (fe kd ch w m sp has lk).length ≤ 3 := Nat.le_trans (ro_len _ _ _) (by unfold rk; split <;> omega)
  rcases px_to y (k := (fe kd ch w m sp has lk).length) (by omega) with hy | ⟨j, hj, rfl, hy⟩
  · refine ⟨-1, M1, M2, ?_, ?_, (hS.up hT).sc (q2.sc r2)⟩
    · simp only [f_V_fallen, G_V_fallen_52, e_V_ob nq nu h, V_questionAt nq nu h g3 hn, Option.bind_some, reduceCtorEq, if_false, e_Q_gi nq nu h hn, gV.1, e0, if_true, q1, e_V_gi nq nu W1, q5', V_isOutY M1 hy, i32_10]
    · simp only [f_M_fallen, G_M_fallen_52, e_M_ob nq nu W1, M_isQuestion nq nu W1 j1, Option.bind_some, nx, if_false, i32_10, e_M_r9 nq nu W1, e_M_rd105 nq nu W1 hn6, (gM.ov q2.ovm).2.1, e0, if_true, r1, e_M_gi nq nu W2, r8, M_isInN M2 hy]
  · refine ⟨nI ((fe kd ch w m sp has lk).getD j 0), M1, M2, ?_, ?_, (hS.up hT).sc (q2.sc r2)⟩
    · simp only [f_V_fallen, G_V_fallen_52, e_V_ob nq nu h, V_questionAt nq nu h g3 hn, Option.bind_some, reduceCtorEq, if_false, e_Q_gi nq nu h hn, gV.1, e0, if_true, q1, e_V_gi nq nu W1, q5', V_isOutN M1 hy, e_V_r13 nq nu W1, e_V_rd9 nq nu W1 (show j < 4 by omega), q6' j hj]
    · simp only [f_M_fallen, G_M_fallen_52, e_M_ob nq nu W1, M_isQuestion nq nu W1 j1, Option.bind_some, nx, if_false, i32_10, e_M_r9 nq nu W1, e_M_rd105 nq nu W1 hn6, (gM.ov q2.ovm).2.1, e0, if_true, r1, e_M_gi nq nu W2, r8, M_isInY M2 hy, e_M_r46 nq nu W2, e_M_rd140 nq nu W2 (show j < 4 by omega), r9 j hj]
set_option maxHeartbeats 4000000 in
theorem op_winner {T : Nat} {M : ax_M} (hT : T < 1000) (hS : Sim T M) (x : Int32) : ag (f_V_winner M (some 0) x) (fun M1 => f_M_winner M1 (some 100) x) (Sim (T + 1)) := by
  obtain ⟨na, nq, nu, hh, mt, hg, hc, hq, ha⟩ := id hS
  obtain ⟨h, g2, g3, g4, g5, g6, g7, i1, i2, i3, i4, i5, i6, i7, i8, i9, i10⟩ := id hg
  rcases px_ix x (n := nq) (by omega) with hx | ⟨n, hn, rfl, hx⟩
  · refine ⟨-1, M, M, ?_, ?_, hS.up hT⟩
    · simp [f_V_winner, e_V_ob nq nu, h, V_isNoAccount nq nu na, M_isAccount nq nu na, M_isQuestion nq nu, M_isAuction nq nu, V_isOutside, M_isIn, i1, i2, i4, i5, i6, i7, i8, i9, i10, g2, g3, g4, V_questionAt_no nq nu h g3 hx]
    · simp [f_M_winner, G_M_winner_17, e_M_ob nq nu, h, V_isNoAccount nq nu na, M_isAccount nq nu na, M_isQuestion nq nu, M_isAuction nq nu, V_isOutside, M_isIn, i1, i2, i4, i5, i6, i7, i8, i9, i10, g2, g3, g4, hx]
  have hn6 : n < 6 := by omega
  obtain ⟨kd, ch, en, w, m, sp, has, lk, c, gV, gM, _⟩ := cq_of hg hc (hq n hn)
  have h4 := c.2.2.2.1
  have nx : (nI n < 0 ∨ nI nq ≤ nI n) = False := eq_false hx
  obtain ⟨M1, q1, q2, _, q4, _⟩ := V_countVotes h hn c gV
  have W1 := q2.W h
  have j1 : ax_i M1 100 8 = nI nq := by rw [q2.ovm 100 8 (by omega)]; exact i7
  obtain ⟨M2, r1, r2, _⟩ := M_first W1 hn6 c (gM.ov q2.ovm)
  have eM := V_most W1 hn (gV.fr q2).2.1 h4 (f := fc kd ch w m sp has lk) (fun d hd => ⟨cn_le c _ d, q4 d hd⟩)
  have hvi := (vi_neg (o := mo_f (fc kd ch w m sp has lk) ch) (fun b hb => by have := mo_lt ch b hb; omega)).1
  refine ⟨wn (mo_f (fc kd ch w m sp has lk) ch), M1, M2, ?_, ?_, (hS.up hT).sc (q2.sc r2)⟩
  · cases hm : mo_f (fc kd ch w m sp has lk) ch with
    | none =>
      rw [hm] at eM hvi
      have e1 : (vi none = -1) = True := eq_true rfl
      simp only [f_V_winner, G_V_winner_34, e_V_ob nq nu h, V_questionAt nq nu h g3 hn, Option.bind_some, reduceCtorEq, if_false, q1, e_V_ob nq nu W1, eM, e1, if_true, wn]
    | some b =>
      rw [hm] at eM hvi
      have e1 : (nI b = -1) = False := eq_false (fun z => by have := hvi.mp z; cases this)
      simp only [f_V_winner, G_V_winner_34, e_V_ob nq nu h, V_questionAt nq nu h g3 hn, Option.bind_some, reduceCtorEq, if_false, q1, e_V_ob nq nu W1, eM, e1, wn, vi]
  · simp only [f_M_winner, G_M_winner_17, e_M_ob nq nu W1, M_isQuestion nq nu W1 j1, Option.bind_some, nx, if_false, i32_10, r1]
theorem ps_01 (mo : Option Nat) (x y : Int32) : ps mo x y = 0 ∨ ps mo x y = 1 := by
  unfold ps
  split
  · split
    · exact Or.inl rfl
    · exact Or.inr rfl
  · exact Or.inl rfl
set_option maxHeartbeats 4000000 in
theorem op_passed {T : Nat} {M : ax_M} (hT : T < 1000) (hS : Sim T M) (x : Int32) : ag (f_V_passed M (some 0) x) (fun M1 => f_M_passed M1 (some 100) x) (Sim (T + 1)) := by
  obtain ⟨na, nq, nu, hh, mt, hg, hc, hq, ha⟩ := id hS
  obtain ⟨h, g2, g3, g4, g5, g6, g7, i1, i2, i3, i4, i5, i6, i7, i8, i9, i10⟩ := id hg
  rcases px_ix x (n := nq) (by omega) with hx | ⟨n, hn, rfl, hx⟩
  · refine ⟨-1, M, M, ?_, ?_, hS.up hT⟩
    · simp [f_V_passed, e_V_ob nq nu, h, V_isNoAccount nq nu na, M_isAccount nq nu na, M_isQuestion nq nu, M_isAuction nq nu, V_isOutside, M_isIn, i1, i2, i4, i5, i6, i7, i8, i9, i10, g2, g3, g4, V_questionAt_no nq nu h g3 hx]
    · simp [f_M_passed, e_M_ob nq nu, h, V_isNoAccount nq nu na, M_isAccount nq nu na, M_isQuestion nq nu, M_isAuction nq nu, V_isOutside, M_isIn, i1, i2, i4, i5, i6, i7, i8, i9, i10, g2, g3, g4, hx]
  have hn6 : n < 6 := by omega
  obtain ⟨kd, ch, en, w, m, sp, has, lk, c, gV, gM, b7, b8, b5, b9, _⟩ := cq_of hg hc (hq n hn)
  have nx : (nI n < 0 ∨ nI nq ≤ nI n) = False := eq_false hx
  by_cases hl : nI hh < nI en
  · have hl' : (nI en ≤ nI hh) = False := eq_false (Int32.not_le.mpr hl)
    refine ⟨-3, M, M, ?_, ?_, hS.up hT⟩
    · simp only [f_V_passed, e_V_ob nq nu h, V_questionAt nq nu h g3 hn, Option.bind_some, reduceCtorEq, if_false, e_V_gi nq nu h, e_Q_gi nq nu h hn, i1, b7, hl']
    · simp only [f_M_passed, G_M_passed_41, e_M_ob nq nu h, M_isQuestion nq nu h i7, Option.bind_some, nx, if_false, i32_10, e_M_gi nq nu h, i2, e_M_r12 nq nu h, e_M_rd108 nq nu h hn6, b8, hl']
  have hl' : (nI en ≤ nI hh) = True := eq_true (Int32.not_lt.mp hl)
  obtain ⟨M1, q1, q2⟩ := V_isPassed h hn c gV
  have W1 := q2.W h
  have j1 : ax_i M1 100 8 = nI nq := by rw [q2.ovm 100 8 (by omega)]; exact i7
  have j2 : ax_i M1 100 1 = nI hh := by rw [q2.ovm 100 1 (by omega)]; exact i2
  have j3 : ax_i M1 108 n = nI en := by rw [q2.ovm 108 n (by omega)]; exact b8
  obtain ⟨M2, r1, r2⟩ := M_isPassed W1 hn6 c (gM.ov q2.ovm)
  rw [i1, b7, if_neg hl, b9] at q1
  rw [j2, j3, if_neg hl, q2.ovm 109 n (by omega)] at r1
  obtain ⟨P, hP⟩ : ∃ P, P = ps (mo_f (fc kd ch w m sp has lk) ch) (100 * nI (ct (gv (vc kd has sp) w) 8)) (ax_i M 109 n * nI (ct w 8)) := ⟨_, rfl⟩
  have hP01 : P = 0 ∨ P = 1 := by rw [hP]; exact ps_01 _ _ _
  rw [← hP] at q1 r1
  refine ⟨P, M1, M2, ?_, ?_, (hS.up hT).sc (q2.sc r2)⟩
  · rcases hP01 with e | e
    · rw [e] at q1 ⊢
      simp only [f_V_passed, G_V_passed_39, e_V_ob nq nu h, V_questionAt nq nu h g3 hn, Option.bind_some, reduceCtorEq, if_false, e_V_gi nq nu h, e_Q_gi nq nu h hn, i1, b7, hl', if_true, q1]
    · rw [e] at q1 ⊢
      simp only [f_V_passed, G_V_passed_39, e_V_ob nq nu h, V_questionAt nq nu h g3 hn, Option.bind_some, reduceCtorEq, if_false, e_V_gi nq nu h, e_Q_gi nq nu h hn, i1, b7, hl', if_true, q1, i32_10]
  · rcases hP01 with e | e
    · rw [e] at r1 ⊢
      simp only [f_M_passed, G_M_passed_41, e_M_ob nq nu W1, M_isQuestion nq nu W1 j1, Option.bind_some, nx, if_false, i32_10, e_M_gi nq nu W1, j2, e_M_r12 nq nu W1, e_M_rd108 nq nu W1 hn6, j3, hl', if_true, r1]
    · rw [e] at r1 ⊢
      simp only [f_M_passed, G_M_passed_41, e_M_ob nq nu W1, M_isQuestion nq nu W1 j1, Option.bind_some, nx, if_false, i32_10, e_M_gi nq nu W1, j2, e_M_r12 nq nu W1, e_M_rd108 nq nu W1 hn6, j3, hl', if_true, r1]
