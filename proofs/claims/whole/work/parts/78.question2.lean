/-! QUESTION -/
theorem i32_10 : ((1 : Int32) = 0) = False := eq_false (by decide)
section
variable {n nu na h : Nat} {p0 p1 p2 p3 p4 : Int32}
theorem V_question_e {M : ax_M} (hW : px_W n nu M.2.2) (hn : n < 6) (hh : ax_i M 0 0 = nI h) (hq : ax_i M 0 7 = nI n) (z0 : ¬ (p0 < 0 ∨ 3 < p0)) (z1 : ¬ (p1 < 2 ∨ 4 < p1)) (z2 : ¬ (p2 < 1 ∨ 50 < p2)) (z3 : ¬ (p3 < 0 ∨ 20 < p3)) (z4 : ¬ (p4 < 0 ∨ 100 < p4)) : ∃ M', f_V_question (10 * n + 1000) M (some 0) p0 p1 p2 p3 p4 = some (nI n, M') ∧ px_W (n + 1) nu M'.2.2 ∧ (∀ id k, ¬ (10 * n + 1000 ≤ id ∧ id ≤ 10 * n + 1005) → ax_l M' id k = ax_l M id k ∧ (¬ (id = 0 ∧ k = 7) → ax_i M' id k = ax_i M id k)) ∧ ax_i M' 0 7 = nI (n + 1) ∧ (ax_i M' (10 * n + 1000) 0 = p0 ∧ ax_i M' (10 * n + 1000) 1 = p1 ∧ ax_i M' (10 * n + 1000) 2 = nI h + p2 ∧ ax_i M' (10 * n + 1000) 3 = nI h + p2 + p3 ∧ ax_i M' (10 * n + 1000) 4 = p4 ∧ ax_i M' (10 * n + 1000) 10 = -1 ∧ ax_i M' (10 * n + 1000) 13 = 0) ∧ ∀ a, a < 8 → ax_i M' (10 * n + 1001) a = ax_i M 1 a ∧ ax_i M' (10 * n + 1002) a = -1 ∧ ax_i M' (10 * n + 1003) a = 0 ∧ ax_i M' (10 * n + 1005) a = -1 := by
  obtain ⟨g, hg⟩ : ∃ g, g = 10 * n + 1000 := ⟨_, rfl⟩
  have fr : ∀ j, j ≤ 5 → ax_s M (g + j) = none := fun j hj => by rw [hg]; exact hW.2.2.2.2.2.2.1 n j (Nat.le_refl _) hn (by omega)
  obtain ⟨M8, hM8⟩ : ∃ M8, M8 = ax_wn M g (.inl 1) := ⟨_, rfl⟩
  have a1 : ax_nw M g (.inl 1) [some 0] = some M8 := by
    rw [hM8]
    exact k_nw (fr 0 (by omega)) (by intro o ho; simp at ho; subst ho; intro z; have := Option.some.inj z; omega)
  have o8 : ∀ id, id ≠ g → (∀ k, ax_i M8 id k = ax_i M id k) ∧ (∀ k, ax_l M8 id k = ax_l M id k) ∧ (∀ k, ax_r M8 id k = ax_r M id k) ∧ ax_s M8 id = ax_s M id := fun id z => by
    subst hM8
    exact ⟨fun k => by rw [px_i_wn, if_neg z], fun k => by rw [px_l_wn, if_neg z], fun k => by rw [px_r_wn, if_neg z], by rw [px_s_wn, if_neg z]⟩
  have s8 : ax_s M8 g = some (.inl 1) := by rw [hM8, px_s_wn, if_pos rfl]
  have i8 : ax_i M8 g 13 = 0 := by rw [hM8, px_i_wn, if_pos rfl]
  have a2 : ax_gi M8 0 0 (some 0) = some (nI h) := by rw [k_gi ((o8 0 (by omega)).2.2.2.trans (e_V_s n nu hW)), (o8 0 (by omega)).1, hh]
  have a3 : ax_gf [some 0, (some g)] [g + 1, g + 2, g + 3, g + 4, g + 5] = some () := k_gf (by
    intro o ho i hi; simp at ho hi; intro z
    rcases ho with ho | ho
    · rw [ho] at z; have := Option.some.inj z; omega
    · rw [ho] at z; have := Option.some.inj z; omega)
  obtain ⟨Q, a4, qo, qs, qi, qa⟩ := Q_init_e (p0 := p0) (p1 := p1) (p2 := nI h + p2) (p3 := nI h + p2 + p3) (p4 := p4) s8 (fun j h1 h5 => by rw [(o8 (g + j) (by omega)).2.2.2]; exact fr j h5) i8
  have out : ∀ id, ¬ (g ≤ id ∧ id ≤ g + 5) → (∀ k, ax_i Q id k = ax_i M id k) ∧ (∀ k, ax_l Q id k = ax_l M id k) ∧ (∀ k, ax_r Q id k = ax_r M id k) ∧ ax_s Q id = ax_s M id := fun id z => by
    obtain ⟨b1, b2, b3, b4⟩ := qo id z
    obtain ⟨c1, c2, c3, c4⟩ := o8 id (by omega)
    exact ⟨fun k => (b1 k).trans (c1 k), fun k => (b2 k).trans (c2 k), fun k => (b3 k).trans (c3 k), b4.trans c4⟩
  obtain ⟨t0, t1, t2, t3, t4, t5, r5, r6, r7, r8, r9⟩ := id qs
  have sQ : ∀ id, id < 1000 → ax_s Q id = ax_s M id := fun id z => (out id (by omega)).2.2.2
  have rQ : ∀ id k, id < 1000 → ax_r Q id k = ax_r M id k := fun id k z => (out id (by omega)).2.2.1 k
  have sQ0 : ax_s Q 0 = some (.inl 0) := (sQ 0 (by omega)).trans (e_V_s n nu hW)
  have a5 : ax_gr Q 0 3 (some 0) = some (some 1) := by rw [k_gr sQ0, rQ 0 3 (by omega)]; exact congrArg some hW.1.2.2.2.2.2.2.2.2.2.2.1
  have a6 : ax_gr Q 1 5 (some g) = some (some (g + 1)) := by rw [k_gr t0, r5]
  have a7 : ax_cp Q 0 (some 1) 0 (some (g + 1)) 0 8 = some (ax_wc Q 1 (g + 1) 0 0 8) := k_cp ((sQ 1 (by omega)).trans (e_V_s1 n nu hW)) t1
  obtain ⟨C, hC⟩ : ∃ C, C = ax_wc Q 1 (g + 1) 0 0 8 := ⟨_, rfl⟩
  rw [← hC] at a7
  have sC : ∀ id, ax_s C id = ax_s Q id := fun id => by rw [hC, px_s_wc]
  have rC : ∀ id k, ax_r C id k = ax_r Q id k := fun id k => by rw [hC, px_r_wc]
  have a8 : ax_gr C 0 8 (some 0) = some (some 5) := by rw [k_gr ((sC 0).trans sQ0), rC, rQ 0 8 (by omega)]; exact congrArg some hW.1.2.2.2.2.2.2.2.2.2.2.2.2.2.2.1
  have a9 : ax_tr C 3 1 (some 5) (nI n) (some g) = some (ax_wr C 5 n (some g)) := k_tr ((sC 5).trans ((sQ 5 (by omega)).trans (e_V_s5 n nu hW))) hn (by decide) ((sC g).trans t0)
  obtain ⟨D, hD⟩ : ∃ D, D = ax_wr C 5 n (some g) := ⟨_, rfl⟩
  rw [← hD] at a9
  have sD : ∀ id, ax_s D id = ax_s Q id := fun id => by rw [hD, px_s_wr, sC]
  have iD : ∀ id k, ax_i D id k = if id = g + 1 then va_cpy (ax_i Q 1) (ax_i Q (g + 1)) 0 0 8 k else ax_i Q id k := fun id k => by rw [hD, px_i_wr, hC, px_i_wc]
  have i07 : ax_i D 0 7 = nI n := by rw [iD, if_neg (by omega), (out 0 (by omega)).1, hq]
  have a10 : ax_gi D 0 7 (some 0) = some (nI n) := by rw [k_gi ((sD 0).trans sQ0), i07]
  have a11 : ax_pi D 0 7 (some 0) (nI (n + 1)) = some (ax_wi D 0 7 (nI (n + 1))) := k_pi ((sD 0).trans sQ0)
  have n6 : nI n < 6 := nI_lt (b := 6) hn (by decide)
  rw [← hg]
  have e1001 : 10 * n + 1001 = g + 1 := by omega
  have e1002 : 10 * n + 1002 = g + 2 := by omega
  have e1003 : 10 * n + 1003 = g + 3 := by omega
  have e1004 : 10 * n + 1004 = g + 4 := by omega
  have e1005 : 10 * n + 1005 = g + 5 := by omega
  rw [e1001, e1002, e1003, e1005]
  refine ⟨ax_wi D 0 7 (nI (n + 1)), ?_, ?_, fun id k z => ⟨?_, fun w => ?_⟩, ?_, ?_, fun a ha => ?_⟩
  · simp only [f_V_question, V_isOutN M z0, V_isOutN M z1, V_isOutN M z2, V_isOutN M z3, V_isOutN M z4, Option.bind_some, if_true, e_V_gi n nu hW, hq, if_pos n6, a1, a2, a3, a4, a5, a6, a7, a8, a9, a10, nI_1, a11]
  · refine px_W.q hW hn (fun id z => ?_) (fun id k z w => ?_) ?_ ?_
    · show ax_s (ax_wi D 0 7 (nI (n + 1))) id = ax_s M id
      rw [px_s_wi, sD, (out id (by omega)).2.2.2]
    · show ax_r (ax_wi D 0 7 (nI (n + 1))) id k = ax_r M id k
      rw [px_r_wi, hD, px_r_wr, if_neg w, rC, (out id (by omega)).2.2.1]
    · have rD : ∀ k, ax_r D g k = ax_r Q g k := fun k => by rw [hD, px_r_wr, if_neg (by omega), rC]
      show px_q D.2.2 n
      unfold px_q
      rw [← hg, e1001, e1002, e1003, e1004, e1005]
      refine ⟨(sD g).trans t0, (sD _).trans t1, (sD _).trans t2, (sD _).trans t3, (sD _).trans t4, (sD _).trans t5, (rD _).trans r5, (rD _).trans r6, (rD _).trans r7, (rD _).trans r8, (rD _).trans r9⟩
    · show ax_r (ax_wi D 0 7 (nI (n + 1))) 5 n = _
      rw [px_r_wi, hD, px_r_wr, if_pos ⟨rfl, rfl⟩, hg]
  · rw [px_l_wi, hD, px_l_wr, hC, px_l_wc, (out id (by omega)).2.1]
  · rw [px_i_wi, if_neg w, iD, if_neg (by omega), (out id (by omega)).1]
  · rw [px_i_wi, if_pos ⟨rfl, rfl⟩]
  · have iE : ∀ k, ax_i (ax_wi D 0 7 (nI (n + 1))) g k = ax_i Q g k := fun k => by rw [px_i_wi, if_neg (by omega), iD, if_neg (by omega)]
    rw [iE, iE, iE, iE, iE, iE, iE]
    exact qi
  · obtain ⟨y1, y2, y3⟩ := qa a ha
    refine ⟨?_, ?_, ?_, ?_⟩
    · rw [px_i_wi, if_neg (by omega), iD, if_pos rfl, cpy0 _ _ ha, (out 1 (by omega)).1]
    · rw [px_i_wi, if_neg (by omega), iD, if_neg (by omega)]; exact y1
    · rw [px_i_wi, if_neg (by omega), iD, if_neg (by omega)]; exact y2
    · rw [px_i_wi, if_neg (by omega), iD, if_neg (by omega)]; exact y3
def mq_r (n na a : Nat) (N N' : ax_M) : Prop := N'.2.2 = N.2.2 ∧ (∀ id k, ax_l N' id k = ax_l N id k) ∧ (∀ id k, ¬ ((id = 115 ∨ id = 116 ∨ id = 118 ∨ id = 120) ∧ 8 * n ≤ k ∧ k < 8 * n + 8) → ax_i N' id k = ax_i N id k) ∧ ∀ c, c < a → ax_i N' 115 (8 * n + c) = (if c < na then ax_i N 101 c else 0) ∧ ax_i N' 116 (8 * n + c) = 0 ∧ ax_i N' 118 (8 * n + c) = 0 ∧ ax_i N' 120 (8 * n + c) = nI c
theorem mq_l {nq : Nat} {N : ax_M} (W : px_W nq nu N.2.2) (hn : n < 6) (h8 : na ≤ 8) (hna : ax_i N 100 3 = nI na) : ∀ k a f N', a + k = 8 → mq_r n na a N N' → ∃ N3, F_M_question_144 (f + k + 1) N' (some 100) (nI n) (nI a) = some (nI n, ax_wi N3 100 8 (ax_i N 100 8 + 1)) ∧ mq_r n na 8 N N3 := by
  intro k
  induction k with
  | zero =>
    intro a f N' e q
    have : a = 8 := by omega
    subst this
    have W' : px_W nq nu N'.2.2 := by rw [q.1]; exact W
    refine ⟨N', ?_, q⟩
    show G_M_question_144 _ N' _ _ _ = _
    simp only [G_M_question_144]
    rw [if_pos (show (8 : Int32) ≤ nI 8 from Int32.le_refl _), e_M_gi nq nu W', Option.bind_some, e_M_pi nq nu W', Option.bind_some, q.2.2.1 100 8 (by omega)]
  | succ k ih =>
    intro a f N' e q
    have W' : px_W nq nu N'.2.2 := by rw [q.1]; exact W
    have ha : a < 8 := by omega
    have x3 : ¬ (8 : Int32) ≤ nI a := nI_ge (b := 8) ha (by decide)
    have hi : 8 * n + a < 48 := by omega
    have q2 : ∀ v, v = (if a < na then ax_i N 101 a else 0) → mq_r n na (a + 1) N (ax_wi (ax_wi (ax_wi (ax_wi N' 115 (8 * n + a) v) 116 (8 * n + a) 0) 118 (8 * n + a) 0) 120 (8 * n + a) (nI a)) := by
      intro v hv
      refine ⟨q.1, fun id k => ?_, fun id k z => ?_, fun c hc => ?_⟩
      · rw [px_l_wi, px_l_wi, px_l_wi, px_l_wi]; exact q.2.1 id k
      · rw [px_i_wi, if_neg (by omega), px_i_wi, if_neg (by omega), px_i_wi, if_neg (by omega), px_i_wi, if_neg (by omega)]; exact q.2.2.1 id k z
      · by_cases ec : c = a
        · subst ec
          simp [px_i_wi, hv]
        · have := q.2.2.2 c (by omega)
          have ne : ¬ (8 * n + c = 8 * n + a) := by omega
          simp only [px_i_wi, ne, and_false, if_false]
          exact this
    by_cases hc : a < na
    · have x4 : ¬ nI na ≤ nI a := nI_ge hc (by omega)
      obtain ⟨N3, e1, e2⟩ := ih (a + 1) f _ (by omega) (q2 (ax_i N 101 a) (by rw [if_pos hc]))
      refine ⟨N3, ?_, e2⟩
      rw [← e1]
      show G_M_question_144 (F_M_question_144 (f + k + 1)) N' _ _ _ = _
      have g1 := q.2.2.1 100 3 (by omega)
      have g2 := q.2.2.1 101 a (by omega)
      simp only [G_M_question_144, G_M_question_183, if_neg x3, e_M_r19 nq nu W', e_M_gi nq nu W', g1, hna, if_neg x4, e_M_r4 nq nu W', e_M_rd101 nq nu W' ha, g2, px_8, Option.bind_some, e_M_wr115 nq nu W' hi, e_M_r20 nq nu (M := ax_wi _ _ _ _) W', e_M_wr116 nq nu (M := ax_wi _ _ _ _) W' hi, e_M_r22 nq nu (M := ax_wi (ax_wi _ _ _ _) _ _ _) W', e_M_wr118 nq nu (M := ax_wi (ax_wi _ _ _ _) _ _ _) W' hi, e_M_r24 nq nu (M := ax_wi (ax_wi (ax_wi _ _ _ _) _ _ _) _ _ _) W', e_M_wr120 nq nu (M := ax_wi (ax_wi (ax_wi _ _ _ _) _ _ _) _ _ _) W' hi, nI_1]
    · have x4 : nI na ≤ nI a := nI_le (by omega) (by omega)
      obtain ⟨N3, e1, e2⟩ := ih (a + 1) f _ (by omega) (q2 0 (by rw [if_neg hc]))
      refine ⟨N3, ?_, e2⟩
      rw [← e1]
      show G_M_question_144 (F_M_question_144 (f + k + 1)) N' _ _ _ = _
      have g1 := q.2.2.1 100 3 (by omega)
      simp only [G_M_question_144, G_M_question_183, if_neg x3, e_M_r19 nq nu W', e_M_gi nq nu W', g1, hna, if_pos x4, px_8, Option.bind_some, e_M_wr115 nq nu W' hi, e_M_r20 nq nu (M := ax_wi _ _ _ _) W', e_M_wr116 nq nu (M := ax_wi _ _ _ _) W' hi, e_M_r22 nq nu (M := ax_wi (ax_wi _ _ _ _) _ _ _) W', e_M_wr118 nq nu (M := ax_wi (ax_wi _ _ _ _) _ _ _) W' hi, e_M_r24 nq nu (M := ax_wi (ax_wi (ax_wi _ _ _ _) _ _ _) _ _ _) W', e_M_wr120 nq nu (M := ax_wi (ax_wi (ax_wi _ _ _ _) _ _ _) _ _ _) W' hi, nI_1]
def S_mq (n id k : Nat) : Prop := (105 ≤ id ∧ id ≤ 111 ∧ k = n) ∨ ((id = 115 ∨ id = 116 ∨ id = 118 ∨ id = 120) ∧ 8 * n ≤ k ∧ k < 8 * n + 8) ∨ (id = 100 ∧ k = 8)
theorem M_question_e {nq : Nat} {N : ax_M} (W : px_W nq nu N.2.2) (hn : n < 6) (h8 : na ≤ 8) (hna : ax_i N 100 3 = nI na) (hh : ax_i N 100 1 = nI h) (hq : ax_i N 100 8 = nI n) (z0 : ¬ (p0 < 0 ∨ 3 < p0)) (z1 : ¬ (p1 < 2 ∨ 4 < p1)) (z2 : ¬ (p2 < 1 ∨ 50 < p2)) (z3 : ¬ (p3 < 0 ∨ 20 < p3)) (z4 : ¬ (p4 < 0 ∨ 100 < p4)) : ∃ N', f_M_question N (some 100) p0 p1 p2 p3 p4 = some (nI n, N') ∧ px_fr (S_mq n) N N' ∧ (ax_i N' 105 n = p0 ∧ ax_i N' 106 n = p1 ∧ ax_i N' 107 n = nI h + p2 ∧ ax_i N' 108 n = nI h + p2 + p3 ∧ ax_i N' 109 n = p4 ∧ ax_i N' 110 n = 0 ∧ ax_i N' 111 n = 0 ∧ ax_i N' 100 8 = nI (n + 1)) ∧ ∀ c, c < 8 → ax_i N' 115 (8 * n + c) = (if c < na then ax_i N 101 c else 0) ∧ ax_i N' 116 (8 * n + c) = 0 ∧ ax_i N' 118 (8 * n + c) = 0 ∧ ax_i N' 120 (8 * n + c) = nI c := by
  obtain ⟨N0, hN0⟩ : ∃ N0, N0 = ax_wi (ax_wi (ax_wi (ax_wi (ax_wi (ax_wi (ax_wi N 105 n p0) 106 n p1) 107 n (nI h + p2)) 108 n (nI h + p2 + p3)) 109 n p4) 110 n 0) 111 n 0 := ⟨_, rfl⟩
  have W0 : px_W nq nu N0.2.2 := by rw [hN0]; exact W
  have i0 : ∀ id k, ¬ (105 ≤ id ∧ id ≤ 111 ∧ k = n) → ax_i N0 id k = ax_i N id k := fun id k z => by
    rw [hN0, px_i_wi, if_neg (by omega), px_i_wi, if_neg (by omega), px_i_wi, if_neg (by omega), px_i_wi, if_neg (by omega), px_i_wi, if_neg (by omega), px_i_wi, if_neg (by omega), px_i_wi, if_neg (by omega)]
  obtain ⟨N3, e1, q⟩ := mq_l (n := n) (na := na) W0 hn h8 (by rw [i0 100 3 (by omega)]; exact hna) 8 0 55 N0 (by omega) ⟨rfl, fun _ _ => rfl, fun _ _ _ => rfl, fun c z => absurd z (Nat.not_lt_zero _)⟩
  rw [i0 100 8 (by omega), hq, nI_1, nI_0] at e1
  have n6 : ¬ nI n = 6 := fun z => by have := (nI_eq (b := 6) (by omega) (by omega)).mp z; omega
  refine ⟨ax_wi N3 100 8 (nI (n + 1)), ?_, ⟨?_, fun id k z => ?_, fun id k z => ?_⟩, ?_, fun c hc => ?_⟩
  · rw [← e1, hN0]
    have W1 : ∀ (M : ax_M) (id k : Nat) (v : Int32), px_W nq nu M.2.2 → px_W nq nu (ax_wi M id k v).2.2 := fun M id k v z => z
    simp only [f_M_question, M_isInY N z0, M_isInY N z1, M_isInY N z2, M_isInY N z3, M_isInY N z4, Option.bind_some, i32_10, if_false, e_M_gi nq nu W, hq, if_neg n6, e_M_r9 nq nu W, e_M_wr105 nq nu W hn, px_i_wi, px_wi, e_M_r10 nq nu, e_M_wr106 nq nu, e_M_r11 nq nu, e_M_wr107 nq nu, e_M_r12 nq nu, e_M_wr108 nq nu, e_M_r13 nq nu, e_M_wr109 nq nu, e_M_r14 nq nu, e_M_wr110 nq nu, e_M_r15 nq nu, e_M_wr111 nq nu, e_M_gi nq nu, W, hn, hh, show ¬ (100 = 105 ∧ 1 = n) by omega, show ¬ (100 = 106 ∧ 1 = n) by omega, show ¬ (100 = 107 ∧ 1 = n) by omega]
  · show N3.2.2 = _
    rw [q.1, hN0]; rfl
  · unfold S_mq at z
    rw [px_i_wi, if_neg (by omega), q.2.2.1 id k (by omega), i0 id k (by omega)]
  · rw [px_l_wi, q.2.1, hN0]; rfl
  · have e : ∀ id, 105 ≤ id ∧ id ≤ 111 → ax_i (ax_wi N3 100 8 (nI (n + 1))) id n = ax_i N0 id n := fun id z => by rw [px_i_wi, if_neg (by omega), q.2.2.1 id n (by omega)]
    rw [e 105 (by omega), e 106 (by omega), e 107 (by omega), e 108 (by omega), e 109 (by omega), e 110 (by omega), e 111 (by omega), hN0]
    simp [px_i_wi]
  · have e : ∀ id k, id ≠ 100 → ax_i (ax_wi N3 100 8 (nI (n + 1))) id k = ax_i N3 id k := fun id k z => by rw [px_i_wi, if_neg (by omega)]
    rw [e 115 _ (by omega), e 116 _ (by omega), e 118 _ (by omega), e 120 _ (by omega), ← i0 101 c (by omega)]
    exact q.2.2.2 c hc
end
