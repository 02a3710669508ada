/-! RUN -/
def S_run (n a id k : Nat) : Prop := S_sc id k ∨ (id = 10 * n + 1000 ∧ k = 13) ∨ (id = 0 ∧ k = 1) ∨ (id = 2 ∧ k = a) ∨ (id = 111 ∧ k = n) ∨ (id = 100 ∧ k = 2) ∨ (id = 102 ∧ k = a)
set_option maxHeartbeats 4000000 in
theorem op_run {T : Nat} {M : ax_M} (hT : T < 1000) (hS : Sim T M) (x : Int32) : ag (f_V_run M (some 0) x) (fun M1 => f_M_run M1 (some 100) x) (Sim (T + 1)) := by
  obtain ⟨na, nq, nu, hh, mt, hg, hc, hq, ha⟩ := id hS
  obtain ⟨h, g2, g3, g4, g5, g6, g7, i1, i2, i3, i4, i5, i6, i7, i8, i9, i10⟩ := id hg
  rcases px_ix x (n := nq) (by omega) with hx | ⟨n, hn, rfl, hx⟩
  · refine ⟨-1, M, M, ?_, ?_, hS.up hT⟩
    · simp [f_V_run, e_V_ob nq nu, h, V_isNoAccount nq nu na, M_isAccount nq nu na, M_isQuestion nq nu, M_isAuction nq nu, V_isOutside, M_isIn, i1, i2, i4, i5, i6, i7, i8, i9, i10, g2, g3, g4, V_questionAt_no nq nu h g3 hx]
    · simp [f_M_run, e_M_ob nq nu, h, V_isNoAccount nq nu na, M_isAccount nq nu na, M_isQuestion nq nu, M_isAuction nq nu, V_isOutside, M_isIn, i1, i2, i4, i5, i6, i7, i8, i9, i10, g2, g3, g4, hx]
  have hn6 : n < 6 := by omega
  obtain ⟨kd, ch, en, w, m, sp, has, lk, c, gV, gM, b7, b8, b5, b9, hcq⟩ := cq_of hg hc (hq n hn)
  have nx : (nI n < 0 ∨ nI nq ≤ nI n) = False := eq_false hx
  obtain ⟨P, hP⟩ : ∃ P, P = if nI hh < nI en then 0 else ps (mo_f (fc kd ch w m sp has lk) ch) (100 * nI (ct (gv (vc kd has sp) w) 8)) (ax_i M 109 n * nI (ct w 8)) := ⟨_, rfl⟩
  have hP01 : P = 0 ∨ P = 1 := by
    rw [hP]
    split
    · exact Or.inl rfl
    · exact ps_01 _ _ _
  -- the reference, whatever the class did to its own cells
  have ref : ∀ M1 : ax_M, px_W nq nu M1.2.2 → (∀ id k, 100 ≤ id ∧ id < 1000 → ax_i M1 id k = ax_i M id k) → ∃ M2, f_M_isPassed M1 (some 100) (nI n) = some (P, M2) ∧ px_fr S_cm M1 M2 := by
    intro M1 W1 ov
    obtain ⟨M2, r1, r2⟩ := M_isPassed W1 hn6 c (gM.ov ov)
    rw [ov 100 1 (by omega), ov 108 n (by omega), ov 109 n (by omega), i2, b8, ← hP] at r1
    exact ⟨M2, r1, r2⟩
  -- the reference answers -3
  have bad : ∀ M1 : ax_M, px_fr S_cv M M1 → (P = 0 ∨ ax_i M 110 n = 0 ∨ ¬ ax_i M 111 n = 0 ∨ ax_i M 100 1 < ax_i M 108 n + ax_i M 114 n ∨ ¬ 0 ≤ lg_cmp (ax_l M 100 2) (ax_i M 113 n).toInt64) → ∃ M2, f_M_run M1 (some 100) (nI n) = some (-3, M2) ∧ px_fr S_cm M1 M2 := by
    intro M1 f1 hb
    have W1 := f1.W h
    obtain ⟨M2, r1, r2⟩ := ref M1 W1 f1.ovm
    have W2 := r2.W W1
    have ov2 : ∀ id k, (100 ≤ id ∧ id < 136) → ¬ (id = 100 ∧ 47 ≤ k) → ax_i M2 id k = ax_i M id k := fun id k z1 z2 => by rw [r2.2.1 id k (by unfold S_cm; omega), f1.ovm id k (by omega)]
    have ovl : ax_l M2 100 2 = ax_l M 100 2 := by rw [r2.2.2 100 2 (by unfold S_cm; omega), f1.2.2 100 2 (by unfold S_cv; omega)]
    have j1 : ax_i M1 100 8 = nI nq := by rw [f1.ovm 100 8 (by omega)]; exact i7
    refine ⟨M2, ?_, r2⟩
    rcases hP01 with e | e
    · rw [e] at r1
      simp only [f_M_run, G_M_run_71, e_M_ob nq nu W1, M_isQuestion nq nu W1 j1, Option.bind_some, nx, if_false, i32_10, r1, if_true]
    · rw [e] at r1
      simp only [f_M_run, G_M_run_71, e_M_ob nq nu W1, M_isQuestion nq nu W1 j1, Option.bind_some, nx, if_false, i32_10, r1, e_M_r14 nq nu W2, e_M_rd110 nq nu W2 hn6, ov2 110 n (by omega) (by omega), e_M_r15 nq nu W2, e_M_rd111 nq nu W2 hn6, ov2 111 n (by omega) (by omega)]
      by_cases z1 : ax_i M 110 n = 0
      · rw [if_pos z1]
      rw [if_neg z1]
      by_cases z2 : ax_i M 111 n = 0
      rotate_left
      · rw [if_neg z2]
      rw [if_pos z2]
      simp only [e_M_gi nq nu W2, ov2 100 1 (by omega) (by omega), e_M_r12 nq nu W2, e_M_rd108 nq nu W2 hn6, ov2 108 n (by omega) (by omega), e_M_r18 nq nu W2, e_M_rd114 nq nu W2 hn6, ov2 114 n (by omega) (by omega), Option.bind_some]
      by_cases z3 : ax_i M 100 1 < ax_i M 108 n + ax_i M 114 n
      · rw [if_pos z3]
      rw [if_neg z3]
      simp only [e_M_gl nq nu W2, ovl, e_M_r17 nq nu W2, e_M_rd113 nq nu W2 hn6, ov2 113 n (by omega) (by omega), Option.bind_some]
      rcases hb with q | q | q | q | q
      · rw [e] at q; exact absurd q (by decide)
      · exact absurd q z1
      · exact absurd z2 q
      · exact absurd q z3
      · rw [if_neg q]
  have out : ∀ M1 : ax_M, f_V_run M (some 0) (nI n) = some (-3, M1) → px_fr S_cv M M1 → (P = 0 ∨ ax_i M 110 n = 0 ∨ ¬ ax_i M 111 n = 0 ∨ ax_i M 100 1 < ax_i M 108 n + ax_i M 114 n ∨ ¬ 0 ≤ lg_cmp (ax_l M 100 2) (ax_i M 113 n).toInt64) → ag (f_V_run M (some 0) (nI n)) (fun M1 => f_M_run M1 (some 100) (nI n)) (Sim (T + 1)) := by
    intro M1 e1 f1 hb
    obtain ⟨M2, r1, r2⟩ := bad M1 f1 hb
    exact ⟨-3, M1, M2, e1, r1, (hS.up hT).sc (f1.sc r2)⟩
  obtain ⟨c1, c2⟩ := hcq
  rcases c2 with ⟨d1, d2⟩ | ⟨d1, ca, lo, d2, d3, d4, d5, d6, d7, d8⟩
  · refine out M ?_ (px_fr.refl _ M) (Or.inr (Or.inl d1))
    have e1 : ((-1 : Int32) < 0 ∨ nI na ≤ -1) = True := eq_true (Or.inl (by decide))
    simp only [f_V_run, G_V_run_62, e_V_ob nq nu h, V_questionAt nq nu h g3 hn, Option.bind_some, reduceCtorEq, if_false, e_Q_gi nq nu h hn, d2, V_isNoAccount nq nu na h i4 g2, e1, if_true, i32_10]
  have a8 : ca < 8 := by omega
  have e1 : (nI ca < 0 ∨ nI na ≤ nI ca) = False := eq_false (by
    rintro (z | z)
    · exact nI_pos (by omega) z
    · exact nI_ge d2 (by omega) z)
  by_cases z2 : ax_i M 111 n = 0
  rotate_left
  · refine out M ?_ (px_fr.refl _ M) (Or.inr (Or.inr (Or.inl z2)))
    simp only [f_V_run, G_V_run_62, e_V_ob nq nu h, V_questionAt nq nu h g3 hn, Option.bind_some, reduceCtorEq, if_false, e_Q_gi nq nu h hn, d4, V_isNoAccount nq nu na h i4 g2, e1, if_true, c1, if_neg z2]
  have e114 : ax_i M 108 n + ax_i M 114 n = nI (en + lo) := by rw [b8, d7, nI_add]
  by_cases z3 : nI hh < nI (en + lo)
  · refine out M ?_ (px_fr.refl _ M) (Or.inr (Or.inr (Or.inr (Or.inl (by rw [e114, i2]; exact z3)))))
    simp only [f_V_run, G_V_run_62, e_V_ob nq nu h, V_questionAt nq nu h g3 hn, Option.bind_some, reduceCtorEq, if_false, e_Q_gi nq nu h hn, d4, V_isNoAccount nq nu na h i4 g2, e1, if_true, c1, z2, e_V_gi nq nu h, i1, d8, if_pos z3]
  by_cases z4 : lg_cmp (ax_l M 100 2) (ax_i M 113 n).toInt64 < 0
  · refine out M ?_ (px_fr.refl _ M) (Or.inr (Or.inr (Or.inr (Or.inr (Int32.not_le.mpr z4)))))
    simp only [f_V_run, G_V_run_62, e_V_ob nq nu h, V_questionAt nq nu h g3 hn, Option.bind_some, reduceCtorEq, if_false, e_Q_gi nq nu h hn, d4, V_isNoAccount nq nu na h i4 g2, e1, if_true, c1, z2, e_V_gi nq nu h, i1, d8, if_neg z3, e_V_gl nq nu h, i3, d6, if_pos z4]
  obtain ⟨M1, q1, q2⟩ := V_isPassed h hn c gV
  have W1 := q2.W h
  rw [i1, b7, b9, ← hP] at q1
  rcases hP01 with e | e
  · refine out M1 ?_ q2 (Or.inl e)
    rw [e] at q1
    simp only [f_V_run, G_V_run_62, e_V_ob nq nu h, V_questionAt nq nu h g3 hn, Option.bind_some, reduceCtorEq, if_false, e_Q_gi nq nu h hn, d4, V_isNoAccount nq nu na h i4 g2, e1, if_true, c1, z2, e_V_gi nq nu h, i1, d8, if_neg z3, e_V_gl nq nu h, i3, d6, if_neg z4, q1]
  rw [e] at q1
  -- both run the call
  have oV : ∀ id k, ¬ S_cv id k → ax_i M1 id k = ax_i M id k := q2.2.1
  have oL : ∀ id k, ¬ S_cv id k → ax_l M1 id k = ax_l M id k := q2.2.2
  obtain ⟨M4, hM4⟩ : ∃ M4, M4 = ax_wl (ax_wl (ax_wi M1 (10 * n + 1000) 13 1) 0 1 (ax_l M 100 2 - (ax_i M 113 n).toInt64)) 2 ca (ax_l M 2 ca + (ax_i M 113 n).toInt64) := ⟨_, rfl⟩
  have W4 : px_W nq nu M4.2.2 := by rw [hM4]; exact W1
  have i4' : ∀ id k, ¬ (id = 10 * n + 1000 ∧ k = 13) → ax_i M4 id k = ax_i M1 id k := fun id k z => by rw [hM4, px_i_wl, px_i_wl, px_i_wi, if_neg z]
  have l4' : ∀ id k, ¬ (id = 0 ∧ k = 1) → ¬ (id = 2 ∧ k = ca) → ax_l M4 id k = ax_l M1 id k := fun id k z1 z2 => by rw [hM4, px_l_wl, if_neg z2, px_l_wl, if_neg z1, px_l_wi]
  have ov4 : ∀ id k, 100 ≤ id ∧ id < 1000 → ax_i M4 id k = ax_i M id k := fun id k z => by rw [i4' id k (by omega), q2.ovm id k z]
  obtain ⟨M5, r1, r2⟩ := ref M4 W4 ov4
  rw [e] at r1
  have W5 := r2.W W4
  have ov5 : ∀ id k, (100 ≤ id ∧ id < 136) → ¬ (id = 100 ∧ 47 ≤ k) → ax_i M5 id k = ax_i M id k := fun id k y1 y2 => by rw [r2.2.1 id k (by unfold S_cm; omega), ov4 id k (by omega)]
  have ovl5 : ∀ id k, (100 ≤ id ∧ id < 136) → ¬ (id = 100 ∧ 47 ≤ k) → ax_l M5 id k = ax_l M id k := fun id k y1 y2 => by rw [r2.2.2 id k (by unfold S_cm; omega), l4' id k (by omega) (by omega), oL id k (by unfold S_cv; omega)]
  have j1 : ax_i M4 100 8 = nI nq := by rw [ov4 100 8 (by omega)]; exact i7
  obtain ⟨M6, hM6⟩ : ∃ M6, M6 = ax_wl (ax_wl (ax_wi M5 111 n 1) 100 2 (ax_l M 100 2 - (ax_i M 113 n).toInt64)) 102 ca (ax_l M 102 ca + (ax_i M 113 n).toInt64) := ⟨_, rfl⟩
  have z4' : 0 ≤ lg_cmp (ax_l M 100 2) (ax_i M 113 n).toInt64 := Int32.not_lt.mp z4
  have z3' : ¬ ax_i M 100 1 < ax_i M 108 n + ax_i M 114 n := by rw [e114, i2]; exact z3
  have eV : f_V_run M (some 0) (nI n) = some (1, M4) := by
    have k13 : ax_i M1 (10 * n + 1000) 11 = ax_i M 113 n := by rw [oV _ _ (by unfold S_cv; omega)]; exact d6
    have k10 : ax_i M1 (10 * n + 1000) 10 = nI ca := by rw [oV _ _ (by unfold S_cv; omega)]; exact d4
    have kl : ax_l M1 0 1 = ax_l M 100 2 := by rw [oL _ _ (by unfold S_cv; omega)]; exact i3
    have kf : ax_l M1 2 ca = ax_l M 2 ca := oL _ _ (by unfold S_cv; omega)
    have s1 : f_V_run M (some 0) (nI n) = (ax_pi M1 1 13 (some (10 * n + 1000)) 1).bind (fun M10 => (ax_gl M10 0 1 (some 0)).bind (fun x11 => (ax_gi M10 1 11 (some (10 * n + 1000))).bind (fun x12 => (ax_pl M10 0 1 (some 0) (x11 - (x12.toInt64))).bind (fun M13 => (ax_gr M13 0 4 (some 0)).bind (fun x14 => (ax_gi M13 1 10 (some (10 * n + 1000))).bind (fun x15 => (ax_rl M13 1 x14 x15).bind (fun x16 => (ax_gi M13 1 11 (some (10 * n + 1000))).bind (fun x17 => (ax_tl M13 1 x14 x15 (x16 + (x17.toInt64))).bind (fun M18 => some (1, M18)))))))))) := by
      simp only [f_V_run, G_V_run_62, e_V_ob nq nu h, V_questionAt nq nu h g3 hn, Option.bind_some, reduceCtorEq, if_false, e_Q_gi nq nu h hn, d4, V_isNoAccount nq nu na h i4 g2, e1, if_true, c1, z2, e_V_gi nq nu h, i1, d8, if_neg z3, e_V_gl nq nu h, i3, d6, if_neg z4, q1, i32_10]
    rw [s1, hM4]
    obtain ⟨B1, hB1⟩ : ∃ B1, B1 = ax_wi M1 (10 * n + 1000) 13 1 := ⟨_, rfl⟩
    have WB1 : px_W nq nu B1.2.2 := by rw [hB1]; exact W1
    obtain ⟨B2, hB2⟩ : ∃ B2, B2 = ax_wl B1 0 1 (ax_l M 100 2 - (ax_i M 113 n).toInt64) := ⟨_, rfl⟩
    have WB2 : px_W nq nu B2.2.2 := by rw [hB2]; exact WB1
    have f1 : ax_l B1 0 1 = ax_l M 100 2 := by rw [hB1, px_l_wi]; exact kl
    have f2 : ax_i B1 (10 * n + 1000) 11 = ax_i M 113 n := by rw [hB1, px_i_wi, if_neg (by omega)]; exact k13
    have f3 : ax_i B2 (10 * n + 1000) 11 = ax_i M 113 n := by rw [hB2, px_i_wl]; exact f2
    have f4 : ax_i B2 (10 * n + 1000) 10 = nI ca := by rw [hB2, px_i_wl, hB1, px_i_wi, if_neg (by omega)]; exact k10
    have f5 : ax_l B2 2 ca = ax_l M 2 ca := by rw [hB2, px_l_wl, if_neg (by omega), hB1, px_l_wi]; exact kf
    simp only [e_Q_pi nq nu W1 hn, Option.bind_some, ← hB1, e_V_gl nq nu WB1, f1, e_Q_gi nq nu WB1 hn, f2, e_V_pl nq nu WB1, ← hB2, e_V_r4 nq nu WB2, e_Q_gi nq nu WB2 hn, f3, f4, e_V_rd2 nq nu WB2 a8, f5, e_V_wr2 nq nu WB2 a8]
  have eM : f_M_run M4 (some 100) (nI n) = some (1, M6) := by
    have s1 : f_M_run M4 (some 100) (nI n) = (ax_gr M5 3 15 (some 100)).bind (fun x15 => (ax_ti M5 2 x15 (nI n) 1).bind (fun M16 => (ax_gl M16 3 2 (some 100)).bind (fun x17 => (ax_gr M16 3 17 (some 100)).bind (fun x18 => (ax_ri M16 0 x18 (nI n)).bind (fun x19 => (ax_pl M16 3 2 (some 100) (x17 - (x19.toInt64))).bind (fun M20 => (ax_gr M20 3 5 (some 100)).bind (fun x21 => (ax_gr M20 3 16 (some 100)).bind (fun x22 => (ax_ri M20 0 x22 (nI n)).bind (fun x23 => (ax_rl M20 1 x21 x23).bind (fun x24 => (ax_gr M20 3 17 (some 100)).bind (fun x25 => (ax_ri M20 0 x25 (nI n)).bind (fun x26 => (ax_tl M20 1 x21 x23 (x24 + (x26.toInt64))).bind (fun M27 => some (1, M27)))))))))))))) := by
      have d1' : (ax_i M 110 n = 0) = False := eq_false (by rw [d1]; decide)
      simp only [f_M_run, e_M_ob nq nu W4, M_isQuestion nq nu W4 j1, Option.bind_some, nx, if_false, i32_10, r1, e_M_r14 nq nu W5, e_M_rd110 nq nu W5 hn6, ov5 110 n (by omega) (by omega), d1', e_M_r15 nq nu W5, e_M_rd111 nq nu W5 hn6, ov5 111 n (by omega) (by omega), z2, if_true, e_M_gi nq nu W5, ov5 100 1 (by omega) (by omega), e_M_r12 nq nu W5, e_M_rd108 nq nu W5 hn6, ov5 108 n (by omega) (by omega), e_M_r18 nq nu W5, e_M_rd114 nq nu W5 hn6, ov5 114 n (by omega) (by omega), if_neg z3', e_M_gl nq nu W5, ovl5 100 2 (by omega) (by omega), e_M_r17 nq nu W5, e_M_rd113 nq nu W5 hn6, ov5 113 n (by omega) (by omega), if_pos z4']
    rw [s1, hM6]
    obtain ⟨B1, hB1⟩ : ∃ B1, B1 = ax_wi M5 111 n 1 := ⟨_, rfl⟩
    have WB1 : px_W nq nu B1.2.2 := by rw [hB1]; exact W5
    obtain ⟨B2, hB2⟩ : ∃ B2, B2 = ax_wl B1 100 2 (ax_l M 100 2 - (ax_i M 113 n).toInt64) := ⟨_, rfl⟩
    have WB2 : px_W nq nu B2.2.2 := by rw [hB2]; exact WB1
    have f1 : ax_l B1 100 2 = ax_l M 100 2 := by rw [hB1, px_l_wi]; exact ovl5 100 2 (by omega) (by omega)
    have f2 : ax_i B1 113 n = ax_i M 113 n := by rw [hB1, px_i_wi, if_neg (by omega)]; exact ov5 113 n (by omega) (by omega)
    have f3 : ax_i B2 113 n = ax_i M 113 n := by rw [hB2, px_i_wl]; exact f2
    have f4 : ax_i B2 112 n = nI ca := by rw [hB2, px_i_wl, hB1, px_i_wi, if_neg (by omega), ov5 112 n (by omega) (by omega)]; exact d5
    have f5 : ax_l B2 102 ca = ax_l M 102 ca := by rw [hB2, px_l_wl, if_neg (by omega), hB1, px_l_wi]; exact ovl5 102 ca (by omega) (by omega)
    simp only [e_M_r15 nq nu W5, e_M_wr111 nq nu W5 hn6, Option.bind_some, ← hB1, e_M_gl nq nu WB1, f1, e_M_r17 nq nu WB1, e_M_rd113 nq nu WB1 hn6, f2, e_M_pl nq nu WB1, ← hB2, e_M_r5 nq nu WB2, e_M_r16 nq nu WB2, e_M_rd112 nq nu WB2 hn6, f4, e_M_rd102 nq nu WB2 a8, f5, e_M_r17 nq nu WB2, e_M_rd113 nq nu WB2 hn6, f3, e_M_wr102 nq nu WB2 a8]
  have F : px_fr (S_run n ca) M M6 := by
    have F1 : px_fr (S_run n ca) M M1 := q2.mono fun id k z => Or.inl (Or.inl z)
    have F4 : px_fr (S_run n ca) M M4 := by
      rw [hM4]
      exact ((F1.wi (Or.inr (Or.inl ⟨rfl, rfl⟩))).wl (Or.inr (Or.inr (Or.inl ⟨rfl, rfl⟩)))).wl (Or.inr (Or.inr (Or.inr (Or.inl ⟨rfl, rfl⟩))))
    have F5 : px_fr (S_run n ca) M M5 := F4.trans (r2.mono fun id k z => Or.inl (Or.inr z))
    rw [hM6]
    exact ((F5.wi (Or.inr (Or.inr (Or.inr (Or.inr (Or.inl ⟨rfl, rfl⟩)))))).wl (Or.inr (Or.inr (Or.inr (Or.inr (Or.inr (Or.inl ⟨rfl, rfl⟩))))))).wl (Or.inr (Or.inr (Or.inr (Or.inr (Or.inr (Or.inr ⟨rfl, rfl⟩))))))
  have fi : ∀ id k, ¬ S_run n ca id k → ax_i M6 id k = ax_i M id k := F.2.1
  have fl : ∀ id k, ¬ S_run n ca id k → ax_l M6 id k = ax_l M id k := F.2.2
  refine ⟨1, M4, M6, eV, eM, na, nq, nu, hh, mt, ?_, fun a ha8 => ?_, fun k hk => ?_, fun k hk => ?_⟩
  · refine ⟨F.W h, g2, g3, g4, by omega, by omega, by omega, ?_, ?_, ?_, ?_, ?_, ?_, ?_, ?_, ?_, ?_⟩
    · rw [fi _ _ (by unfold S_run S_sc S_cv S_cm; omega)]; exact i1
    · rw [fi _ _ (by unfold S_run S_sc S_cv S_cm; omega)]; exact i2
    · have y1 : ax_l M6 0 1 = ax_l M 100 2 - (ax_i M 113 n).toInt64 := by
        rw [hM6, px_l_wl, if_neg (by omega), px_l_wl, if_neg (by omega), px_l_wi, r2.2.2 0 1 (by unfold S_cm; omega), hM4, px_l_wl, if_neg (by omega), px_l_wl, if_pos ⟨rfl, rfl⟩]
      have y2 : ax_l M6 100 2 = ax_l M 100 2 - (ax_i M 113 n).toInt64 := by
        rw [hM6, px_l_wl, if_neg (by omega), px_l_wl, if_pos ⟨rfl, rfl⟩]
      rw [y1, y2]
    · rw [fi _ _ (by unfold S_run S_sc S_cv S_cm; omega)]; exact i4
    · rw [fi _ _ (by unfold S_run S_sc S_cv S_cm; omega)]; exact i5
    · rw [fi _ _ (by unfold S_run S_sc S_cv S_cm; omega)]; exact i6
    · rw [fi _ _ (by unfold S_run S_sc S_cv S_cm; omega)]; exact i7
    · rw [fi _ _ (by unfold S_run S_sc S_cv S_cm; omega)]; exact i8
    · rw [fi _ _ (by unfold S_run S_sc S_cv S_cm; omega)]; exact i9
    · rw [fi _ _ (by unfold S_run S_sc S_cv S_cm; omega)]; exact i10
  · by_cases ea : a = ca
    · subst ea
      obtain ⟨⟨w', w1, w2, w3⟩, y1, y2, p, p1, p2, p3⟩ := (hc a ha8).1 d2
      refine ⟨fun _ => ⟨⟨w', w1, ?_, ?_⟩, ?_, ?_, p, p1, ?_, ?_⟩, fun z => absurd z (by omega)⟩
      · rw [fi _ _ (by unfold S_run S_sc S_cv S_cm; omega)]; exact w2
      · rw [fi _ _ (by unfold S_run S_sc S_cv S_cm; omega)]; exact w3
      · have x1 : ax_l M6 2 a = ax_l M 2 a + (ax_i M 113 n).toInt64 := by
          rw [hM6, px_l_wl, if_neg (by omega), px_l_wl, if_neg (by omega), px_l_wi, r2.2.2 2 a (by unfold S_cm; omega), hM4, px_l_wl, if_pos ⟨rfl, rfl⟩]
        have x2 : ax_l M6 102 a = ax_l M 102 a + (ax_i M 113 n).toInt64 := by
          rw [hM6, px_l_wl, if_pos ⟨rfl, rfl⟩]
        rw [x1, x2, y1]
      · rw [fl _ _ (by unfold S_run S_sc S_cv S_cm; omega), fl _ _ (by unfold S_run S_sc S_cv S_cm; omega)]; exact y2
      · rw [fi _ _ (by unfold S_run S_sc S_cv S_cm; omega)]; exact p2
      · rw [fi _ _ (by unfold S_run S_sc S_cv S_cm; omega)]; exact p3
    · exact (hc a ha8).fr F (fun id k z w => by unfold S_run S_sc S_cv S_cm at w; omega)
  · by_cases ek : k = n
    · subst ek
      obtain ⟨kd, ch, sh, en', a1, a2, a3, a4, a5, x1, x2, x3, x4, x5, x6, x7, x8, x9, hcq, hd⟩ := hq k hk
      refine ⟨kd, ch, sh, en', a1, a2, a3, a4, a5, ?_, ?_, ?_, ?_, ?_, ?_, ?_, ?_, ?_, ?_, fun a ha => (hd a ha).fr F (fun id k z w => by unfold S_run S_sc S_cv S_cm at w; omega)⟩
      · rw [fi _ _ (by unfold S_run S_sc S_cv S_cm; omega)]; exact x1
      · rw [fi _ _ (by unfold S_run S_sc S_cv S_cm; omega)]; exact x2
      · rw [fi _ _ (by unfold S_run S_sc S_cv S_cm; omega)]; exact x3
      · rw [fi _ _ (by unfold S_run S_sc S_cv S_cm; omega)]; exact x4
      · rw [fi _ _ (by unfold S_run S_sc S_cv S_cm; omega)]; exact x5
      · rw [fi _ _ (by unfold S_run S_sc S_cv S_cm; omega)]; exact x6
      · rw [fi _ _ (by unfold S_run S_sc S_cv S_cm; omega)]; exact x7
      · rw [fi _ _ (by unfold S_run S_sc S_cv S_cm; omega)]; exact x8
      · rw [fi _ _ (by unfold S_run S_sc S_cv S_cm; omega), fi _ _ (by unfold S_run S_sc S_cv S_cm; omega)]; exact x9
      · obtain ⟨c1', c2'⟩ := hcq
        unfold sm_qc
        rw [fi (10 * k + 1000) 10 (by unfold S_run S_sc S_cv S_cm; omega), fi (10 * k + 1000) 11 (by unfold S_run S_sc S_cv S_cm; omega), fi (10 * k + 1000) 12 (by unfold S_run S_sc S_cv S_cm; omega), fi 110 k (by unfold S_run S_sc S_cv S_cm; omega), fi 112 k (by unfold S_run S_sc S_cv S_cm; omega), fi 113 k (by unfold S_run S_sc S_cv S_cm; omega), fi 114 k (by unfold S_run S_sc S_cv S_cm; omega)]
        refine ⟨?_, c2'⟩
        have u1 : ax_i M6 (10 * k + 1000) 13 = 1 := by
          rw [hM6, px_i_wl, px_i_wl, px_i_wi, if_neg (by omega), r2.2.1 (10 * k + 1000) 13 (by unfold S_cm; omega), hM4, px_i_wl, px_i_wl, px_i_wi, if_pos ⟨rfl, rfl⟩]
        have u2 : ax_i M6 111 k = 1 := by
          rw [hM6, px_i_wl, px_i_wl, px_i_wi, if_pos ⟨rfl, rfl⟩]
        rw [u1, u2]
    · exact (hq k hk).fr F (fun id k' z w => by unfold S_run S_sc S_cv S_cm at w; omega)
  · exact (ha k hk).up.fr F (fun id k' z w => by unfold S_run S_sc S_cv S_cm at w; omega)
