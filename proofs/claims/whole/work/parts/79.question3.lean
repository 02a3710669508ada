/-! QUESTION: both -/
def S_oq (n id k : Nat) : Prop := (10 * n + 1000 ≤ id ∧ id ≤ 10 * n + 1005) ∨ (id = 0 ∧ k = 7) ∨ S_mq n id k
theorem op_question {T : Nat} {M : ax_M} (hT : T < 1000) (hS : Sim T M) (p0 p1 p2 p3 p4 : Int32) : ag (f_V_question (10 * (ax_i M 0 7).toNatClampNeg + 1000) M (some 0) p0 p1 p2 p3 p4) (fun M1 => f_M_question M1 (some 100) p0 p1 p2 p3 p4) (Sim (T + 1)) := by
  by_cases z0 : p0 < 0 ∨ 3 < p0
  · refine ⟨-2, M, M, ?_, ?_, hS.up hT⟩
    · simp only [f_V_question, V_isOutY M z0, Option.bind_some, i32_10, if_false, G_V_question_50]
    · simp only [f_M_question, M_isInN M z0, Option.bind_some, if_true, G_M_question_50]
  by_cases z1 : p1 < 2 ∨ 4 < p1
  · refine ⟨-2, M, M, ?_, ?_, hS.up hT⟩
    · simp only [f_V_question, V_isOutN M z0, V_isOutY M z1, Option.bind_some, i32_10, if_false, if_true, G_V_question_50]
    · simp only [f_M_question, M_isInY M z0, M_isInN M z1, Option.bind_some, i32_10, if_false, if_true, G_M_question_50]
  by_cases z2 : p2 < 1 ∨ 50 < p2
  · refine ⟨-2, M, M, ?_, ?_, hS.up hT⟩
    · simp only [f_V_question, V_isOutN M z0, V_isOutN M z1, V_isOutY M z2, Option.bind_some, i32_10, if_false, if_true, G_V_question_50]
    · simp only [f_M_question, M_isInY M z0, M_isInY M z1, M_isInN M z2, Option.bind_some, i32_10, if_false, if_true, G_M_question_50]
  by_cases z3 : p3 < 0 ∨ 20 < p3
  · refine ⟨-2, M, M, ?_, ?_, hS.up hT⟩
    · simp only [f_V_question, V_isOutN M z0, V_isOutN M z1, V_isOutN M z2, V_isOutY M z3, Option.bind_some, i32_10, if_false, if_true, G_V_question_50]
    · simp only [f_M_question, M_isInY M z0, M_isInY M z1, M_isInY M z2, M_isInN M z3, Option.bind_some, i32_10, if_false, if_true, G_M_question_50]
  by_cases z4 : p4 < 0 ∨ 100 < p4
  · refine ⟨-2, M, M, ?_, ?_, hS.up hT⟩
    · simp only [f_V_question, V_isOutN M z0, V_isOutN M z1, V_isOutN M z2, V_isOutN M z3, V_isOutY M z4, Option.bind_some, i32_10, if_false, if_true, G_V_question_50]
    · simp only [f_M_question, M_isInY M z0, M_isInY M z1, M_isInY M z2, M_isInY M z3, M_isInN M z4, Option.bind_some, i32_10, if_false, if_true, G_M_question_50]
  obtain ⟨na, n, nu, h, mt, hg, hc, hq, ha⟩ := id hS
  obtain ⟨W, g2, g3, g4, g5, g6, g7, i1, i2, i3, i4, i5, i6, i7, i8, i9, i10⟩ := id hg
  by_cases e6 : n = 6
  · subst e6
    refine ⟨-4, M, M, ?_, ?_, hS.up hT⟩
    · simp only [f_V_question, V_isOutN M z0, V_isOutN M z1, V_isOutN M z2, V_isOutN M z3, V_isOutN M z4, Option.bind_some, if_true, e_V_gi 6 nu W, i6, if_neg (show ¬ nI 6 < 6 by decide)]
    · simp only [f_M_question, M_isInY M z0, M_isInY M z1, M_isInY M z2, M_isInY M z3, M_isInY M z4, Option.bind_some, i32_10, if_false, e_M_gi 6 nu W, i7, if_pos (show nI 6 = 6 from rfl)]
  have hn : n < 6 := by omega
  rw [i6, nI_clamp (by omega)]
  obtain ⟨kd, hkd, ek⟩ := px_bd (n := 3) rfl z0
  obtain ⟨ch, hch, hch2, ec⟩ := px_bd2 (le := 2) (n := 4) rfl (by decide) z1
  obtain ⟨d, hd1, hd2, ed⟩ := px_bd2 (le := 1) (n := 50) rfl (by decide) z2
  obtain ⟨s, hs, es⟩ := px_bd (n := 20) rfl z3
  obtain ⟨M1, eV, vW, vf, v07, ⟨v0, v1, v2, v3, v4, v10, v13⟩, va⟩ := V_question_e W hn i1 i6 z0 z1 z2 z3 z4
  have m1 : ∀ id k, 100 ≤ id ∧ id < 1000 → ax_i M1 id k = ax_i M id k := fun id k z => (vf id k (by omega)).2 (by omega)
  obtain ⟨N', eM, mf, ⟨m0, m1', m2, m3, m4, m5, m6, m7⟩, ma⟩ := M_question_e vW hn g2 (by rw [m1 100 3 (by omega)]; exact i5) (by rw [m1 100 1 (by omega)]; exact i2) (by rw [m1 100 8 (by omega)]; exact i7) z0 z1 z2 z3 z4
  rw [ek] at v0 m0
  rw [ec] at v1 m1'
  rw [ed, nI_add] at v2 v3 m2 m3
  rw [es, nI_add] at v3 m3
  have F : px_fr (S_oq n) M (N'.1, N'.2.1, M.2.2) := by
    refine ⟨rfl, fun id k z => ?_, fun id k z => ?_⟩
    · unfold S_oq at z
      exact (mf.2.1 id k (fun w => z (Or.inr (Or.inr w)))).trans ((vf id k (fun w => z (Or.inl w))).2 (fun w => z (Or.inr (Or.inl w))))
    · unfold S_oq at z
      exact (mf.2.2 id k (fun w => z (Or.inr (Or.inr w)))).trans (vf id k (fun w => z (Or.inl w))).1
  have fi : ∀ id k, ¬ S_oq n id k → ax_i N' id k = ax_i M id k := F.2.1
  have fl : ∀ id k, ¬ S_oq n id k → ax_l N' id k = ax_l M id k := F.2.2
  have gV : ∀ id k, (id < 100 ∨ 1000 ≤ id) → ax_i N' id k = ax_i M1 id k := fun id k z => mf.2.1 id k (by unfold S_mq; omega)
  refine ⟨nI n, M1, N', eV, eM, na, n + 1, nu, h, mt, ?_, fun a ha8 => ?_, fun m hm => ?_, fun m hm => ?_⟩
  · refine ⟨by rw [mf.1]; exact vW, g2, by omega, g4, by omega, by omega, by omega, ?_, ?_, ?_, ?_, ?_, ?_, ?_, ?_, ?_, ?_⟩
    · rw [fi _ _ (by unfold S_oq S_mq; omega)]; exact i1
    · rw [fi _ _ (by unfold S_oq S_mq; omega)]; exact i2
    · rw [fl _ _ (by unfold S_oq S_mq; omega), fl _ _ (by unfold S_oq S_mq; omega)]; exact i3
    · rw [fi _ _ (by unfold S_oq S_mq; omega)]; exact i4
    · rw [fi _ _ (by unfold S_oq S_mq; omega)]; exact i5
    · rw [gV _ _ (by omega)]; exact v07
    · exact m7
    · rw [fi _ _ (by unfold S_oq S_mq; omega)]; exact i8
    · rw [fi _ _ (by unfold S_oq S_mq; omega)]; exact i9
    · rw [fi _ _ (by unfold S_oq S_mq; omega)]; exact i10
  · have : sm_c na (N'.1, N'.2.1, M.2.2) a := (hc a ha8).fr F (fun id k z w => by unfold S_oq S_mq at w; omega)
    exact this
  · by_cases e : m = n
    · subst e
      refine ⟨kd, ch, h + d, h + d + s, by omega, hch, hch2, by omega, by omega, ?_, m0, ?_, m1', ?_, m2, ?_, m3, ?_, ?_, fun a ha8 => ?_⟩
      · rw [gV _ _ (by omega)]; exact v0
      · rw [gV _ _ (by omega)]; exact v1
      · rw [gV _ _ (by omega)]; exact v2
      · rw [gV _ _ (by omega)]; exact v3
      · rw [gV _ _ (by omega), m4]; exact v4
      · refine ⟨?_, Or.inl ⟨m5, ?_⟩⟩
        · rw [gV _ _ (by omega), m6]; exact v13
        · rw [gV _ _ (by omega)]; exact v10
      · obtain ⟨y1, y2, y3, y4⟩ := va a ha8
        obtain ⟨x1, x2, x3, x4⟩ := ma a ha8
        have hw : ∃ w, w ≤ 1000 ∧ ax_i M 1 a = nI w ∧ (if a < na then ax_i M1 101 a else 0) = nI w := by
          by_cases z : a < na
          · obtain ⟨⟨w, w1, w2, w3⟩, _⟩ := (hc a ha8).1 z
            exact ⟨w, w1, w2, by rw [if_pos z, m1 101 a (by omega)]; exact w3⟩
          · exact ⟨0, by omega, ((hc a ha8).2 (by omega)).1, by rw [if_neg z]; rfl⟩
        obtain ⟨w, w1, w2, w3⟩ := hw
        refine ⟨w, a, w1, ?_, ?_, Or.inl ⟨x2, ?_⟩, ?_, Or.inl x3, Or.inr rfl, ha8, x4, ?_⟩
        · rw [gV _ _ (by omega), y1]; exact w2
        · rw [x1]; exact w3
        · rw [gV _ _ (by omega)]; exact y2
        · rw [gV _ _ (by omega), y3, x3]
        · rw [gV _ _ (by omega), y4, sm_sp, if_pos rfl]
    · have : sm_q na (N'.1, N'.2.1, M.2.2) m := (hq m (by omega)).fr F (fun id k z w => by unfold S_oq S_mq at w; omega)
      exact this
  · have : sm_a (T + 1) na h mt (N'.1, N'.2.1, M.2.2) m := (ha m hm).up.fr F (fun id k z w => by unfold S_oq S_mq at w; omega)
    exact this
