/-! TICK: questions end, heights go by -/
section
variable {T na nq nu h mt : Nat}
theorem cpy0 (f g : Nat → Int32) {k : Nat} (hk : k < 8) : va_cpy f g 0 0 8 k = f k := by
  unfold va_cpy
  rw [if_pos ⟨Nat.zero_le _, by omega⟩, Nat.zero_add, Nat.sub_zero]
theorem e_cp4 {M : ax_M} (hW : px_W nq nu M.2.2) {i : Nat} (hi : i < nq) : ax_cp M 0 (some 4) 0 (some (10 * i + 1005)) 0 8 = some (ax_wc M 4 (10 * i + 1005) 0 0 8) := by
  simp only [ax_cp, Option.bind_some, e_V_s4 nq nu hW, e_Q_s5 nq nu hW hi]
  rw [if_pos (by decide)]
  rfl
theorem sm_g.fr {S : Nat → Nat → Prop} {M M1 : ax_M} (f : px_fr S M M1) (g : sm_g T na nq nu h mt M) (hr : ∀ id k, (id = 0 ∨ id = 100) → ¬ S id k) : sm_g T na nq nu h mt M1 := by
  obtain ⟨W, g2, g3, g4, g5, g6, g7, i1, i2, i3, i4, i5, i6, i7, i8, i9, i10⟩ := g
  have e0 : ∀ k, ax_i M1 0 k = ax_i M 0 k := fun k => f.2.1 0 k (hr 0 k (Or.inl rfl))
  have e1 : ∀ k, ax_i M1 100 k = ax_i M 100 k := fun k => f.2.1 100 k (hr 100 k (Or.inr rfl))
  have l0 : ∀ k, ax_l M1 0 k = ax_l M 0 k := fun k => f.2.2 0 k (hr 0 k (Or.inl rfl))
  have l1 : ∀ k, ax_l M1 100 k = ax_l M 100 k := fun k => f.2.2 100 k (hr 100 k (Or.inr rfl))
  exact ⟨f.W W, g2, g3, g4, g5, g6, g7, by rw [e0]; exact i1, by rw [e1]; exact i2, by rw [l0, l1]; exact i3, by rw [e0]; exact i4, by rw [e1]; exact i5, by rw [e0]; exact i6, by rw [e1]; exact i7, by rw [e0]; exact i8, by rw [e1]; exact i9, by rw [e1]; exact i10⟩
/-- the reference's copy, for all continuations at once -/
def cp_N (i : Nat) (N : ax_M) : Nat → ax_M
  | 0 => N
  | a + 1 => ax_wi (cp_N i N a) 120 (8 * i + a) (ax_i (cp_N i N a) 104 a)
theorem cp_g {i : Nat} {N : ax_M} (hi : i < 6) : ∀ a, a ≤ 8 → cp_r i a N (cp_N i N a) := by
  intro a
  induction a with
  | zero => intro _; exact ⟨rfl, fun _ _ => rfl, fun _ _ _ => rfl, fun c _ => by rw [if_neg (Nat.not_lt_zero _)]; rfl⟩
  | succ a ih =>
    intro ha
    have g := ih (by omega)
    refine ⟨g.1, fun id k => ?_, fun id k z => ?_, fun c hc => ?_⟩
    · show ax_l (ax_wi _ _ _ _) _ _ = _
      rw [px_l_wi]; exact g.2.1 id k
    · show ax_i (ax_wi _ _ _ _) _ _ = _
      rw [px_i_wi, if_neg (by omega)]; exact g.2.2.1 id k z
    · show ax_i (ax_wi _ _ _ _) _ _ = _
      rw [px_i_wi]
      by_cases ec : c = a
      · rw [if_pos ⟨rfl, by omega⟩, if_pos (by omega), g.2.2.1 104 a (by omega), ec]
      · rw [if_neg (by omega), g.2.2.2 c hc]
        by_cases ec2 : c < a
        · rw [if_pos ec2, if_pos (by omega)]
        · rw [if_neg ec2, if_neg (by omega)]
theorem cp_l2 {i : Nat} {N : ax_M} {hN : Int32} (W : px_W nq nu N.2.2) (hi : i < 6) (h8 : na ≤ 8) (hna : ax_i N 100 3 = nI na) (h1 : ax_i N 100 1 = hN) (h2 : ax_i N 108 i = hN) (rec15 : ax_M → Option Nat → Int32 → Int32 → Option (Int32 × ax_M)) (rec32 : ax_M → Option Nat → Int32 → Int32 → Int32 → Option (Int32 × ax_M)) (v1 v2 : Int32) : ∀ k a f, a + k = na → F_M_tick_43 rec15 rec32 (f + k + 1) (cp_N i N a) (some 100) v1 v2 (nI i) (nI a) = G_M_tick_90 rec15 rec32 (cp_N i N na) (some 100) v1 v2 (nI i) := by
  intro k
  induction k with
  | zero =>
    intro a f e
    have : a = na := by omega
    subst this
    have g := cp_g (N := N) hi a h8
    have W' : px_W nq nu (cp_N i N a).2.2 := by rw [g.1]; exact W
    show G_M_tick_43 rec15 rec32 _ _ _ _ _ _ _ = _
    simp only [G_M_tick_43, e_M_gi nq nu W', Option.bind_some, g.2.2.1 100 3 (by omega), hna, if_pos (Int32.le_refl _)]
  | succ k ih =>
    intro a f e
    have ha : a < na := by omega
    have g := cp_g (N := N) hi a (by omega)
    have W' : px_W nq nu (cp_N i N a).2.2 := by rw [g.1]; exact W
    have x1 : ¬ nI na ≤ nI a := nI_ge ha (by omega)
    rw [← ih (a + 1) f (by omega)]
    show G_M_tick_43 rec15 rec32 (F_M_tick_43 rec15 rec32 (f + k + 1)) _ _ _ _ _ _ = _
    simp only [G_M_tick_43, e_M_gi nq nu W', Option.bind_some, g.2.2.1 100 3 (by omega), hna, if_neg x1, e_M_r12 nq nu W', e_M_rd108 nq nu W' hi, g.2.2.1 108 i (by omega), g.2.2.1 100 1 (by omega), h1, h2, if_true, e_M_r24 nq nu W', e_M_r7 nq nu W', e_M_rd104 nq nu W' (show a < 8 by omega), px_8, e_M_wr120 nq nu W' (show 8 * i + a < 48 by omega), nI_1]
    rfl
def S_tq (i id k : Nat) : Prop := id = 10 * i + 1005 ∨ (id = 120 ∧ 8 * i ≤ k ∧ k < 8 * i + 8)
theorem tq_s {i : Nat} {M N N' : ax_M} (g : RA T na nq nu h mt 0 M N) (hi : i < nq) (gc : cp_r i na N N') : fr_V M (ax_wc M 4 (10 * i + 1005) 0 0 8) ∧ fr_M N N' ∧ RA T na nq nu h mt 0 (ax_wc M 4 (10 * i + 1005) 0 0 8) N' := by
  obtain ⟨gW, hg, hc, hq, _, ha2⟩ := g
  have hi6 : i < 6 := by have := hg.2.2.1; omega
  have F : px_fr (S_tq i) (ov M N) (ov (ax_wc M 4 (10 * i + 1005) 0 0 8) N') := by
    refine ⟨rfl, fun id k z => ?_, fun id k z => ?_⟩
    · unfold S_tq at z
      by_cases w : 100 ≤ id ∧ id < 1000
      · rw [ov_iM id k w, ov_iM id k w, gc.2.2.1 id k (by omega)]
      · rw [ov_iV id k w, ov_iV id k w, px_i_wc, if_neg (by omega)]
    · by_cases w : 100 ≤ id ∧ id < 1000
      · rw [ov_lM id k w, ov_lM id k w, gc.2.1 id k]
      · rw [ov_lV id k w, ov_lV id k w, px_l_wc]
  refine ⟨⟨rfl, fun id k z => ⟨by rw [px_i_wc, if_neg (by omega)], by rw [px_l_wc]⟩⟩, ⟨gc.1, fun id k z => ⟨gc.2.2.1 id k (by omega), gc.2.1 id k⟩⟩, ?_, hg.fr F (fun id k z w => by unfold S_tq at w; omega), fun a ha => (hc a ha).fr F (fun id k z w => by unfold S_tq at w; omega), fun n hn => ?_, fun n hn z => absurd z (Nat.not_lt_zero _), fun n hn z => (ha2 n hn z).fr F (fun id k z w => by unfold S_tq at w; omega)⟩
  · rw [gc.1, gW]; rfl
  by_cases e : n = i
  rotate_left
  · exact (hq n hn).fr F (fun id k z w => by unfold S_tq at w; omega)
  subst e
  obtain ⟨kd, ch, sh, en, a1, a2, a3, a4, a5, b1, b2, b3, b4, b5, b6, b7, b8, b9, hcq, hd⟩ := hq n hn
  have fi := F.2.1
  refine ⟨kd, ch, sh, en, a1, a2, a3, a4, a5, ?_, ?_, ?_, ?_, ?_, ?_, ?_, ?_, ?_, hcq.fr F (fun id k z w => by unfold S_tq at w; omega), fun a ha8 => ?_⟩
  · rw [fi _ _ (by unfold S_tq; omega)]; exact b1
  · rw [fi _ _ (by unfold S_tq; omega)]; exact b2
  · rw [fi _ _ (by unfold S_tq; omega)]; exact b3
  · rw [fi _ _ (by unfold S_tq; omega)]; exact b4
  · rw [fi _ _ (by unfold S_tq; omega)]; exact b5
  · rw [fi _ _ (by unfold S_tq; omega)]; exact b6
  · rw [fi _ _ (by unfold S_tq; omega)]; exact b7
  · rw [fi _ _ (by unfold S_tq; omega)]; exact b8
  · rw [fi _ _ (by unfold S_tq; omega), fi _ _ (by unfold S_tq; omega)]; exact b9
  obtain ⟨w, p, d1, d2, d3, d4, d5, d6, d7, d8, d9, d10⟩ := hd a ha8
  have f1 : ax_i (ov (ax_wc M 4 (10 * n + 1005) 0 0 8) N') (10 * n + 1001) a = ax_i (ov M N) (10 * n + 1001) a := fi _ _ (by unfold S_tq; omega)
  have f2 : ax_i (ov (ax_wc M 4 (10 * n + 1005) 0 0 8) N') (10 * n + 1002) a = ax_i (ov M N) (10 * n + 1002) a := fi _ _ (by unfold S_tq; omega)
  have f3 : ax_i (ov (ax_wc M 4 (10 * n + 1005) 0 0 8) N') (10 * n + 1003) a = ax_i (ov M N) (10 * n + 1003) a := fi _ _ (by unfold S_tq; omega)
  have f5 : ax_i (ov (ax_wc M 4 (10 * n + 1005) 0 0 8) N') 115 (8 * n + a) = ax_i (ov M N) 115 (8 * n + a) := fi _ _ (by unfold S_tq; omega)
  have f6 : ax_i (ov (ax_wc M 4 (10 * n + 1005) 0 0 8) N') 116 (8 * n + a) = ax_i (ov M N) 116 (8 * n + a) := fi _ _ (by unfold S_tq; omega)
  have f7 : ax_i (ov (ax_wc M 4 (10 * n + 1005) 0 0 8) N') 117 (8 * n + a) = ax_i (ov M N) 117 (8 * n + a) := fi _ _ (by unfold S_tq; omega)
  have f8 : ax_i (ov (ax_wc M 4 (10 * n + 1005) 0 0 8) N') 118 (8 * n + a) = ax_i (ov M N) 118 (8 * n + a) := fi _ _ (by unfold S_tq; omega)
  have f4 : ax_l (ov (ax_wc M 4 (10 * n + 1005) 0 0 8) N') (10 * n + 1004) a = ax_l (ov M N) (10 * n + 1004) a := F.2.2 _ _ (by unfold S_tq; omega)
  have f9 : ax_l (ov (ax_wc M 4 (10 * n + 1005) 0 0 8) N') 119 (8 * n + a) = ax_l (ov M N) 119 (8 * n + a) := F.2.2 _ _ (by unfold S_tq; omega)
  have f10 : ax_i (ov (ax_wc M 4 (10 * n + 1005) 0 0 8) N') (10 * n + 1005) a = ax_i (ov M N) 4 a := by rw [ov_iV _ _ (by omega), ov_iV _ _ (by omega), px_i_wc, if_pos rfl, cpy0 _ _ ha8]
  have f11 : ax_i (ov (ax_wc M 4 (10 * n + 1005) 0 0 8) N') 120 (8 * n + a) = if a < na then ax_i (ov M N) 104 a else ax_i (ov M N) 120 (8 * n + a) := by rw [ov_iM _ _ (by omega), ov_iM 104 a (by omega), ov_iM 120 (8 * n + a) (by omega), gc.2.2.2 a ha8]
  unfold sm_qa
  rw [f1, f2, f3, f5, f6, f7, f8, f4, f9, f10, f11]
  by_cases ea : a < na
  · obtain ⟨_, _, _, p', c1, c2, c3⟩ := (hc a ha8).1 ea
    have := hg.2.1
    exact ⟨w, p', d1, d2, d3, d4, d5, d6, Or.inl ⟨ea, c1⟩, by omega, by rw [if_pos ea]; exact c2, c3⟩
  · have hp : p = a := by omega
    refine ⟨w, p, d1, d2, d3, d4, d5, d6, d7, d8, by rw [if_neg ea]; exact d9, ?_⟩
    rw [((hc a ha8).2 (by omega)).2.2, sm_sp, if_pos hp]
theorem tq_l : ∀ k i M N, i + k = nq → RA T na nq nu h mt 0 M N → ∃ M' N', (∀ f, F_V_endQuestions_2 (f + (6 - i) + 1) M (some 0) (nI i) = some M') ∧ (∀ (rec15 : ax_M → Option Nat → Int32 → Int32 → Option (Int32 × ax_M)) f v1 v2, F_M_tick_32 rec15 (f + k + 1) N (some 100) v1 v2 (nI i) = F_M_tick_98 rec15 64 N' (some 100) v1 v2 0) ∧ fr_V M M' ∧ fr_M N N' ∧ RA T na nq nu h mt 0 M' N' := by
  intro k
  induction k with
  | zero =>
    intro i M N e g
    have : i = nq := by omega
    subst this
    obtain ⟨W1, W2⟩ := g.W
    have h6 := g.2.1.2.2.1
    refine ⟨M, N, fun f => V_noQ W1 (6 - i) i f (by omega) (Nat.le_refl _), fun rec15 f v1 v2 => ?_, fr_V.refl M, fr_M.refl N, g⟩
    show G_M_tick_32 rec15 _ N _ _ _ _ = _
    obtain ⟨_, _, _, _, _, _, i7, _⟩ := g.2.1.2.2.2.2.2.2.2
    rw [ov_iM 100 8 (by omega)] at i7
    simp only [G_M_tick_32, e_M_gi i nu W2, Option.bind_some, i7, if_pos (Int32.le_refl _)]
  | succ k ih =>
    intro i M N e g
    obtain ⟨W1, W2⟩ := g.W
    have h6 := g.2.1.2.2.1
    have h8 := g.2.1.2.1
    have hi : i < nq := by omega
    have hi6 : i < 6 := by omega
    obtain ⟨i1, i2, _, _, i5, _, i7, _⟩ := g.2.1.2.2.2.2.2.2.2
    rw [ov_iM 100 8 (by omega)] at i7
    rw [ov_iM 100 3 (by omega)] at i5
    rw [ov_iV 0 0 (by omega)] at i1
    rw [ov_iM 100 1 (by omega)] at i2
    have x1 : ¬ nI nq ≤ nI i := nI_ge hi (by omega)
    have x3 : ¬ (6 : Int32) ≤ nI i := nI_ge (b := 6) hi6 (by decide)
    obtain ⟨en, hV, hM⟩ : ∃ en, ax_i M (10 * i + 1000) 3 = nI en ∧ ax_i N 108 i = nI en := by
      obtain ⟨kd, ch, sh, en, a1, a2, a3, a4, a5, b1, b2, b3, b4, b5, b6, b7, b8, b9, _⟩ := g.2.2.2.1 i hi
      exact ⟨en, by rw [← ov_iV (N := N) _ _ (by omega)]; exact b7, by rw [← ov_iM (M := M) 108 i (by omega)]; exact b8⟩
    have hstep : ∃ M1 N1, (∀ f, F_V_endQuestions_2 (f + (6 - i) + 1) M (some 0) (nI i) = F_V_endQuestions_2 (f + (6 - (i + 1)) + 1) M1 (some 0) (nI (i + 1))) ∧ (∀ (rec15 : ax_M → Option Nat → Int32 → Int32 → Option (Int32 × ax_M)) f v1 v2, F_M_tick_32 rec15 (f + (k + 1) + 1) N (some 100) v1 v2 (nI i) = F_M_tick_32 rec15 (f + k + 1) N1 (some 100) v1 v2 (nI (i + 1))) ∧ fr_V M M1 ∧ fr_M N N1 ∧ RA T na nq nu h mt 0 M1 N1 := by
      by_cases ee : nI en = nI (h + 1)
      · have hcp : ∃ N1, cp_r i na N N1 ∧ ∀ (rec15 : ax_M → Option Nat → Int32 → Int32 → Option (Int32 × ax_M)) (rec32 : ax_M → Option Nat → Int32 → Int32 → Int32 → Option (Int32 × ax_M)) v1 v2, F_M_tick_43 rec15 rec32 64 N (some 100) v1 v2 (nI i) 0 = G_M_tick_90 rec15 rec32 N1 (some 100) v1 v2 (nI i) := by
          refine ⟨cp_N i N na, cp_g hi6 na h8, fun rec15 rec32 v1 v2 => ?_⟩
          have := cp_l2 W2 hi6 h8 i5 i2 (hM.trans ee) rec15 rec32 v1 v2 na 0 (63 - na) (by omega)
          rw [show 63 - na + na + 1 = 64 by omega, nI_0] at this
          exact this
        obtain ⟨N1, gc, ec⟩ := hcp
        obtain ⟨e3, e4, e5⟩ := tq_s g hi gc
        refine ⟨_, N1, fun f => ?_, fun rec15 f v1 v2 => ?_, e3, e4, e5⟩
        · rw [show f + (6 - i) + 1 = (f + (6 - (i + 1)) + 1) + 1 by omega]
          show G_V_endQuestions_2 (F_V_endQuestions_2 (f + (6 - (i + 1)) + 1)) M _ _ = _
          simp only [G_V_endQuestions_2, G_V_endQuestions_45, if_neg x3, e_V_r8 nq nu W1, e_V_q nq nu W1 hi6, Option.bind_some, if_pos hi, reduceCtorEq, if_false, e_Q_gi nq nu W1 hi, hV, e_V_gi nq nu W1, i1, if_pos ee, e_V_r6 nq nu W1, e_Q_r9 nq nu W1 hi, e_cp4 W1 hi, nI_1]
        · show G_M_tick_32 rec15 (F_M_tick_32 rec15 (f + k + 1)) N _ _ _ _ = _
          simp only [G_M_tick_32, e_M_gi nq nu W2, Option.bind_some, i7, if_neg x1, ec, G_M_tick_90, nI_1]
      · refine ⟨M, N, fun f => ?_, fun rec15 f v1 v2 => ?_, fr_V.refl M, fr_M.refl N, g⟩
        · rw [show f + (6 - i) + 1 = (f + (6 - (i + 1)) + 1) + 1 by omega]
          show G_V_endQuestions_2 (F_V_endQuestions_2 (f + (6 - (i + 1)) + 1)) M _ _ = _
          simp only [G_V_endQuestions_2, G_V_endQuestions_45, if_neg x3, e_V_r8 nq nu W1, e_V_q nq nu W1 hi6, Option.bind_some, if_pos hi, reduceCtorEq, if_false, e_Q_gi nq nu W1 hi, hV, e_V_gi nq nu W1, i1, if_neg ee, nI_1]
        · show G_M_tick_32 rec15 (F_M_tick_32 rec15 (f + k + 1)) N _ _ _ _ = _
          simp only [G_M_tick_32, e_M_gi nq nu W2, Option.bind_some, i7, if_neg x1]
          show G_M_tick_43 rec15 _ (F_M_tick_43 rec15 _ 63) N _ _ _ _ _ = _
          simp only [G_M_tick_43, G_M_tick_90, e_M_gi nq nu W2, Option.bind_some, i5, e_M_r12 nq nu W2, e_M_rd108 nq nu W2 hi6, hM, i2, if_neg ee, ite_self, nI_1]
    obtain ⟨M1, N1, q1, q2, q3, q4, q5⟩ := hstep
    obtain ⟨M', N', r1, r2, r3, r4, r5⟩ := ih (i + 1) M1 N1 (by omega) q5
    exact ⟨M', N', fun f => (q1 f).trans (r1 f), fun rec15 f v1 v2 => (q2 rec15 f v1 v2).trans (r2 rec15 f v1 v2), q3.trans r3, q4.trans r4, r5⟩
def RB (T na nq nu h mt : Nat) (M N : ax_M) : Prop := N.2.2 = M.2.2 ∧ sm_g T na nq nu h mt (ov M N) ∧ (∀ a, a < 8 → sm_c na (ov M N) a) ∧ (∀ n, n < nq → sm_q na (ov M N) n) ∧ (∀ n, n < nu → sm_a T na h mt (ov M N) n)
def S_th (id k : Nat) : Prop := (id = 0 ∧ k = 0) ∨ (id = 100 ∧ k = 1)
theorem tk_1 {M N : ax_M} (g : RB T na nq nu h mt M N) (hh : h + 1 ≤ 50 * T) : ∃ M' N', (∀ (rec15 : ax_M → Option Nat → Int32 → Int32 → Option (Int32 × ax_M)) v1 v2, ¬ v1 ≤ v2 → G_V_tick_15 rec15 M (some 0) v1 v2 = rec15 M' (some 0) v1 (v2 + 1)) ∧ (∀ (rec15 : ax_M → Option Nat → Int32 → Int32 → Option (Int32 × ax_M)) v1 v2, ¬ v1 ≤ v2 → G_M_tick_15 rec15 N (some 100) v1 v2 = rec15 N' (some 100) v1 (v2 + 1)) ∧ fr_V M M' ∧ fr_M N N' ∧ RB T na nq nu (h + 1) mt M' N' := by
  obtain ⟨gW, hg, hc, hq, ha⟩ := g
  have F : px_fr S_th (ov M N) (ov (ax_wi M 0 0 (nI (h + 1))) (ax_wi N 100 1 (nI (h + 1)))) := by
    refine ⟨rfl, fun id k z => ?_, fun id k z => ?_⟩
    · unfold S_th at z
      by_cases w : 100 ≤ id ∧ id < 1000
      · rw [ov_iM id k w, ov_iM id k w, px_i_wi, if_neg (by omega)]
      · rw [ov_iV id k w, ov_iV id k w, px_i_wi, if_neg (by omega)]
    · by_cases w : 100 ≤ id ∧ id < 1000
      · rw [ov_lM id k w, ov_lM id k w, px_l_wi]
      · rw [ov_lV id k w, ov_lV id k w, px_l_wi]
  obtain ⟨W, g2, g3, g4, g5, g6, g7, i1, i2, i3, i4, i5, i6, i7, i8, i9, i10⟩ := id hg
  have WM : px_W nq nu M.2.2 := W
  have WN : px_W nq nu N.2.2 := by rw [gW]; exact W
  have R0 : RA T na nq nu h mt 0 (ax_wi M 0 0 (nI (h + 1))) (ax_wi N 100 1 (nI (h + 1))) := by
    refine ⟨by rw [px_wi, px_wi]; exact gW, ?_, fun a ha8 => (hc a ha8).fr F (fun id k z w => by unfold S_th at w; omega), fun n hn => (hq n hn).fr F (fun id k z w => by unfold S_th at w; omega), fun n hn z => absurd z (Nat.not_lt_zero _), fun n hn _ => (ha n hn).fr F (fun id k z w => by unfold S_th at w; omega)⟩
    have fi := F.2.1
    have fl := F.2.2
    refine ⟨F.W W, g2, g3, g4, hh, g6, g7, ?_, ?_, ?_, ?_, ?_, ?_, ?_, ?_, ?_, ?_⟩
    · rw [ov_iV 0 0 (by omega), px_i_wi, if_pos ⟨rfl, rfl⟩]
    · rw [ov_iM 100 1 (by omega), px_i_wi, if_pos ⟨rfl, rfl⟩]
    · rw [fl _ _ (by unfold S_th; omega), fl _ _ (by unfold S_th; omega)]; exact i3
    · rw [fi _ _ (by unfold S_th; omega)]; exact i4
    · rw [fi _ _ (by unfold S_th; omega)]; exact i5
    · rw [fi _ _ (by unfold S_th; omega)]; exact i6
    · rw [fi _ _ (by unfold S_th; omega)]; exact i7
    · rw [fi _ _ (by unfold S_th; omega)]; exact i8
    · rw [fi _ _ (by unfold S_th; omega)]; exact i9
    · rw [fi _ _ (by unfold S_th; omega)]; exact i10
  obtain ⟨M1, N1, q1, q2, q3, q4, q5⟩ := tq_l nq 0 _ _ (by omega) R0
  obtain ⟨M2, N2, r1, r2, r3, r4, r5⟩ := tk_a nu 0 _ _ (by omega) q5
  rw [ov_iV 0 0 (by omega)] at i1
  rw [ov_iM 100 1 (by omega)] at i2
  have W1 := q5.W.1
  have W0 : px_W nq nu (ax_wi M 0 0 (nI (h + 1))).2.2 := by rw [px_wi]; exact WM
  refine ⟨M2, N2, fun rec15 v1 v2 hv => ?_, fun rec15 v1 v2 hv => ?_, ?_, ?_, r5.1, r5.2.1, r5.2.2.1, r5.2.2.2.1, fun n hn => r5.2.2.2.2.1 n hn hn⟩
  · have s1 := q1 57
    have s2 := r1 57
    rw [nI_0] at s1 s2
    have s1' : F_V_endQuestions_2 64 (ax_wi M 0 0 (nI (h + 1))) (some 0) 0 = some M1 := s1
    have s2' : F_V_endAuctions_2 64 M1 (some 0) 0 = some M2 := s2
    simp only [G_V_tick_15, if_neg hv, e_V_gi nq nu WM, i1, e_V_pi nq nu WM, nI_1, Option.bind_some, e_V_ob nq nu W0, f_V_endQuestions, s1', e_V_ob nq nu W1, f_V_endAuctions, s2']
  · have s1 := q2 rec15 (63 - nq) v1 v2
    have s2 := r2 rec15 (63 - nu) v1 v2
    rw [show 63 - nq + nq + 1 = 64 by omega, nI_0] at s1
    rw [show 63 - nu + nu + 1 = 64 by omega, nI_0] at s2
    simp only [G_M_tick_15, if_neg hv, e_M_gi nq nu WN, i2, e_M_pi nq nu WN, nI_1, Option.bind_some, s1, s2]
  · refine fr_V.trans (M' := ax_wi M 0 0 (nI (h + 1))) ⟨rfl, fun id k z => ⟨by rw [px_i_wi, if_neg (by omega)], px_l_wi _ _ _ _ _ _⟩⟩ (q3.trans r3)
  · refine fr_M.trans (M' := ax_wi N 100 1 (nI (h + 1))) ⟨rfl, fun id k z => ⟨by rw [px_i_wi, if_neg (by omega)], px_l_wi _ _ _ _ _ _⟩⟩ (q4.trans r4)
theorem tk_l {n : Nat} (hn : n ≤ 50) : ∀ k j h M N, j + k = n → RB T na nq nu h mt M N → h + k ≤ 50 * T → ∃ M' N', (∀ f, F_V_tick_15 (f + k + 1) M (some 0) (nI n) (nI j) = some (nI (h + k), M')) ∧ (∀ f, F_M_tick_15 (f + k + 1) N (some 100) (nI n) (nI j) = some (nI (h + k), N')) ∧ fr_V M M' ∧ fr_M N N' ∧ RB T na nq nu (h + k) mt M' N' := by
  intro k
  induction k with
  | zero =>
    intro j h M N e g hh
    have : j = n := by omega
    subst this
    have W1 : px_W nq nu M.2.2 := g.2.1.1
    have W2 : px_W nq nu N.2.2 := by rw [g.1]; exact W1
    obtain ⟨i1, i2, _⟩ := g.2.1.2.2.2.2.2.2.2
    rw [ov_iV 0 0 (by omega)] at i1
    rw [ov_iM 100 1 (by omega)] at i2
    refine ⟨M, N, fun f => ?_, fun f => ?_, fr_V.refl M, fr_M.refl N, g⟩
    · show G_V_tick_15 _ M _ _ _ = _
      simp only [G_V_tick_15, if_pos (Int32.le_refl _), e_V_gi nq nu W1, i1, Option.bind_some, Nat.add_zero]
    · show G_M_tick_15 _ N _ _ _ = _
      simp only [G_M_tick_15, if_pos (Int32.le_refl _), e_M_gi nq nu W2, i2, Option.bind_some, Nat.add_zero]
  | succ k ih =>
    intro j h M N e g hh
    obtain ⟨M1, N1, q1, q2, q3, q4, q5⟩ := tk_1 g (by omega)
    obtain ⟨M', N', r1, r2, r3, r4, r5⟩ := ih (j + 1) (h + 1) M1 N1 (by omega) q5 (by omega)
    have x1 : ¬ nI n ≤ nI j := nI_ge (by omega) (by omega)
    rw [show h + 1 + k = h + (k + 1) by omega] at r1 r2 r5
    refine ⟨M', N', fun f => ?_, fun f => ?_, q3.trans r3, q4.trans r4, r5⟩
    · show G_V_tick_15 (F_V_tick_15 (f + k + 1)) M _ _ _ = _
      rw [q1 _ _ _ x1, nI_1, r1]
    · show G_M_tick_15 (F_M_tick_15 (f + k + 1)) N _ _ _ = _
      rw [q2 _ _ _ x1, nI_1, r2]
end
theorem op_tick {T : Nat} {M : ax_M} (hT : T < 1000) (hS : Sim T M) (x : Int32) : ag (f_V_tick M (some 0) x) (fun M1 => f_M_tick M1 (some 100) x) (Sim (T + 1)) := by
  by_cases hx : x < 0 ∨ 50 < x
  · refine ⟨-2, M, M, ?_, ?_, hS.up hT⟩
    · simp only [f_V_tick, V_isOutY M hx, Option.bind_some]; rfl
    · simp only [f_M_tick, M_isInN M hx, Option.bind_some]; rfl
  obtain ⟨n, hn, rfl⟩ := px_bd (n := 50) rfl hx
  have h50 : ∀ {na nq nu hh mt : Nat}, sm_g T na nq nu hh mt M → hh + n ≤ 50 * (T + 1) := fun g => by have := g.2.2.2.2.1; omega
  obtain ⟨na, nq, nu, hh, mt, hg, hc, hq, ha⟩ := id hS
  have R0 : RB (T + 1) na nq nu hh mt M M := by
    unfold RB
    rw [ov_self]
    exact ⟨rfl, hg.up hT, hc, hq, fun n hn => (ha n hn).up⟩
  obtain ⟨M1, N1, q1, q2, q3, q4, q5⟩ := tk_l hn n 0 hh M M (by omega) R0 (h50 hg)
  have R1 : RB (T + 1) na nq nu hh mt M M1 := by
    unfold RB
    rw [ov_cg q3.2, ov_self]
    exact ⟨q3.1, hg.up hT, hc, hq, fun n hn => (ha n hn).up⟩
  obtain ⟨M2, N2, r1, r2, r3, r4, r5⟩ := tk_l hn n 0 hh M M1 (by omega) R1 (h50 hg)
  have e : M2 = M1 := by
    have := (r1 0).symm.trans (q1 0)
    exact congrArg Prod.snd (Option.some.inj this)
  subst e
  have e2 : ov M2 N2 = N2 := by rw [← ov_cg2 r4, ov_self]
  have s1 := r1 (63 - n)
  have s2 := r2 (63 - n)
  rw [show 63 - n + n + 1 = 64 by omega, nI_0] at s1 s2
  refine ⟨nI (hh + n), M2, N2, ?_, ?_, na, nq, nu, hh + n, mt, ?_⟩
  · simp only [f_V_tick, V_isOutN M hx, Option.bind_some, if_true]; exact s1
  · simp only [f_M_tick, M_isInY M2 hx, Option.bind_some]; exact s2
  · unfold RB at r5
    rw [e2] at r5
    exact r5.2
