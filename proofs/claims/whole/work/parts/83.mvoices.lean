/-! the reference's voices -/
section
variable {na kd ch n nq nu : Nat} {w m sp : Nat → Nat} {has : Nat → Bool} {lk : Nat → List Nat}
def S_mv (id _k : Nat) : Prop := id = 136 ∨ id = 137
theorem cq_M.mv {N N' : ax_M} (g : cq_M N n na kd ch w m sp has) (f : px_fr S_mv N N') : cq_M N' n na kd ch w m sp has := g.fr (f.mono fun id k z => by unfold S_mv at z; unfold S_cm; omega)
theorem cq_p.rvlt (c : cq_p na kd ch w m sp has lk) {t a x : Nat} (ha : a < na) (h : rv na has sp t a = some x) : x < 8 := by
  have h8 := c.1
  rw [rv_vo (fun b hb => (c.2.2.2.2 b (by omega)).2.2.2.1 hb) t a ha] at h
  have := (vo_lt (fun b hb => (c.2.2.2.2 b (by omega)).2.2.2.1 hb) _ _ _ ha h).1
  omega
theorem M_speakerOf {N : ax_M} (W : px_W nq nu N.2.2) (hn : n < 6) (c : cq_p na kd ch w m sp has lk) (g : cq_M N n na kd ch w m sp has) {a : Nat} (ha : a < na) : f_M_speakerOf N (some 100) (nI n) (nI a) = some (nI (sp a), N) := by
  have h8 := c.1
  have a8 : a < 8 := by omega
  have g4 := (g.2.2.2 a a8).2.2.2 ha
  have hi : 8 * n + a < 48 := by omega
  by_cases hl : ax_i N 100 1 < ax_i N 108 n
  · rw [if_pos hl] at g4
    simp only [f_M_speakerOf, G_M_speakerOf_33, e_M_gi nq nu W, e_M_r12 nq nu W, e_M_rd108 nq nu W hn, Option.bind_some, if_pos hl, e_M_r7 nq nu W, e_M_rd104 nq nu W a8, g4]
  · rw [if_neg hl] at g4
    simp only [f_M_speakerOf, G_M_speakerOf_33, e_M_gi nq nu W, e_M_r12 nq nu W, e_M_rd108 nq nu W hn, Option.bind_some, if_neg hl, e_M_r24 nq nu W, px_8, e_M_rd120 nq nu W hi, g4]
theorem mv_118 {N : ax_M} (W : px_W nq nu N.2.2) (c : cq_p na kd ch w m sp has lk) (g : cq_M N n na kd ch w m sp has) (t : Nat) (rec49 : ax_M → Option Nat → Int32 → Int32 → Option (ax_M)) : ∀ k a f N', a + k = na → px_fr S_mv N N' → (∀ b, b < 8 → ax_i N' 136 b = if b < a then vi (rv na has sp (t + 1) b) else vi (rv na has sp t b)) → (∀ b, b < na → ax_i N' 137 b = vi (rv na has sp (t + 1) b)) → ∃ N3, F_M_findVoices_118 rec49 (f + k + 1) N' (some 100) (nI n) (nI t) (nI a) = rec49 N3 (some 100) (nI n) (nI (t + 1)) ∧ px_fr S_mv N N3 ∧ ∀ b, b < 8 → ax_i N3 136 b = vi (rv na has sp (t + 1) b) := by
  have h8 := c.1
  intro k
  induction k with
  | zero =>
    intro a f N' e fr h1 h2
    have : a = na := by omega
    subst this
    have W' := fr.W W
    have g' := g.mv fr
    refine ⟨N', ?_, fr, fun b hb => ?_⟩
    · show G_M_findVoices_118 rec49 _ N' _ _ _ _ = _
      simp only [G_M_findVoices_118, e_M_gi nq nu W', g'.1, Option.bind_some, if_pos (Int32.le_refl _), nI_1]
    · rw [h1 b hb]
      by_cases z : b < a
      · rw [if_pos z]
      · rw [if_neg z, rv_out (by omega), rv_out (by omega)]
  | succ k ih =>
    intro a f N' e fr h1 h2
    have ha : a < na := by omega
    have a8 : a < 8 := by omega
    have W' := fr.W W
    have g' := g.mv fr
    have x1 : ¬ nI na ≤ nI a := nI_ge ha (by omega)
    obtain ⟨N3, e1, e2⟩ := ih (a + 1) f (ax_wi N' 136 a (vi (rv na has sp (t + 1) a))) (by omega) (fr.wi (Or.inl rfl)) (fun b hb => by
      rw [px_i_wi]
      by_cases eb : b = a
      · rw [if_pos ⟨rfl, eb⟩, eb, if_pos (by omega)]
      · rw [if_neg (fun z => eb z.2), h1 b hb]
        by_cases z : b < a
        · rw [if_pos z, if_pos (by omega)]
        · rw [if_neg z, if_neg (by omega)]) (fun b hb => by rw [px_i_wi, if_neg (by omega)]; exact h2 b hb)
    refine ⟨N3, ?_, e2⟩
    rw [← e1]
    show G_M_findVoices_118 rec49 (F_M_findVoices_118 rec49 (f + k + 1)) N' _ _ _ _ = _
    simp only [G_M_findVoices_118, e_M_gi nq nu W', g'.1, Option.bind_some, if_neg x1, e_M_r42 nq nu W', e_M_r43 nq nu W', e_M_rd137 nq nu W' a8, h2 a ha, e_M_wr136 nq nu W' a8, nI_1]
theorem mv_67 {N : ax_M} (W : px_W nq nu N.2.2) (hn : n < 6) (c : cq_p na kd ch w m sp has lk) (g : cq_M N n na kd ch w m sp has) (t : Nat) (rec49 : ax_M → Option Nat → Int32 → Int32 → Option (ax_M)) : ∀ k a f N', a + k = na → px_fr S_mv N N' → (∀ b, b < 8 → ax_i N' 136 b = vi (rv na has sp t b)) → (∀ b, b < a → ax_i N' 137 b = vi (rv na has sp (t + 1) b)) → ∃ N3, F_M_findVoices_67 rec49 (f + k + 1) N' (some 100) (nI n) (nI t) (nI a) = rec49 N3 (some 100) (nI n) (nI (t + 1)) ∧ px_fr S_mv N N3 ∧ ∀ b, b < 8 → ax_i N3 136 b = vi (rv na has sp (t + 1) b) := by
  have h8 := c.1
  intro k
  induction k with
  | zero =>
    intro a f N' e fr h1 h2
    have : a = na := by omega
    subst this
    have W' := fr.W W
    have g' := g.mv fr
    obtain ⟨N3, e1, e2⟩ := mv_118 W c g t rec49 a 0 (63 - a) N' (by omega) fr (fun b hb => by rw [if_neg (Nat.not_lt_zero _)]; exact h1 b hb) h2
    refine ⟨N3, ?_, e2⟩
    rw [← e1]
    show G_M_findVoices_67 rec49 _ N' _ _ _ _ = _
    simp only [G_M_findVoices_67, e_M_gi nq nu W', g'.1, Option.bind_some, if_pos (Int32.le_refl _)]
    rw [show 63 - a + a + 1 = 64 by omega, nI_0]
  | succ k ih =>
    intro a f N' e fr h1 h2
    have ha : a < na := by omega
    have a8 : a < 8 := by omega
    have W' := fr.W W
    have g' := g.mv fr
    have x1 : ¬ nI na ≤ nI a := nI_ge ha (by omega)
    have s8 : sp a < 8 := c.sp8 a a8
    obtain ⟨N3, e1, e2⟩ := ih (a + 1) f (ax_wi N' 137 a (vi (rv na has sp (t + 1) a))) (by omega) (fr.wi (Or.inr rfl)) (fun b hb => by rw [px_i_wi, if_neg (by omega)]; exact h1 b hb) (fun b hb => by
      rw [px_i_wi]
      by_cases eb : b = a
      · rw [if_pos ⟨rfl, eb⟩, eb]
      · rw [if_neg (fun z => eb z.2)]; exact h2 b (by omega))
    refine ⟨N3, ?_, e2⟩
    rw [← e1]
    show G_M_findVoices_67 rec49 (F_M_findVoices_67 rec49 (f + k + 1)) N' _ _ _ _ = _
    have hv := (vi_neg (fun x hx => c.rvlt (t := t) ha hx)).2.2
    have er : rv na has sp (t + 1) a = if rv na has sp t a = none then rv na has sp t (sp a) else rv na has sp t a := by
      show (if a < na then (if rv na has sp t a = none then rv na has sp t (sp a) else rv na has sp t a) else rv na has sp t a) = _
      rw [if_pos ha]
    by_cases z : rv na has sp t a = none
    · rw [if_pos z] at er
      have hv' : ¬ 0 ≤ vi (rv na has sp t a) := fun q => (hv.mp q) z
      simp only [G_M_findVoices_67, G_M_findVoices_109, e_M_gi nq nu W', g'.1, Option.bind_some, if_neg x1, e_M_r43 nq nu W', e_M_r42 nq nu W', e_M_rd136 nq nu W' a8, h1 a a8, if_neg hv', e_M_ob nq nu W', M_speakerOf W' hn c g' ha, e_M_rd136 nq nu W' s8, h1 (sp a) s8, e_M_wr137 nq nu W' a8, nI_1, er]
    · rw [if_neg z] at er
      have hv' : 0 ≤ vi (rv na has sp t a) := hv.mpr z
      simp only [G_M_findVoices_67, G_M_findVoices_109, e_M_gi nq nu W', g'.1, Option.bind_some, if_neg x1, e_M_r43 nq nu W', e_M_r42 nq nu W', e_M_rd136 nq nu W' a8, h1 a a8, if_pos hv', e_M_wr137 nq nu W' a8, nI_1, er]
theorem mv_49 {N : ax_M} (W : px_W nq nu N.2.2) (hn : n < 6) (c : cq_p na kd ch w m sp has lk) (g : cq_M N n na kd ch w m sp has) (k3 : kd ≠ 3) : ∀ k t f N', t + k = 8 → px_fr S_mv N N' → (∀ b, b < 8 → ax_i N' 136 b = vi (rv na has sp t b)) → ∃ N3, F_M_findVoices_49 (f + k + 1) N' (some 100) (nI n) (nI t) = some N3 ∧ px_fr S_mv N N3 ∧ ∀ b, b < 8 → ax_i N3 136 b = vi (rv na has sp 8 b) := by
  have h8 := c.1
  have hk : ¬ nI kd = 3 := fun z => k3 ((nI_eq (b := 3) (by have := c.2.1; omega) (by decide)).mp z)
  intro k
  induction k with
  | zero =>
    intro t f N' e fr h1
    have : t = 8 := by omega
    subst this
    refine ⟨N', ?_, fr, h1⟩
    show G_M_findVoices_49 _ N' _ _ _ = _
    simp only [G_M_findVoices_49, G_M_findVoices_150]
    rw [if_pos (show (8 : Int32) ≤ nI 8 from Int32.le_refl _)]
  | succ k ih =>
    intro t f N' e fr h1
    have W' := fr.W W
    have g' := g.mv fr
    have x3 : ¬ (8 : Int32) ≤ nI t := nI_ge (b := 8) (by omega) (by decide)
    obtain ⟨N2, e1, e2, e3⟩ := mv_67 W hn c g t (F_M_findVoices_49 (f + k + 1)) na 0 (63 - na) N' (by omega) fr h1 (fun b z => absurd z (Nat.not_lt_zero _))
    rw [show 63 - na + na + 1 = 64 by omega, nI_0] at e1
    obtain ⟨N3, r1, r2⟩ := ih (t + 1) f N2 (by omega) e2 e3
    refine ⟨N3, ?_, r2⟩
    rw [← r1, ← e1]
    show G_M_findVoices_49 (F_M_findVoices_49 (f + k + 1)) N' _ _ _ = _
    simp only [G_M_findVoices_49, if_neg x3, e_M_r9 nq nu W', e_M_rd105 nq nu W' hn, g'.2.1, Option.bind_some, if_neg hk]
theorem M_findVoices_l {N : ax_M} (W : px_W nq nu N.2.2) (hn : n < 6) (c : cq_p na kd ch w m sp has lk) (g : cq_M N n na kd ch w m sp has) : ∀ k a f N', a + k = 8 → px_fr S_mv N N' → (∀ b, b < a → ax_i N' 136 b = vi (rv na has sp 0 b)) → ∃ N3, F_M_findVoices_2 (f + k + 1) N' (some 100) (nI n) (nI a) = some N3 ∧ px_fr S_mv N N3 ∧ ∀ b, b < 8 → ax_i N3 136 b = vi (vc kd has sp b) := by
  have h8 := c.1
  intro k
  induction k with
  | zero =>
    intro a f N' e fr h1
    have : a = 8 := by omega
    subst this
    have W' := fr.W W
    have g' := g.mv fr
    have e0 : G_M_findVoices_2 (F_M_findVoices_2 f) N' (some 100) (nI n) (nI 8) = F_M_findVoices_49 64 N' (some 100) (nI n) 0 := by
      simp only [G_M_findVoices_2]
      rw [if_pos (show (8 : Int32) ≤ nI 8 from Int32.le_refl _)]
    by_cases k3 : kd = 3
    · refine ⟨N', ?_, fr, fun b hb => ?_⟩
      · show G_M_findVoices_2 (F_M_findVoices_2 f) N' _ _ _ = _
        rw [e0]
        show G_M_findVoices_49 (F_M_findVoices_49 63) N' _ _ _ = _
        simp only [G_M_findVoices_49, G_M_findVoices_150, e_M_r9 nq nu W', e_M_rd105 nq nu W' hn, g'.2.1, Option.bind_some, show nI kd = 3 by rw [k3]; rfl, if_true, ite_self]
      · rw [c.rv8 hb, if_pos k3]; exact h1 b hb
    · obtain ⟨N3, r1, r2, r3⟩ := mv_49 W hn c g k3 8 0 55 N' (by omega) fr h1
      refine ⟨N3, ?_, r2, fun b hb => ?_⟩
      · show G_M_findVoices_2 (F_M_findVoices_2 f) N' _ _ _ = _
        rw [e0]; exact r1
      · rw [c.rv8 hb, if_neg k3]; exact r3 b hb
  | succ k ih =>
    intro a f N' e fr h1
    have a8 : a < 8 := by omega
    have W' := fr.W W
    have g' := g.mv fr
    have x3 : ¬ (8 : Int32) ≤ nI a := nI_ge (b := 8) a8 (by decide)
    have hi : 8 * n + a < 48 := by omega
    obtain ⟨N3, e1, e2⟩ := ih (a + 1) f (ax_wi N' 136 a (vi (rv na has sp 0 a))) (by omega) (fr.wi (Or.inl rfl)) (fun b hb => by
      rw [px_i_wi]
      by_cases eb : b = a
      · rw [if_pos ⟨rfl, eb⟩, eb]
      · rw [if_neg (fun z => eb z.2)]; exact h1 b (by omega))
    refine ⟨N3, ?_, e2⟩
    rw [← e1]
    show G_M_findVoices_2 (F_M_findVoices_2 (f + k + 1)) N' _ _ _ = _
    have er : rv na has sp 0 a = if a < na ∧ has a = true then some a else none := rfl
    by_cases z : a < na
    · have x1 : ¬ nI na ≤ nI a := nI_ge z (by omega)
      have g2 := (g'.2.2.2 a a8).2.1
      cases hh : has a with
      | true =>
        rw [if_pos hh] at g2
        rw [if_pos ⟨z, hh⟩] at er
        simp only [G_M_findVoices_2, G_M_findVoices_40, if_neg x3, e_M_r42 nq nu W', e_M_gi nq nu W', g'.1, if_neg x1, e_M_r20 nq nu W', px_8, e_M_rd116 nq nu W' hi, g2, i32_10, if_false, Option.bind_some, er, e_M_wr136 nq nu W' a8, nI_1, vi]
      | false =>
        rw [if_neg (by rw [hh]; decide)] at g2
        rw [if_neg (by rw [hh]; rintro ⟨_, q⟩; cases q)] at er
        simp only [G_M_findVoices_2, G_M_findVoices_39, G_M_findVoices_40, if_neg x3, e_M_r42 nq nu W', e_M_gi nq nu W', g'.1, if_neg x1, e_M_r20 nq nu W', px_8, e_M_rd116 nq nu W' hi, g2, if_true, Option.bind_some, er, e_M_wr136 nq nu W' a8, nI_1, vi]
    · have x1 : nI na ≤ nI a := nI_le (by omega) (by omega)
      rw [if_neg (fun q => z q.1)] at er
      simp only [G_M_findVoices_2, G_M_findVoices_39, G_M_findVoices_40, if_neg x3, e_M_r42 nq nu W', e_M_gi nq nu W', g'.1, if_pos x1, Option.bind_some, er, e_M_wr136 nq nu W' a8, nI_1, vi]
theorem M_findVoices {N : ax_M} (W : px_W nq nu N.2.2) (hn : n < 6) (c : cq_p na kd ch w m sp has lk) (g : cq_M N n na kd ch w m sp has) : ∃ N3, f_M_findVoices N (some 100) (nI n) = some N3 ∧ px_fr S_mv N N3 ∧ ∀ b, b < 8 → ax_i N3 136 b = vi (vc kd has sp b) :=
  M_findVoices_l W hn c g 8 0 55 N (by omega) (px_fr.refl _ N) (fun b z => absurd z (Nat.not_lt_zero _))
end
