/-! COUNTING: both sides -/
section
variable {na kd ch n nq nu : Nat} {w m sp : Nat → Nat} {has : Nat → Bool} {lk : Nat → List Nat}
/-- the counts in the end -/
def fc (kd ch : Nat) (w m sp : Nat → Nat) (has : Nat → Bool) (lk : Nat → List Nat) (d : Nat) : Nat := cn kd (vc kd has sp) w m lk (ro (cn kd (vc kd has sp) w m lk) (rk kd ch) (2 ^ ch - 1)).2 d
/-- who fell -/
def fe (kd ch : Nat) (w m sp : Nat → Nat) (has : Nat → Bool) (lk : Nat → List Nat) : List Nat := (ro (cn kd (vc kd has sp) w m lk) (rk kd ch) (2 ^ ch - 1)).1
theorem M_findCounts {N : ax_M} (W : px_W nq nu N.2.2) (hn : n < 6) (c : cq_p na kd ch w m sp has lk) (g : cq_M N n na kd ch w m sp has) : ∃ N3 t, f_M_findCounts N (some 100) (nI n) = some N3 ∧ px_fr S_cm N N3 ∧ (∀ d, d < ch → ax_i N3 138 d = nI (fc kd ch w m sp has lk d)) ∧ ax_i N3 100 48 = nI (ct (gv (vc kd has sp) w) 8) ∧ ax_i N3 100 49 = an1 t ∧ (0 < t ↔ ∃ d, d < ch ∧ 0 < fc kd ch w m sp has lk d) ∧ (kd = 2 → ax_i N3 100 47 = nI (fe kd ch w m sp has lk).length ∧ ∀ j, j < (fe kd ch w m sp has lk).length → ax_i N3 140 j = nI ((fe kd ch w m sp has lk).getD j 0)) := by
  have h8 := c.1
  have h4 := c.2.2.2.1
  obtain ⟨N1, a1, a2, a3⟩ := M_findVoices W hn c g
  have fr1 : px_fr S_cm N N1 := a2.mono fun id k z => by unfold S_mv at z; unfold S_cm; omega
  have W1 := fr1.W W
  obtain ⟨N2, hN2⟩ : ∃ N2, N2 = ax_wi (ax_wi N1 100 48 0) 100 47 0 := ⟨_, rfl⟩
  have fr2 : px_fr S_cm N N2 := by
    rw [hN2]
    exact (fr1.wi (Or.inr ⟨rfl, by omega⟩)).wi (Or.inr ⟨rfl, by omega⟩)
  have W2 := fr2.W W
  obtain ⟨N3, b1', b2, b3⟩ := mc_17 (n := n) W2 4 0 59 N2 (by omega) (px_fr.refl _ N2) (fun d z => absurd z (Nat.not_lt_zero _))
  have fr3 : px_fr S_cm N N3 := fr2.trans (b2.mono fun id k z => by unfold S_cm; omega)
  have W3 := fr3.W W
  have g3 := g.fr fr3
  have hv3 : ∀ b, b < 8 → ax_i N3 136 b = vi (vc kd has sp b) := fun b hb => by rw [b2.2.1 136 b (by omega), hN2, px_i_wi, if_neg (by omega), px_i_wi, if_neg (by omega)]; exact a3 b hb
  have h473 : ax_i N3 100 47 = 0 := by rw [b2.2.1 100 47 (by omega), hN2, px_i_wi, if_pos ⟨rfl, rfl⟩]
  have h483 : ax_i N3 100 48 = 0 := by rw [b2.2.1 100 48 (by omega), hN2, px_i_wi, if_neg (by omega), px_i_wi, if_pos ⟨rfl, rfl⟩]
  obtain ⟨N4, c1, c2, c3⟩ := mc_37 W3 hn c g3 hv3 na 0 (63 - na) N3 (by omega) (px_fr.refl _ N3) (by rw [h483]; rfl)
  rw [show 63 - na + na + 1 = 64 by omega, nI_0] at c1
  have e8 : ct (gv (vc kd has sp) w) 8 = ct (gv (vc kd has sp) w) na := by
    have := ct_z (f := gv (vc kd has sp) w) (n := na) (8 - na) (fun a h1 h2 => by unfold gv; rw [c.vcna (by omega) h1])
    rw [show na + (8 - na) = 8 by omega] at this
    exact this
  have fr4 : px_fr S_cm N N4 := fr3.trans (c2.mono fun id k z => by unfold S_cm; omega)
  have W4 := fr4.W W
  have g4 := g.fr fr4
  have hv4 : ∀ b, b < 8 → ax_i N4 136 b = vi (vc kd has sp b) := fun b hb => by rw [c2.2.1 136 b (by omega)]; exact hv3 b hb
  have start : f_M_findCounts N (some 100) (nI n) = (if kd = 2 then f_M_runOff N4 (some 100) (nI n) else F_M_findCounts_102 64 (ax_wi N4 100 49 0) (some 100) (nI n) 0) := by
    rw [← c1]
    have b1'' : F_M_findCounts_17 64 N2 (some 100) (nI n) 0 = _ := b1'
    rw [← b1'', hN2]
    simp only [f_M_findCounts, e_M_ob nq nu W, a1, Option.bind_some, e_M_pi nq nu W1, e_M_pi nq nu (M := ax_wi _ _ _ _) W1]
  by_cases k2 : kd = 2
  · subst k2
    rw [if_pos rfl] at start
    obtain ⟨N5, d1, d2, d3, d4, d5, d6⟩ := M_runOff W4 hn c g4 hv4 (by rw [c2.2.1 100 47 (by omega)]; exact h473)
    have er : rk 2 ch = ch - 1 := if_pos rfl
    refine ⟨N5, _, by rw [start]; exact d1, fr4.trans (d2.mono fun id k z => by unfold S_ro at z; unfold S_cm; omega), fun d hd => ?_, ?_, d5, ?_, fun _ => ?_⟩
    · unfold fc; rw [er]; exact d3 d (by omega)
    · rw [d2.2.1 100 48 (by unfold S_ro; omega), c3, e8]
    · unfold fc
      rw [er]
      constructor
      · intro z
        obtain ⟨rb, rs, _⟩ := rb_2 ch (by omega)
        obtain ⟨d, q1, q2⟩ := (ct_pos 4).mp (ro_any c (ch - 1) _ (rb _ rs).1 z)
        exact ⟨d, (cn_bit c q2).2, q2⟩
      · rintro ⟨d, q1, q2⟩
        exact any_back c q2
    · unfold fe; rw [er]; exact ⟨d4, d6⟩
  · rw [if_neg k2] at start
    have er : rk kd ch = 0 := if_neg k2
    have fr5 : px_fr S_cm N (ax_wi N4 100 49 0) := fr4.wi (Or.inr ⟨rfl, by omega⟩)
    obtain ⟨N5, d1, d2, d3, d4⟩ := mc_102 (s := 2 ^ ch - 1) (fr5.W W) hn c k2 (g.fr fr5) (fun b hb => by rw [px_i_wi, if_neg (by omega)]; exact hv4 b hb) ch 0 (63 - ch) _ (by omega) (px_fr.refl _ _) (fun d z => absurd z (Nat.not_lt_zero _)) (fun d _ hd => by rw [px_i_wi, if_neg (by omega), c2.2.1 138 d (by omega)]; exact b3 d hd) (by rw [px_i_wi, if_pos ⟨rfl, rfl⟩]; rfl)
    rw [show 63 - ch + ch + 1 = 64 by omega, nI_0] at d1
    refine ⟨N5, _, by rw [start]; exact d1, fr5.trans (d2.mono fun id k z => by unfold S_cm; omega), fun d hd => ?_, ?_, d4, ?_, fun z => absurd z k2⟩
    · unfold fc; rw [er]; exact d3 d hd
    · rw [d2.2.1 100 48 (by omega), px_i_wi, if_neg (by omega), c3, e8]
    · unfold fc; rw [er]; exact ct_pos ch
/-- who leads, as both answer -/
def wn : Option Nat → Int32
  | none => -3
  | some b => nI b
theorem M_first_l {N : ax_M} (W : px_W nq nu N.2.2) (hn : n < 6) (h4 : ch ≤ 4) (g2 : ax_i N 106 n = nI ch) {f : Nat → Nat} (hf8 : ∀ c, c < ch → f c ≤ 8000 ∧ ax_i N 138 c = nI (f c)) {t : Nat} (h49 : ax_i N 100 49 = an1 t) : ∀ k c g, c + 1 + k = ch → F_M_first_9 (g + k + 1) N (some 100) (nI n) (nI (fi_f f (c + 1))) (nI (c + 1)) = some (if 0 < t then nI (fi_f f ch) else -3, N) := by
  intro k
  induction k with
  | zero =>
    intro c g e
    have : c + 1 = ch := by omega
    rw [this]
    show G_M_first_9 _ N _ _ _ _ = _
    by_cases z : 0 < t
    · have e1 : an1 t = 1 := if_pos z
      rw [e1] at h49
      simp only [G_M_first_9, G_M_first_59, e_M_r10 nq nu W, e_M_rd106 nq nu W hn, g2, Option.bind_some, if_pos (Int32.le_refl _), e_M_gi nq nu W, h49, i32_10, if_false, if_pos z]
    · have e1 : an1 t = 0 := if_neg z
      rw [e1] at h49
      simp only [G_M_first_9, G_M_first_59, e_M_r10 nq nu W, e_M_rd106 nq nu W hn, g2, Option.bind_some, if_pos (Int32.le_refl _), e_M_gi nq nu W, h49, if_true, if_neg z]
  | succ k ih =>
    intro c g e
    have hc : c + 1 < ch := by omega
    have x1 : ¬ nI ch ≤ nI (c + 1) := nI_ge hc (by omega)
    obtain ⟨f1, f2⟩ := hf8 (c + 1) hc
    have hfi := fi_lt (f := f) c
    obtain ⟨f3, f4⟩ := hf8 (fi_f f (c + 1)) (by omega)
    rw [← ih (c + 1) g (by omega)]
    show G_M_first_9 (F_M_first_9 (g + k + 1)) N _ _ _ _ = _
    have ef : fi_f f (c + 1 + 1) = if f (fi_f f (c + 1)) < f (c + 1) then c + 1 else fi_f f (c + 1) := rfl
    have e3 := nI_leI (a := f (c + 1)) (b := f (fi_f f (c + 1))) (by omega) (by omega)
    by_cases z : f (fi_f f (c + 1)) < f (c + 1)
    · rw [if_pos z] at ef
      have z' : ¬ nI (f (c + 1)) ≤ nI (f (fi_f f (c + 1))) := fun q => by have := e3.mp q; omega
      simp only [G_M_first_9, G_M_first_39, e_M_r10 nq nu W, e_M_rd106 nq nu W hn, g2, Option.bind_some, if_neg x1, e_M_r44 nq nu W, e_M_rd138 nq nu W (show c + 1 < 4 by omega), f2, e_M_rd138 nq nu W (show fi_f f (c + 1) < 4 by omega), f4, if_neg z', ef, nI_1]
    · rw [if_neg z] at ef
      have z' : nI (f (c + 1)) ≤ nI (f (fi_f f (c + 1))) := e3.mpr (by omega)
      simp only [G_M_first_9, G_M_first_39, e_M_r10 nq nu W, e_M_rd106 nq nu W hn, g2, Option.bind_some, if_neg x1, e_M_r44 nq nu W, e_M_rd138 nq nu W (show c + 1 < 4 by omega), f2, e_M_rd138 nq nu W (show fi_f f (c + 1) < 4 by omega), f4, if_pos z', ef, nI_1]
theorem M_first {N : ax_M} (W : px_W nq nu N.2.2) (hn : n < 6) (c : cq_p na kd ch w m sp has lk) (g : cq_M N n na kd ch w m sp has) : ∃ N3, f_M_first N (some 100) (nI n) = some (wn (mo_f (fc kd ch w m sp has lk) ch), N3) ∧ px_fr S_cm N N3 ∧ ax_i N3 100 48 = nI (ct (gv (vc kd has sp) w) 8) := by
  have h4 := c.2.2.2.1
  have h2 := c.2.2.1
  obtain ⟨N3, t, a1, a2, a3, a4, a5, a6, _⟩ := M_findCounts W hn c g
  have W3 := a2.W W
  have g3 := g.fr a2
  refine ⟨N3, ?_, a2, a4⟩
  have := M_first_l W3 hn h4 g3.2.2.1 (f := fc kd ch w m sp has lk) (fun d hd => ⟨cn_le c _ d, a3 d hd⟩) a5 (ch - 1) 0 (63 - (ch - 1)) (by omega)
  rw [show 63 - (ch - 1) + (ch - 1) + 1 = 64 by omega, show fi_f (fc kd ch w m sp has lk) (0 + 1) = 0 by have := fi_lt (f := fc kd ch w m sp has lk) 0; omega] at this
  have em := mo_fi (f := fc kd ch w m sp has lk) (ch - 1)
  rw [show ch - 1 + 1 = ch by omega] at em
  have ew : wn (mo_f (fc kd ch w m sp has lk) ch) = if 0 < t then nI (fi_f (fc kd ch w m sp has lk) ch) else -3 := by
    rw [em]
    by_cases z : 0 < t
    · rw [if_pos (a6.mp z), if_pos z]; rfl
    · rw [if_neg (fun q => z (a6.mpr q)), if_neg z]; rfl
  rw [ew]
  have this' : F_M_first_9 64 N3 (some 100) (nI n) 0 1 = _ := this
  simp only [f_M_first, e_M_ob nq nu W, a1, Option.bind_some, this']
/-! passed -/
def ps (mo : Option Nat) (x y : Int32) : Int32 := if mo = some 0 then (if x < y then 0 else 1) else 0
theorem mo_lt {f : Nat → Nat} : ∀ k b, mo_f f k = some b → b < k := by
  intro k
  induction k with
  | zero => intro b z; cases z
  | succ k ih =>
    intro b z
    have z' : (if (match mo_f f k with | none => 0 | some b => f b) < f k then some k else mo_f f k) = some b := z
    by_cases e : (match mo_f f k with | none => 0 | some b => f b) < f k
    · rw [if_pos e] at z'; rw [← Option.some.inj z']; omega
    · rw [if_neg e] at z'; have := ih b z'; omega
theorem V_passed_l {M : ax_M} (W : px_W nq nu M.2.2) (hn : n < nq) (c : cq_p na kd ch w m sp has lk) (g : cq_V M n kd ch w m sp has) (hv : ∀ b, b < 8 → ax_i M 7 b = vi (vc kd has sp b)) (hcn : ∀ d, d < ch → ax_i M 8 d = nI (fc kd ch w m sp has lk d)) : ∀ k a f, a + k = 8 → F_V_isPassed_25 (f + k + 1) M (some 0) (some (10 * n + 1000)) (nI (ct (gv (vc kd has sp) w) a)) (nI (ct w a)) (nI a) = some (ps (mo_f (fc kd ch w m sp has lk) ch) (100 * nI (ct (gv (vc kd has sp) w) 8)) (ax_i M (10 * n + 1000) 4 * nI (ct w 8)), M) := by
  have h4 := c.2.2.2.1
  intro k
  induction k with
  | zero =>
    intro a f e
    have : a = 8 := by omega
    subst this
    show G_V_isPassed_25 _ M _ _ _ _ _ = _
    unfold G_V_isPassed_25
    rw [if_pos (show (8 : Int32) ≤ nI 8 from Int32.le_refl _), e_V_ob nq nu W, Option.bind_some, V_most W hn g.2.1 h4 (f := fc kd ch w m sp has lk) (fun d hd => ⟨cn_le c _ d, hcn d hd⟩), Option.bind_some]
    have ev := vi_eq (o := mo_f (fc kd ch w m sp has lk) ch) (c := 0) (fun x hx => by have := mo_lt ch x hx; omega) (by omega)
    rw [nI_0] at ev
    unfold ps
    by_cases z : mo_f (fc kd ch w m sp has lk) ch = some 0
    · rw [if_pos (ev.mpr z), if_pos z, e_Q_gi nq nu W hn, Option.bind_some, Int32.mul_comm (nI (ct (gv (vc kd has sp) w) 8)) 100]
      by_cases y : 100 * nI (ct (gv (vc kd has sp) w) 8) < ax_i M (10 * n + 1000) 4 * nI (ct w 8)
      · rw [if_pos y, if_pos y]; rfl
      · rw [if_neg y, if_neg y]; rfl
    · rw [if_neg (fun q => z (ev.mp q)), if_neg z]; rfl
  | succ k ih =>
    intro a f e
    have ha : a < 8 := by omega
    have x3 : ¬ (8 : Int32) ≤ nI a := nI_ge (b := 8) ha (by decide)
    rw [← ih (a + 1) f (by omega)]
    show G_V_isPassed_25 (F_V_isPassed_25 (f + k + 1)) M _ _ _ _ _ = _
    have hva := (vi_neg (fun x hx => (c.vc8 ha hx).1)).1
    have gw := (g.2.2 a ha).1
    have es : ct (gv (vc kd has sp) w) (a + 1) = ct (gv (vc kd has sp) w) a + gv (vc kd has sp) w a := rfl
    have es2 : ct w (a + 1) = ct w a + w a := rfl
    rw [es2]
    cases hx : vc kd has sp a with
    | none =>
      have z : vi (vc kd has sp a) = -1 := hva.mpr hx
      have e0 : gv (vc kd has sp) w a = 0 := by unfold gv; rw [hx]
      have es' : ct (gv (vc kd has sp) w) (a + 1) = ct (gv (vc kd has sp) w) a := by rw [es, e0]; rfl
      rw [es']
      simp only [G_V_isPassed_25, G_V_isPassed_63, if_neg x3, e_Q_r5 nq nu W hn, e_Q_rd1 nq nu W hn ha, gw, Option.bind_some, nI_add, e_V_r11 nq nu W, e_V_rd7 nq nu W ha, hv a ha, z, if_true, nI_1]
    | some x =>
      have z : ¬ vi (vc kd has sp a) = -1 := fun q => by rw [hva.mp q] at hx; cases hx
      have e0 : gv (vc kd has sp) w a = w a := by unfold gv; rw [hx]
      rw [es, e0]
      simp only [G_V_isPassed_25, G_V_isPassed_63, if_neg x3, e_Q_r5 nq nu W hn, e_Q_rd1 nq nu W hn ha, gw, Option.bind_some, nI_add, e_V_r11 nq nu W, e_V_rd7 nq nu W ha, hv a ha, if_neg z, nI_1]
theorem V_isPassed {M : ax_M} (W : px_W nq nu M.2.2) (hn : n < nq) (c : cq_p na kd ch w m sp has lk) (g : cq_V M n kd ch w m sp has) : ∃ M3, f_V_isPassed M (some 0) (some (10 * n + 1000)) = some (if ax_i M 0 0 < ax_i M (10 * n + 1000) 3 then 0 else ps (mo_f (fc kd ch w m sp has lk) ch) (100 * nI (ct (gv (vc kd has sp) w) 8)) (ax_i M (10 * n + 1000) 4 * nI (ct w 8)), M3) ∧ px_fr S_cv M M3 := by
  by_cases hl : ax_i M 0 0 < ax_i M (10 * n + 1000) 3
  · refine ⟨M, ?_, px_fr.refl _ M⟩
    rw [if_pos hl]
    simp only [f_V_isPassed, e_V_gi nq nu W, e_Q_gi nq nu W hn, Option.bind_some, if_neg (Int32.not_le.mpr hl)]
  · obtain ⟨M3, a1, a2, a3, a4, _⟩ := V_countVotes W hn c g
    refine ⟨M3, ?_, a2⟩
    have W3 := a2.W W
    have := V_passed_l W3 hn c (g.fr a2) a3 a4 8 0 55 (by omega)
    rw [a2.2.1 (10 * n + 1000) 4 (by unfold S_cv; omega)] at this
    have this' : F_V_isPassed_25 64 M3 (some 0) (some (10 * n + 1000)) 0 0 0 = _ := this
    rw [if_neg hl]
    simp only [f_V_isPassed, e_V_gi nq nu W, e_Q_gi nq nu W hn, Option.bind_some, if_pos (Int32.not_lt.mp hl), e_V_ob nq nu W, a1, this']
theorem M_passed_l {N : ax_M} (W : px_W nq nu N.2.2) (hn : n < 6) (g : cq_M N n na kd ch w m sp has) : ∀ k a f, a + k = 8 → F_M_isPassed_27 (f + k + 1) N (some 100) (nI n) (nI (ct w a)) (nI a) = some (if 100 * ax_i N 100 48 < ax_i N 109 n * nI (ct w 8) then 0 else 1, N) := by
  intro k
  induction k with
  | zero =>
    intro a f e
    have : a = 8 := by omega
    subst this
    show G_M_isPassed_27 _ N _ _ _ _ = _
    unfold G_M_isPassed_27
    rw [if_pos (show (8 : Int32) ≤ nI 8 from Int32.le_refl _), e_M_gi nq nu W, Option.bind_some, e_M_r13 nq nu W, Option.bind_some, e_M_rd109 nq nu W hn, Option.bind_some]
    by_cases y : 100 * ax_i N 100 48 < ax_i N 109 n * nI (ct w 8)
    · rw [if_pos y, if_pos y]; rfl
    · rw [if_neg y, if_neg y]; rfl
  | succ k ih =>
    intro a f e
    have ha : a < 8 := by omega
    have x3 : ¬ (8 : Int32) ≤ nI a := nI_ge (b := 8) ha (by decide)
    rw [← ih (a + 1) f (by omega)]
    show G_M_isPassed_27 (F_M_isPassed_27 (f + k + 1)) N _ _ _ _ = _
    have es2 : ct w (a + 1) = ct w a + w a := rfl
    rw [es2]
    simp only [G_M_isPassed_27, if_neg x3, e_M_ob nq nu W, M_weightOf W hn ha (g.2.2.2 a ha).1, Option.bind_some, nI_add, nI_1]
theorem M_isPassed {N : ax_M} (W : px_W nq nu N.2.2) (hn : n < 6) (c : cq_p na kd ch w m sp has lk) (g : cq_M N n na kd ch w m sp has) : ∃ N3, f_M_isPassed N (some 100) (nI n) = some (if ax_i N 100 1 < ax_i N 108 n then 0 else ps (mo_f (fc kd ch w m sp has lk) ch) (100 * nI (ct (gv (vc kd has sp) w) 8)) (ax_i N 109 n * nI (ct w 8)), N3) ∧ px_fr S_cm N N3 := by
  have h4 := c.2.2.2.1
  by_cases hl : ax_i N 100 1 < ax_i N 108 n
  · refine ⟨N, ?_, px_fr.refl _ N⟩
    rw [if_pos hl]
    simp only [f_M_isPassed, G_M_isPassed_21, e_M_gi nq nu W, e_M_r12 nq nu W, e_M_rd108 nq nu W hn, Option.bind_some, if_pos hl]
  · obtain ⟨N3, a1, a2, a3⟩ := M_first W hn c g
    refine ⟨N3, ?_, a2⟩
    have W3 := a2.W W
    rw [if_neg hl]
    have hw : (wn (mo_f (fc kd ch w m sp has lk) ch) = 0) ↔ mo_f (fc kd ch w m sp has lk) ch = some 0 := by
      cases hm : mo_f (fc kd ch w m sp has lk) ch with
      | none => exact ⟨fun z => absurd z (by show ¬ (-3 : Int32) = 0; decide), fun z => (by cases z)⟩
      | some b =>
        have hb := mo_lt ch b hm
        constructor
        · intro z
          have z' : nI b = nI 0 := z
          rw [(nI_eq (by omega) (by omega)).mp z']
        · intro z
          rw [Option.some.inj z]; rfl
    unfold ps
    by_cases z : mo_f (fc kd ch w m sp has lk) ch = some 0
    · have := M_passed_l W3 hn (g.fr a2) 8 0 55 (by omega)
      rw [a3, a2.2.1 109 n (by unfold S_cm; omega)] at this
      have this' : F_M_isPassed_27 64 N3 (some 100) (nI n) 0 0 = _ := this
      rw [if_pos z]
      simp only [f_M_isPassed, e_M_gi nq nu W, e_M_r12 nq nu W, e_M_rd108 nq nu W hn, Option.bind_some, if_neg hl, e_M_ob nq nu W, a1, if_pos (hw.mpr z), this']
    · rw [if_neg z]
      simp only [f_M_isPassed, G_M_isPassed_21, e_M_gi nq nu W, e_M_r12 nq nu W, e_M_rd108 nq nu W hn, Option.bind_some, if_neg hl, e_M_ob nq nu W, a1, if_neg (fun q => z (hw.mp q))]
end
