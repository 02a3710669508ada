/-! COUNTING: the reference, first steps and the kinds without ranks -/
section
variable {na kd ch n nq nu : Nat} {w m sp : Nat → Nat} {has : Nat → Bool} {lk : Nat → List Nat}
def gv (v : Nat → Option Nat) (w : Nat → Nat) (a : Nat) : Nat := match v a with
  | none => 0
  | some _ => w a
theorem ob_id (x : Option ax_M) : x.bind (fun q => some q) = x := by cases x <;> rfl
theorem M_weightOf {N : ax_M} (W : px_W nq nu N.2.2) (hn : n < 6) {a : Nat} (ha : a < 8) (g : ax_i N 115 (8 * n + a) = nI (w a)) : f_M_weightOf N (some 100) (nI n) (nI a) = some (nI (w a), N) := by
  simp only [f_M_weightOf, e_M_r19 nq nu W, px_8, e_M_rd115 nq nu W (show 8 * n + a < 48 by omega), g, Option.bind_some]
theorem mc_17 {N : ax_M} (W : px_W nq nu N.2.2) : ∀ k c f N', c + k = 4 → px_fr (fun id _ => id = 138) N N' → (∀ d, d < c → ax_i N' 138 d = 0) → ∃ N3, F_M_findCounts_17 (f + k + 1) N' (some 100) (nI n) (nI c) = F_M_findCounts_37 64 N3 (some 100) (nI n) 0 ∧ px_fr (fun id _ => id = 138) N N3 ∧ ∀ d, d < 4 → ax_i N3 138 d = 0 := by
  intro k
  induction k with
  | zero =>
    intro c f N' e fr h1
    have : c = 4 := by omega
    subst this
    refine ⟨N', ?_, fr, h1⟩
    show G_M_findCounts_17 _ N' _ _ _ = _
    simp only [G_M_findCounts_17]
    rw [if_pos (show (4 : Int32) ≤ nI 4 from Int32.le_refl _)]
  | succ k ih =>
    intro c f N' e fr h1
    have W' := fr.W W
    have hc : c < 4 := by omega
    have x3 : ¬ (4 : Int32) ≤ nI c := nI_ge (b := 4) hc (by decide)
    obtain ⟨N3, e1, e2⟩ := ih (c + 1) f (ax_wi N' 138 c 0) (by omega) (fr.wi rfl) (fun d hd => by
      rw [px_i_wi]
      by_cases ed : d = c
      · rw [if_pos ⟨rfl, ed⟩]
      · rw [if_neg (fun z => ed z.2)]; exact h1 d (by omega))
    refine ⟨N3, ?_, e2⟩
    rw [← e1]
    show G_M_findCounts_17 (F_M_findCounts_17 (f + k + 1)) N' _ _ _ = _
    simp only [G_M_findCounts_17, if_neg x3, e_M_r44 nq nu W', e_M_wr138 nq nu W' hc, Option.bind_some, nI_1]
theorem mc_37 {N : ax_M} (W : px_W nq nu N.2.2) (hn : n < 6) (c : cq_p na kd ch w m sp has lk) (g : cq_M N n na kd ch w m sp has) (hv : ∀ b, b < 8 → ax_i N 136 b = vi (vc kd has sp b)) : ∀ k a f N', a + k = na → px_fr (fun id k => id = 100 ∧ k = 48) N N' → ax_i N' 100 48 = nI (ct (gv (vc kd has sp) w) a) → ∃ N3, F_M_findCounts_37 (f + k + 1) N' (some 100) (nI n) (nI a) = (if kd = 2 then f_M_runOff N3 (some 100) (nI n) else F_M_findCounts_102 64 (ax_wi N3 100 49 0) (some 100) (nI n) 0) ∧ px_fr (fun id k => id = 100 ∧ k = 48) N N3 ∧ ax_i N3 100 48 = nI (ct (gv (vc kd has sp) w) na) := by
  have h8 := c.1
  intro k
  induction k with
  | zero =>
    intro a f N' e fr h1
    have : a = na := by omega
    subst this
    have W' := fr.W W
    have g' := g.fr (fr.mono fun id k z => by unfold S_cm; omega)
    refine ⟨N', ?_, fr, h1⟩
    show G_M_findCounts_37 _ N' _ _ _ = _
    have kd2 := (iv_kd kd c.2.1).2.2
    by_cases k2 : kd = 2
    · rw [if_pos k2]
      have e0 : (nI kd = 2) = True := eq_true (kd2.mpr k2)
      simp only [G_M_findCounts_37, e_M_gi nq nu W', g'.1, Option.bind_some, if_pos (Int32.le_refl _), e_M_r9 nq nu W', e_M_rd105 nq nu W' hn, g'.2.1, e0, if_true, e_M_ob nq nu W', ob_id]
    · rw [if_neg k2]
      have e0 : (nI kd = 2) = False := eq_false (fun z => k2 (kd2.mp z))
      simp only [G_M_findCounts_37, e_M_gi nq nu W', g'.1, Option.bind_some, if_pos (Int32.le_refl _), e_M_r9 nq nu W', e_M_rd105 nq nu W' hn, g'.2.1, e0, if_false, e_M_pi nq nu W']
  | succ k ih =>
    intro a f N' e fr h1
    have ha : a < na := by omega
    have a8 : a < 8 := by omega
    have W' := fr.W W
    have g' := g.fr (fr.mono fun id k z => by unfold S_cm; omega)
    have x1 : ¬ nI na ≤ nI a := nI_ge ha (by omega)
    have hva : ax_i N' 136 a = vi (vc kd has sp a) := by rw [fr.2.1 136 a (by omega)]; exact hv a a8
    have es : ct (gv (vc kd has sp) w) (a + 1) = ct (gv (vc kd has sp) w) a + gv (vc kd has sp) w a := rfl
    obtain ⟨N3, e1, e2⟩ := ih (a + 1) f (ax_wi N' 100 48 (nI (ct (gv (vc kd has sp) w) (a + 1)))) (by omega) (fr.wi ⟨rfl, rfl⟩) (by rw [px_i_wi, if_pos ⟨rfl, rfl⟩])
    refine ⟨N3, ?_, e2⟩
    rw [← e1]
    show G_M_findCounts_37 (F_M_findCounts_37 (f + k + 1)) N' _ _ _ = _
    have hn2 := (vi_neg (fun x hx => (c.vc8 a8 hx).1)).2.1
    cases hx : vc kd has sp a with
    | none =>
      have z : (vi (vc kd has sp a) < 0) = True := eq_true (hn2.mpr hx)
      have e0 : gv (vc kd has sp) w a = 0 := by unfold gv; rw [hx]
      have es' : ct (gv (vc kd has sp) w) (a + 1) = ct (gv (vc kd has sp) w) a := by rw [es, e0]; rfl
      rw [es']
      simp only [G_M_findCounts_37, G_M_findCounts_69, e_M_gi nq nu W', g'.1, Option.bind_some, if_neg x1, h1, e_M_r42 nq nu W', e_M_rd136 nq nu W' a8, hva, z, if_true, Int32.add_zero, e_M_pi nq nu W', nI_1]
    | some x =>
      have z : (vi (vc kd has sp a) < 0) = False := eq_false (fun q => by rw [hn2.mp q] at hx; cases hx)
      have e0 : gv (vc kd has sp) w a = w a := by unfold gv; rw [hx]
      rw [es, e0]
      simp only [G_M_findCounts_37, G_M_findCounts_69, e_M_gi nq nu W', g'.1, Option.bind_some, if_neg x1, h1, e_M_r42 nq nu W', e_M_rd136 nq nu W' a8, hva, z, if_false, e_M_ob nq nu W', M_weightOf W' hn a8 (g'.2.2.2 a a8).1, nI_add, e_M_pi nq nu W', nI_1]
/-- one account's part in a choice's count -/
theorem mc_114s {N : ax_M} (W : px_W nq nu N.2.2) (hn : n < 6) (c : cq_p na kd ch w m sp has lk) (k2 : kd ≠ 2) (g : cq_M N n na kd ch w m sp has) (hv : ∀ b, b < 8 → ax_i N 136 b = vi (vc kd has sp b)) {cc t : Nat} (hc : cc < 4) (ht : ax_i N 138 cc = nI t) {s : Nat} {a : Nat} (ha : a < na) (rec102 : ax_M → Option Nat → Int32 → Int32 → Option (ax_M)) (rec114 : ax_M → Option Nat → Int32 → Int32 → Int32 → Option (ax_M)) : ∃ N2, G_M_findCounts_114 rec102 rec114 N (some 100) (nI n) (nI cc) (nI a) = rec114 N2 (some 100) (nI n) (nI cc) (nI (a + 1)) ∧ px_fr (fun id k => id = 138 ∧ k = cc) N N2 ∧ ax_i N2 138 cc = nI (t + ca kd (vc kd has sp) w m lk s cc a) := by
  have h8 := c.1
  have a8 : a < 8 := by omega
  have x1 : ¬ nI na ≤ nI a := nI_ge ha (by omega)
  have hn2 := (vi_neg (fun x hx => (c.vc8 a8 hx).1)).2.1
  obtain ⟨q0, q1, _⟩ := iv_kd kd c.2.1
  cases hx : vc kd has sp a with
  | none =>
    have z : (vi (vc kd has sp a) < 0) = True := eq_true (hn2.mpr hx)
    have e0 : ca kd (vc kd has sp) w m lk s cc a = 0 := by unfold ca; rw [hx]
    refine ⟨N, ?_, px_fr.refl _ N, by rw [e0]; exact ht⟩
    simp only [G_M_findCounts_114, G_M_findCounts_221, e_M_gi nq nu W, g.1, Option.bind_some, if_neg x1, e_M_r42 nq nu W, e_M_rd136 nq nu W a8, hv a a8, z, if_true, nI_1]
  | some x =>
    obtain ⟨h1, h2, _⟩ := c.lk2 a8 hx
    have hh := (c.vc8 a8 hx).2
    have z2 : vi (vc kd has sp a) = nI x := by rw [hx]; rfl
    have z : (nI x < 0) = False := eq_false (nI_pos (by omega))
    have e0 : ca kd (vc kd has sp) w m lk s cc a = sh_n kd s cc (m x) (lk x) (w a) := by unfold ca; rw [hx]
    have gm := (g.2.2.2 x h1).2.2.1 hh
    have gw := (g.2.2.2 a a8).1
    have hi : 8 * n + x < 48 := by omega
    refine ⟨ax_wi N 138 cc (nI (t + ca kd (vc kd has sp) w m lk s cc a)), ?_, (px_fr.refl _ N).wi ⟨rfl, rfl⟩, by rw [px_i_wi, if_pos ⟨rfl, rfl⟩]⟩
    rw [e0]
    unfold sh_n
    by_cases k0 : kd = 0
    · have e1 : (nI kd = 0) = True := eq_true (q0.mpr k0)
      rw [if_pos k0]
      by_cases y : m x = cc
      · have y' : (nI (m x) = nI cc) = True := eq_true (by rw [y])
        rw [if_pos y]
        simp only [G_M_findCounts_114, G_M_findCounts_219, G_M_findCounts_221, e_M_gi nq nu W, g.1, Option.bind_some, if_neg x1, e_M_r42 nq nu W, e_M_rd136 nq nu W a8, hv a a8, z2, z, if_false, e_M_r21 nq nu W, px_8, e_M_rd117 nq nu W hi, gm, e_M_r44 nq nu W, e_M_rd138 nq nu W hc, ht, e_M_r9 nq nu W, e_M_rd105 nq nu W hn, g.2.1, e1, if_true, y', e_M_ob nq nu W, M_weightOf W hn a8 gw, nI_add, e_M_wr138 nq nu W hc, nI_1]
      · have y' : (nI (m x) = nI cc) = False := eq_false (fun q => y ((nI_eq h2 (by omega)).mp q))
        rw [if_neg y, Nat.add_zero]
        simp only [G_M_findCounts_114, G_M_findCounts_219, G_M_findCounts_221, e_M_gi nq nu W, g.1, Option.bind_some, if_neg x1, e_M_r42 nq nu W, e_M_rd136 nq nu W a8, hv a a8, z2, z, if_false, e_M_r21 nq nu W, px_8, e_M_rd117 nq nu W hi, gm, e_M_r44 nq nu W, e_M_rd138 nq nu W hc, ht, e_M_r9 nq nu W, e_M_rd105 nq nu W hn, g.2.1, e1, if_true, y', Int32.add_zero, e_M_wr138 nq nu W hc, nI_1]
    rw [if_neg k0]
    have e1 : (nI kd = 0) = False := eq_false (fun q => k0 (q0.mp q))
    by_cases k1 : kd = 1
    · have e2 : (nI kd = 1) = True := eq_true (q1.mpr k1)
      rw [if_pos k1]
      have eb : ((nI (m x) >>> (nI cc &&& 31)) &&& 1) * nI (w a) = nI (if m x / 2 ^ cc % 2 = 0 then 0 else w a) := by
        rw [bt h2 hc, pk_mul]
        by_cases y : m x / 2 ^ cc % 2 = 0
        · rw [if_pos y, y, Nat.zero_mul]
        · rw [if_neg y, show m x / 2 ^ cc % 2 = 1 by omega, Nat.one_mul]
      simp only [G_M_findCounts_114, G_M_findCounts_219, G_M_findCounts_221, e_M_gi nq nu W, g.1, Option.bind_some, if_neg x1, e_M_r42 nq nu W, e_M_rd136 nq nu W a8, hv a a8, z2, z, if_false, e_M_r21 nq nu W, px_8, e_M_rd117 nq nu W hi, gm, e_M_r44 nq nu W, e_M_rd138 nq nu W hc, ht, e_M_r9 nq nu W, e_M_rd105 nq nu W hn, g.2.1, e1, e2, if_true, e_M_ob nq nu W, M_weightOf W hn a8 gw, eb, nI_add, e_M_wr138 nq nu W hc, nI_1]
    · rw [if_neg k1, if_neg k2]
      have e2 : (nI kd = 1) = False := eq_false (fun q => k1 (q1.mp q))
      have eb : ((nI (m x) >>> ((5 * nI cc) &&& 31)) &&& 31) = nI (m x / 32 ^ cc % 32) := by
        have := V_strengthOf N h2 hc
        unfold f_V_strengthOf at this
        exact congrArg Prod.fst (Option.some.inj this)
      simp only [G_M_findCounts_114, G_M_findCounts_219, G_M_findCounts_221, e_M_gi nq nu W, g.1, Option.bind_some, if_neg x1, e_M_r42 nq nu W, e_M_rd136 nq nu W a8, hv a a8, z2, z, if_false, e_M_r21 nq nu W, px_8, e_M_rd117 nq nu W hi, gm, e_M_r44 nq nu W, e_M_rd138 nq nu W hc, ht, e_M_r9 nq nu W, e_M_rd105 nq nu W hn, g.2.1, e1, e2, eb, nI_add, e_M_wr138 nq nu W hc, nI_1]
def an1 (t : Nat) : Int32 := if 0 < t then 1 else 0
theorem mc_114 {N : ax_M} (W : px_W nq nu N.2.2) (hn : n < 6) (c : cq_p na kd ch w m sp has lk) (k2 : kd ≠ 2) (g : cq_M N n na kd ch w m sp has) (hv : ∀ b, b < 8 → ax_i N 136 b = vi (vc kd has sp b)) {cc u s : Nat} (hc : cc < 4) (h49 : ax_i N 100 49 = an1 u) (rec102 : ax_M → Option Nat → Int32 → Int32 → Option (ax_M)) : ∀ k a f N', a + k = na → px_fr (fun id k => id = 138 ∧ k = cc) N N' → ax_i N' 138 cc = nI (ct (ca kd (vc kd has sp) w m lk s cc) a) → ∃ N3, F_M_findCounts_114 rec102 (f + k + 1) N' (some 100) (nI n) (nI cc) (nI a) = rec102 (ax_wi N3 100 49 (an1 (u + cn kd (vc kd has sp) w m lk s cc))) (some 100) (nI n) (nI (cc + 1)) ∧ px_fr (fun id k => id = 138 ∧ k = cc) N N3 ∧ ax_i N3 138 cc = nI (cn kd (vc kd has sp) w m lk s cc) := by
  have h8 := c.1
  have e8 : cn kd (vc kd has sp) w m lk s cc = ct (ca kd (vc kd has sp) w m lk s cc) na := by
    have := ct_z (f := ca kd (vc kd has sp) w m lk s cc) (n := na) (8 - na) (fun a h1 h2 => by unfold ca; rw [c.vcna (by omega) h1])
    rw [show na + (8 - na) = 8 by omega] at this
    exact this
  intro k
  induction k with
  | zero =>
    intro a f N' e fr h1
    have : a = na := by omega
    subst this
    have W' := fr.W W
    have g' := g.fr (fr.mono fun id k z => by unfold S_cm; omega)
    rw [← e8] at h1
    refine ⟨N', ?_, fr, h1⟩
    show G_M_findCounts_114 rec102 _ N' _ _ _ _ = _
    have h49' : ax_i N' 100 49 = an1 u := by rw [fr.2.1 100 49 (by omega)]; exact h49
    have hle := cn_le c s cc
    by_cases zu : 0 < u
    · have eu : an1 u = 1 := if_pos zu
      have eu2 : an1 (u + cn kd (vc kd has sp) w m lk s cc) = 1 := if_pos (by omega)
      rw [eu] at h49'
      simp only [G_M_findCounts_114, G_M_findCounts_244, G_M_findCounts_249, e_M_gi nq nu W', g'.1, Option.bind_some, if_pos (Int32.le_refl _), h49', i32_10, if_false, px_bo1, e_M_pi nq nu W', nI_1, eu2]
    · have eu : an1 u = 0 := if_neg zu
      rw [eu] at h49'
      by_cases zc : 0 < cn kd (vc kd has sp) w m lk s cc
      · have eu2 : an1 (u + cn kd (vc kd has sp) w m lk s cc) = 1 := if_pos (by omega)
        have zc' : (nI (cn kd (vc kd has sp) w m lk s cc) ≤ 0) = False := eq_false (nI_nle zc (by omega))
        simp only [G_M_findCounts_114, G_M_findCounts_244, G_M_findCounts_249, e_M_gi nq nu W', g'.1, Option.bind_some, if_pos (Int32.le_refl _), h49', if_true, e_M_r44 nq nu W', e_M_rd138 nq nu W' hc, h1, zc', if_false, px_bo1, e_M_pi nq nu W', nI_1, eu2]
      · have eu2 : an1 (u + cn kd (vc kd has sp) w m lk s cc) = 0 := if_neg (by omega)
        have zc' : (nI (cn kd (vc kd has sp) w m lk s cc) ≤ 0) = True := eq_true (by rw [show cn kd (vc kd has sp) w m lk s cc = 0 by omega, nI_0]; exact Int32.le_refl _)
        simp only [G_M_findCounts_114, G_M_findCounts_249, e_M_gi nq nu W', g'.1, Option.bind_some, if_pos (Int32.le_refl _), h49', if_true, e_M_r44 nq nu W', e_M_rd138 nq nu W' hc, h1, zc', px_bo0, e_M_pi nq nu W', nI_1, eu2]
  | succ k ih =>
    intro a f N' e fr h1
    have W' := fr.W W
    have g' := g.fr (fr.mono fun id k z => by unfold S_cm; omega)
    have hv' : ∀ b, b < 8 → ax_i N' 136 b = vi (vc kd has sp b) := fun b hb => by rw [fr.2.1 136 b (by omega)]; exact hv b hb
    obtain ⟨N2, q1, q2, q3⟩ := mc_114s (s := s) W' hn c k2 g' hv' hc h1 (show a < na by omega) rec102 (F_M_findCounts_114 rec102 (f + k + 1))
    obtain ⟨N3, r1, r2⟩ := ih (a + 1) f N2 (by omega) (fr.trans q2) q3
    exact ⟨N3, q1.trans r1, r2⟩
theorem mc_102 {N : ax_M} (W : px_W nq nu N.2.2) (hn : n < 6) (c : cq_p na kd ch w m sp has lk) (k2 : kd ≠ 2) (g : cq_M N n na kd ch w m sp has) (hv : ∀ b, b < 8 → ax_i N 136 b = vi (vc kd has sp b)) {s : Nat} : ∀ k cc f N', cc + k = ch → px_fr (fun id k => id = 138 ∨ (id = 100 ∧ k = 49)) N N' → (∀ d, d < cc → ax_i N' 138 d = nI (cn kd (vc kd has sp) w m lk s d)) → (∀ d, cc ≤ d → d < 4 → ax_i N' 138 d = 0) → ax_i N' 100 49 = an1 (ct (cn kd (vc kd has sp) w m lk s) cc) → ∃ N3, F_M_findCounts_102 (f + k + 1) N' (some 100) (nI n) (nI cc) = some N3 ∧ px_fr (fun id k => id = 138 ∨ (id = 100 ∧ k = 49)) N N3 ∧ (∀ d, d < ch → ax_i N3 138 d = nI (cn kd (vc kd has sp) w m lk s d)) ∧ ax_i N3 100 49 = an1 (ct (cn kd (vc kd has sp) w m lk s) ch) := by
  have h8 := c.1
  have h4 := c.2.2.2.1
  intro k
  induction k with
  | zero =>
    intro cc f N' e fr h1 h2 h3
    have : cc = ch := by omega
    subst this
    have W' := fr.W W
    have g' := g.fr (fr.mono fun id k z => by unfold S_cm; omega)
    refine ⟨N', ?_, fr, h1, h3⟩
    show G_M_findCounts_102 _ N' _ _ _ = _
    simp only [G_M_findCounts_102, e_M_r10 nq nu W', e_M_rd106 nq nu W' hn, g'.2.2.1, Option.bind_some, if_pos (Int32.le_refl _)]
  | succ k ih =>
    intro cc f N' e fr h1 h2 h3
    have W' := fr.W W
    have g' := g.fr (fr.mono fun id k z => by unfold S_cm; omega)
    have hv' : ∀ b, b < 8 → ax_i N' 136 b = vi (vc kd has sp b) := fun b hb => by rw [fr.2.1 136 b (by omega)]; exact hv b hb
    have x1 : ¬ nI ch ≤ nI cc := nI_ge (by omega) (by omega)
    have hc : cc < 4 := by omega
    obtain ⟨N2, q1, q2, q3⟩ := mc_114 (s := s) W' hn c k2 g' hv' hc h3 (F_M_findCounts_102 (f + k + 1)) na 0 (63 - na) N' (by omega) (px_fr.refl _ N') (h2 cc (Nat.le_refl _) hc)
    rw [show 63 - na + na + 1 = 64 by omega, nI_0] at q1
    have fr2 : px_fr (fun id k => id = 138 ∨ (id = 100 ∧ k = 49)) N (ax_wi N2 100 49 (an1 (ct (cn kd (vc kd has sp) w m lk s) cc + cn kd (vc kd has sp) w m lk s cc))) := (fr.trans (q2.mono fun id k z => Or.inl z.1)).wi (Or.inr ⟨rfl, rfl⟩)
    obtain ⟨N3, r1, r2⟩ := ih (cc + 1) f _ (by omega) fr2 (fun d hd => by
      rw [px_i_wi, if_neg (by omega)]
      by_cases ed : d = cc
      · rw [ed]; exact q3
      · rw [q2.2.1 138 d (by omega)]; exact h1 d (by omega)) (fun d h5 h6 => by rw [px_i_wi, if_neg (by omega), q2.2.1 138 d (by omega)]; exact h2 d (by omega) h6) (by rw [px_i_wi, if_pos ⟨rfl, rfl⟩]; rfl)
    refine ⟨N3, ?_, r2⟩
    rw [← r1, ← q1]
    show G_M_findCounts_102 (F_M_findCounts_102 (f + k + 1)) N' _ _ _ = _
    simp only [G_M_findCounts_102, e_M_r10 nq nu W', e_M_rd106 nq nu W' hn, g'.2.2.1, Option.bind_some, if_neg x1]
end
