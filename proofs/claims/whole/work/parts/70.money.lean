/-! MONEY: funds (id x), set aside (id y), the pot (id z, place w) -/
def px_up {α : Type} (f : Nat → α) (j : Nat) (v : α) : Nat → α := fun a => if a = j then v else f a
def px_cut {α : Type} (k : Nat) (f g : Nat → α) : Nat → α := fun a => if a < k then f a else g a
def px_sl (f : Nat → Int64) : Nat → Int64
  | 0 => 0
  | k + 1 => px_sl f k + f k
def mo_r (x y z w : Nat) (M M' : ax_M) (F A : Nat → Int64) (P : Int64) : Prop := M'.2.2 = M.2.2 ∧ (∀ id k, ax_i M' id k = ax_i M id k) ∧ (∀ id k, ¬ (id = x ∧ k < 8) → ¬ (id = y ∧ k < 8) → ¬ (id = z ∧ k = w) → ax_l M' id k = ax_l M id k) ∧ (∀ a, a < 8 → ax_l M' x a = F a) ∧ (∀ a, a < 8 → ax_l M' y a = A a) ∧ ax_l M' z w = P
section
variable {x y z w : Nat} {M M' : ax_M} {F A F' A' : Nat → Int64} {P P' : Int64}
theorem mo_r.refl : mo_r x y z w M M (ax_l M x) (ax_l M y) (ax_l M z w) := ⟨rfl, fun _ _ => rfl, fun _ _ _ _ _ => rfl, fun _ _ => rfl, fun _ _ => rfl, rfl⟩
theorem mo_r.cg (g : mo_r x y z w M M' F A P) (hF : ∀ a, a < 8 → F a = F' a) (hA : ∀ a, a < 8 → A a = A' a) (hP : P = P') : mo_r x y z w M M' F' A' P' :=
  ⟨g.1, g.2.1, g.2.2.1, fun a ha => (g.2.2.2.1 a ha).trans (hF a ha), fun a ha => (g.2.2.2.2.1 a ha).trans (hA a ha), g.2.2.2.2.2.trans hP⟩
theorem mo_r.W {nq nu : Nat} (g : mo_r x y z w M M' F A P) (h : px_W nq nu M.2.2) : px_W nq nu M'.2.2 := by rw [g.1]; exact h
theorem mo_r.pay (g : mo_r x y z w M M' F A P) (h1 : x ≠ y) (h2 : x ≠ z) (h3 : y ≠ z) {j : Nat} (hj : j < 8) (s : Int64) : mo_r x y z w M (ax_wl (ax_wl M' y j (ax_l M' y j - s)) z w (ax_l M' z w + s)) F (px_up A j (A j - s)) (P + s) := by
  obtain ⟨g1, g2, g3, g4, g5, g6⟩ := g
  refine ⟨g1, fun id k => ?_, fun id k q1 q2 q3 => ?_, fun a ha => ?_, fun a ha => ?_, ?_⟩
  · rw [px_i_wl, px_i_wl]; exact g2 id k
  · rw [px_l_wl, px_l_wl, if_neg q3, if_neg (fun v => q2 ⟨v.1, by omega⟩)]; exact g3 id k q1 q2 q3
  · rw [px_l_wl, px_l_wl, if_neg (fun v => h2 v.1), if_neg (fun v => h1 v.1)]; exact g4 a ha
  · rw [px_l_wl, px_l_wl, if_neg (fun v => h3 v.1)]
    by_cases e : a = j
    · rw [if_pos ⟨rfl, e⟩, g5 j hj, px_up, if_pos e]
    · rw [if_neg (fun v => e v.2), g5 a ha, px_up, if_neg e]
  · rw [px_l_wl, if_pos ⟨rfl, rfl⟩, g6]
theorem mo_r.give (g : mo_r x y z w M M' F A P) (h1 : x ≠ y) (h2 : x ≠ z) (h3 : y ≠ z) {j : Nat} (hj : j < 8) (s t : Int64) : mo_r x y z w M (ax_wl (ax_wl M' y j (ax_l M' y j - s)) x j (ax_l M' x j + t)) (px_up F j (F j + t)) (px_up A j (A j - s)) P := by
  obtain ⟨g1, g2, g3, g4, g5, g6⟩ := g
  refine ⟨g1, fun id k => ?_, fun id k q1 q2 q3 => ?_, fun a ha => ?_, fun a ha => ?_, ?_⟩
  · rw [px_i_wl, px_i_wl]; exact g2 id k
  · rw [px_l_wl, px_l_wl, if_neg (fun v => q1 ⟨v.1, by omega⟩), if_neg (fun v => q2 ⟨v.1, by omega⟩)]; exact g3 id k q1 q2 q3
  · by_cases e : a = j
    · rw [px_l_wl, if_pos ⟨rfl, e⟩, g4 j hj, px_up, if_pos e]
    · rw [px_l_wl, if_neg (fun v => e v.2), px_l_wl, if_neg (fun v => h1 v.1), g4 a ha, px_up, if_neg e]
  · rw [px_l_wl, px_l_wl, if_neg (fun v => h1 v.1.symm)]
    by_cases e : a = j
    · rw [if_pos ⟨rfl, e⟩, g5 j hj, px_up, if_pos e]
    · rw [if_neg (fun v => e v.2), g5 a ha, px_up, if_neg e]
  · rw [px_l_wl, px_l_wl, if_neg (fun v => h2 v.1.symm), if_neg (fun v => h3 v.1.symm), g6]
end
theorem px_cut_k {α : Type} {f g : Nat → α} (k : Nat) : px_cut k f g k = g k := if_neg (Nat.lt_irrefl k)
theorem px_cut_up {α : Type} {f g : Nat → α} (k : Nat) (v : α) (hv : v = f k) (a : Nat) : px_up (px_cut k f g) k v a = px_cut (k + 1) f g a := by
  unfold px_up px_cut
  by_cases e : a = k
  · rw [if_pos e, if_pos (by omega), hv, e]
  · rw [if_neg e]
    by_cases e2 : a < k
    · rw [if_pos e2, if_pos (by omega)]
    · rw [if_neg e2, if_neg (by omega)]
theorem px_cut_s {α : Type} {f g : Nat → α} (k : Nat) (hv : g k = f k) (a : Nat) : px_cut k f g a = px_cut (k + 1) f g a := by
  unfold px_cut
  by_cases e2 : a < k
  · rw [if_pos e2, if_pos (by omega)]
  · by_cases e : a = k
    · rw [if_neg e2, if_pos (by omega), e, hv]
    · rw [if_neg e2, if_neg (by omega)]
theorem px_cut_0 {α : Type} {f g : Nat → α} (a : Nat) : g a = px_cut 0 f g a := (if_neg (Nat.not_lt_zero a)).symm
theorem px_cut_8 {α : Type} {f g : Nat → α} (a : Nat) (h : a < 8) : px_cut 8 f g a = f a := if_pos h
theorem i64_5 (a b c : Int64) : a + b + c = a + (b + c) := Int64.add_assoc a b c
theorem i64_6 (a b c : Int64) : a + c + (b - c) = a + b := by grind
theorem px_sl_0 {f : Nat → Int64} : ∀ k, (∀ a, a < k → f a = 0) → px_sl f k = 0 := by
  intro k
  induction k with
  | zero => intro _; rfl
  | succ k ih => intro h; rw [px_sl, ih (fun a ha => h a (by omega)), h k (by omega), Int64.zero_add]
theorem px_sl_cg {f g : Nat → Int64} : ∀ k, (∀ a, a < k → f a = g a) → px_sl f k = px_sl g k := by
  intro k
  induction k with
  | zero => intro _; rfl
  | succ k ih => intro h; rw [px_sl, px_sl, ih (fun a ha => h a (by omega)), h k (by omega)]
theorem px_sl_cut {f : Nat → Int64} {n : Nat} : ∀ k, (∀ a, n ≤ a → a < n + k → f a = 0) → px_sl f (n + k) = px_sl f n := by
  intro k
  induction k with
  | zero => intro _; rfl
  | succ k ih => intro h; rw [show n + (k + 1) = (n + k) + 1 by omega, px_sl, ih (fun a h1 h2 => h a h1 (by omega)), h (n + k) (by omega) (by omega), Int64.add_zero]
theorem px_sl_1 {f : Nat → Int64} {b : Nat} : ∀ k, b < k → (∀ a, a < k → a ≠ b → f a = 0) → px_sl f k = f b := by
  intro k
  induction k with
  | zero => intro h _; omega
  | succ k ih =>
    intro hb h
    rw [px_sl]
    by_cases e : b = k
    · rw [px_sl_0 k (fun a ha => h a (by omega) (by omega)), Int64.zero_add, e]
    · rw [ih (by omega) (fun a ha he => h a (by omega) he), h k (by omega) (fun z => e z.symm), Int64.add_zero]
/-! the class: marks that were never opened are paid; bids are settled -/
section
variable {nq nu n : Nat} {M : ax_M} {F A : Nat → Int64} {P : Int64}
theorem V_payUnopened_l {td p : Nat → Nat} {le : Nat} (h : px_W nq nu M.2.2) (hn : n < nu) (h1 : ∀ a, a < 8 → ax_i M (10 * n + 2001) a = nI (td a) ∧ td a < 2 ^ 31 ∧ ax_i M (10 * n + 2004) a = nI (p a) ∧ p a < 2 ^ 31) (hle : ax_i M (10 * n + 2000) 2 = nI le) (hle2 : le < 2 ^ 31) {un : Nat → Int64} (hun : ∀ a, un a = if td a ≠ 0 ∧ p a = 0 then lN le else 0) : ∀ k a f M', a + k = 8 → mo_r 2 3 0 1 M M' F (px_cut a (fun a => A a - un a) A) (P + px_sl un a) → ∃ M'', F_V_payUnopened_2 (f + k + 1) M' (some 0) (some (10 * n + 2000)) (nI a) = some M'' ∧ mo_r 2 3 0 1 M M'' F (fun a => A a - un a) (P + px_sl un 8) := by
  intro k
  induction k with
  | zero =>
    intro a f M' e g
    have : a = 8 := by omega
    subst this
    refine ⟨M', ?_, g.cg (fun _ _ => rfl) (fun a ha => px_cut_8 a ha) rfl⟩
    show G_V_payUnopened_2 _ M' _ _ _ = _
    simp only [G_V_payUnopened_2]
    rw [if_pos (show (8 : Int32) ≤ nI 8 from Int32.le_refl _)]
  | succ k ih =>
    intro a f M' e g
    have ha : a < 8 := by omega
    obtain ⟨q1, q2, q3, q4⟩ := h1 a ha
    rw [← g.2.1] at q1 q3 hle
    have h' := g.W h
    have x1 : nI (td a) = 0 ↔ td a = 0 := nI_eq (b := 0) q2 (by decide)
    have x2 : nI (p a) = 0 ↔ p a = 0 := nI_eq (b := 0) q4 (by decide)
    have x3 : ¬ (8 : Int32) ≤ nI a := nI_ge (b := 8) ha (by decide)
    by_cases hc : td a ≠ 0 ∧ p a = 0
    · have hu : un a = lN le := by rw [hun, if_pos hc]
      obtain ⟨M'', e1, e2⟩ := ih (a + 1) f _ (by omega) ((g.pay (by decide) (by decide) (by decide) ha (lN le)).cg (fun _ _ => rfl) (fun b hb => px_cut_up a _ (by rw [px_cut_k, hu]) b) (by rw [px_sl, hu, i64_5]))
      refine ⟨M'', ?_, e2⟩
      rw [← e1]
      show G_V_payUnopened_2 (F_V_payUnopened_2 (f + k + 1)) M' _ _ _ = _
      simp only [G_V_payUnopened_2, G_V_payUnopened_36, if_neg x3, e_A_r6 nq nu h' hn, e_A_rd1 nq nu h' hn ha, e_A_r9 nq nu h' hn, e_A_rd4 nq nu h' hn ha, e_A_gi nq nu h' hn, e_V_ob nq nu h', Option.bind_some, q1, q3, hle, x1, x2, if_pos hc.2, if_neg hc.1, nI_l hle2, V_payAside nq nu h' ha, nI_1]
    · have hu : un a = 0 := by rw [hun, if_neg hc]
      obtain ⟨M'', e1, e2⟩ := ih (a + 1) f M' (by omega) (g.cg (fun _ _ => rfl) (fun b hb => px_cut_s a (by rw [hu, Int64.sub_zero]) b) (by rw [px_sl, hu, Int64.add_zero]))
      refine ⟨M'', ?_, e2⟩
      rw [← e1]
      show G_V_payUnopened_2 (F_V_payUnopened_2 (f + k + 1)) M' _ _ _ = _
      by_cases y1 : td a = 0
      · simp only [G_V_payUnopened_2, G_V_payUnopened_36, if_neg x3, e_A_r6 nq nu h' hn, e_A_rd1 nq nu h' hn ha, Option.bind_some, q1, x1, if_pos y1, nI_1]
      · have y2 : ¬ p a = 0 := fun z => hc ⟨y1, z⟩
        simp only [G_V_payUnopened_2, G_V_payUnopened_36, if_neg x3, e_A_r6 nq nu h' hn, e_A_rd1 nq nu h' hn ha, e_A_r9 nq nu h' hn, e_A_rd4 nq nu h' hn ha, Option.bind_some, q1, q3, x1, x2, if_neg y1, if_neg y2, nI_1]
theorem V_settle_l {u p wn : Nat → Nat} {kp : Nat} (h : px_W nq nu M.2.2) (hn : n < nu) (h1 : ∀ a, a < 8 → ax_i M (10 * n + 2003) a = nI (u a) ∧ ax_i M (10 * n + 2004) a = nI (p a) ∧ ax_i M (10 * n + 2005) a = nI (wn a)) (hkp : ax_i M (10 * n + 2000) 13 = nI kp) {cs pd : Nat → Int64} (hcs : ∀ a, cs a = (nI (u a)).toInt64 * (nI (p a)).toInt64) (hpd : ∀ a, pd a = (nI (wn a)).toInt64 * (nI kp).toInt64) : ∀ k a f M', a + k = 8 → mo_r 2 3 0 1 M M' (px_cut a (fun a => F a + (cs a - pd a)) F) (px_cut a (fun a => A a - pd a - (cs a - pd a)) A) (P + px_sl pd a) → ∃ M'', F_V_settleBids_2 (f + k + 1) M' (some 0) (some (10 * n + 2000)) (nI a) = some M'' ∧ mo_r 2 3 0 1 M M'' (fun a => F a + (cs a - pd a)) (fun a => A a - pd a - (cs a - pd a)) (P + px_sl pd 8) := by
  intro k
  induction k with
  | zero =>
    intro a f M' e g
    have : a = 8 := by omega
    subst this
    refine ⟨M', ?_, g.cg (fun a ha => px_cut_8 a ha) (fun a ha => px_cut_8 a ha) rfl⟩
    show G_V_settleBids_2 _ M' _ _ _ = _
    simp only [G_V_settleBids_2]
    rw [if_pos (show (8 : Int32) ≤ nI 8 from Int32.le_refl _)]
  | succ k ih =>
    intro a f M' e g
    have ha : a < 8 := by omega
    obtain ⟨q1, q2, q3⟩ := h1 a ha
    rw [← g.2.1] at q1 q2 q3 hkp
    have h' := g.W h
    have x3 : ¬ (8 : Int32) ≤ nI a := nI_ge (b := 8) ha (by decide)
    have g1 := (g.pay (by decide) (by decide) (by decide) ha (pd a)).give (by decide) (by decide) (by decide) ha (cs a - pd a) (cs a - pd a)
    obtain ⟨M'', e1, e2⟩ := ih (a + 1) f _ (by omega) (g1.cg (F' := px_cut (a + 1) (fun a => F a + (cs a - pd a)) F) (A' := px_cut (a + 1) (fun a => A a - pd a - (cs a - pd a)) A) (P' := P + px_sl pd (a + 1)) (fun b hb => px_cut_up a _ (by rw [px_cut_k]) b) (fun b hb => by
      unfold px_up px_cut
      by_cases e : b = a
      · subst e
        simp
      · by_cases e2 : b < a
        · rw [if_neg e, if_neg e, if_pos e2, if_pos (by omega)]
        · rw [if_neg e, if_neg e, if_neg e2, if_neg (by omega)]) (by rw [px_sl, i64_5]))
    refine ⟨M'', ?_, e2⟩
    rw [← e1]
    show G_V_settleBids_2 (F_V_settleBids_2 (f + k + 1)) M' _ _ _ = _
    have h2 : px_W nq nu (ax_wl (ax_wl M' 3 a (ax_l M' 3 a - pd a)) 0 1 (ax_l M' 0 1 + pd a)).2.2 := h'
    simp only [G_V_settleBids_2, if_neg x3, e_A_ob nq nu h' hn, A_costOf nq nu h' hn ha, e_A_r10 nq nu h' hn, e_A_rd5 nq nu h' hn ha, e_A_gi nq nu h' hn, e_V_ob nq nu h', Option.bind_some, q1, q2, q3, hkp, ← hcs, ← hpd, V_payAside nq nu h' ha, e_V_ob nq nu h2, V_giveBack nq nu h2 ha, nI_1]
end
