/-! QUESTION: new cells -/
section
variable (M : ax_M) (a b j : Nat)
theorem px_i_wn (x : ax_X) : ax_i (ax_wn M a x) b j = if b = a then 0 else ax_i M b j := Eq.trans rfl rfl
theorem px_l_wn (x : ax_X) : ax_l (ax_wn M a x) b j = if b = a then 0 else ax_l M b j := Eq.trans rfl rfl
theorem px_r_wn (x : ax_X) : ax_r (ax_wn M a x) b j = if b = a then none else ax_r M b j := Eq.trans rfl rfl
theorem px_s_wn (x : ax_X) : ax_s (ax_wn M a x) b = if b = a then some x else ax_s M b := Eq.trans rfl rfl
end
theorem k_ti {M : ax_M} {id n t i : Nat} {v : Int32} (s : ax_s M id = some (.inr (t, n))) (hi : i < n) (hn : n ≤ 48) : ax_ti M t (some id) (nI i) v = some (ax_wi M id i v) := by
  simp [ax_ti, ax_ix_some s (vp_in_nI hi (by omega)), nI_clamp (show i < 2 ^ 31 by omega)]
theorem k_gr {M : ax_M} {o ci k : Nat} (s : ax_s M o = some (.inl ci)) : ax_gr M ci k (some o) = some (ax_r M o k) := by simp [ax_gr, ax_ob, s]
theorem k_gi {M : ax_M} {o ci k : Nat} (s : ax_s M o = some (.inl ci)) : ax_gi M ci k (some o) = some (ax_i M o k) := by simp [ax_gi, ax_ob, s]
theorem k_pi {M : ax_M} {o ci k : Nat} {v : Int32} (s : ax_s M o = some (.inl ci)) : ax_pi M ci k (some o) v = some (ax_wi M o k v) := by simp [ax_pi, ax_ob, s]
theorem k_nw {M : ax_M} {g : Nat} {x : ax_X} {refs : List (Option Nat)} (s : ax_s M g = none) (h : ∀ o ∈ refs, o ≠ some g) : ax_nw M g x refs = some (ax_wn M g x) := by
  unfold ax_nw; rw [if_pos ⟨s, h⟩]
theorem k_gf {refs : List (Option Nat)} {gs : List Nat} (h : ∀ o ∈ refs, ∀ g ∈ gs, o ≠ some g) : ax_gf refs gs = some () := by
  unfold ax_gf; rw [if_pos h]
theorem k_tr {M : ax_M} {id n t ci i g : Nat} (s : ax_s M id = some (.inr (t, n))) (hi : i < n) (hn : n ≤ 48) (sg : ax_s M g = some (.inl ci)) : ax_tr M t ci (some id) (nI i) (some g) = some (ax_wr M id i (some g)) := by
  simp [ax_tr, ax_ob, sg, ax_ix_some s (vp_in_nI hi (by omega)), nI_clamp (show i < 2 ^ 31 by omega)]
theorem k_cp {M : ax_M} {a b : Nat} (sa : ax_s M a = some (.inr (0, 8))) (sb : ax_s M b = some (.inr (0, 8))) : ax_cp M 0 (some a) 0 (some b) 0 8 = some (ax_wc M a b 0 0 8) := by
  simp only [ax_cp, Option.bind_some, sa, sb]
  rw [if_pos (by decide)]
  rfl
/-- a new question's cells, before its loop -/
def Q0 (g : Nat) (M : ax_M) (p0 p1 p2 p3 p4 : Int32) : ax_M := ax_wr (ax_wn (ax_wr (ax_wn (ax_wr (ax_wn (ax_wr (ax_wn (ax_wr (ax_wn (ax_wi (ax_wi (ax_wi (ax_wi (ax_wi M g 0 p0) g 1 p1) g 2 p2) g 3 p3) g 4 p4) (g + 1) (.inr (0, 8))) g 5 (some (g + 1))) (g + 2) (.inr (0, 8))) g 6 (some (g + 2))) (g + 3) (.inr (2, 8))) g 7 (some (g + 3))) (g + 4) (.inr (1, 8))) g 8 (some (g + 4))) (g + 5) (.inr (0, 8))) g 9 (some (g + 5))
section
variable {M : ax_M} {g : Nat} {p0 p1 p2 p3 p4 : Int32}
theorem Q_init_a (h0 : ax_s M g = some (.inl 1)) (h1 : ax_s M (g + 1) = none) (h2 : ax_s M (g + 2) = none) (h3 : ax_s M (g + 3) = none) (h4 : ax_s M (g + 4) = none) (h5 : ax_s M (g + 5) = none) : f_Q_init g M g p0 p1 p2 p3 p4 = F_Q_init_74 g 64 (Q0 g M p0 p1 p2 p3 p4) (some g) 0 := by
  simp [f_Q_init, ax_pi, ax_ob, ax_nw, ax_pr, ax_lk, px_s_wi, px_s_wr, px_s_wn, h0, h1, h2, h3, h4, h5, Q0]
theorem Q0_out {id : Nat} (h : ¬ (g ≤ id ∧ id ≤ g + 5)) : (∀ k, ax_i (Q0 g M p0 p1 p2 p3 p4) id k = ax_i M id k) ∧ (∀ k, ax_l (Q0 g M p0 p1 p2 p3 p4) id k = ax_l M id k) ∧ (∀ k, ax_r (Q0 g M p0 p1 p2 p3 p4) id k = ax_r M id k) ∧ ax_s (Q0 g M p0 p1 p2 p3 p4) id = ax_s M id := by
  have n0 : id ≠ g := by omega
  have n1 : id ≠ g + 1 := by omega
  have n2 : id ≠ g + 2 := by omega
  have n3 : id ≠ g + 3 := by omega
  have n4 : id ≠ g + 4 := by omega
  have n5 : id ≠ g + 5 := by omega
  refine ⟨fun k => ?_, fun k => ?_, fun k => ?_, ?_⟩ <;> simp [Q0, px_i_wn, px_l_wn, px_r_wn, px_s_wn, px_i_wr, px_l_wr, px_r_wr, px_s_wr, px_i_wi, px_l_wi, px_r_wi, px_s_wi, n0, n1, n2, n3, n4, n5]
theorem Q0_s (h0 : ax_s M g = some (.inl 1)) : ax_s (Q0 g M p0 p1 p2 p3 p4) g = some (.inl 1) ∧ ax_s (Q0 g M p0 p1 p2 p3 p4) (g + 1) = some (.inr (0, 8)) ∧ ax_s (Q0 g M p0 p1 p2 p3 p4) (g + 2) = some (.inr (0, 8)) ∧ ax_s (Q0 g M p0 p1 p2 p3 p4) (g + 3) = some (.inr (2, 8)) ∧ ax_s (Q0 g M p0 p1 p2 p3 p4) (g + 4) = some (.inr (1, 8)) ∧ ax_s (Q0 g M p0 p1 p2 p3 p4) (g + 5) = some (.inr (0, 8)) ∧ ax_r (Q0 g M p0 p1 p2 p3 p4) g 5 = some (g + 1) ∧ ax_r (Q0 g M p0 p1 p2 p3 p4) g 6 = some (g + 2) ∧ ax_r (Q0 g M p0 p1 p2 p3 p4) g 7 = some (g + 3) ∧ ax_r (Q0 g M p0 p1 p2 p3 p4) g 8 = some (g + 4) ∧ ax_r (Q0 g M p0 p1 p2 p3 p4) g 9 = some (g + 5) := by
  simp [Q0, px_r_wn, px_s_wn, px_r_wr, px_s_wr, px_r_wi, px_s_wi, h0]
theorem Q0_i : ax_i (Q0 g M p0 p1 p2 p3 p4) g 0 = p0 ∧ ax_i (Q0 g M p0 p1 p2 p3 p4) g 1 = p1 ∧ ax_i (Q0 g M p0 p1 p2 p3 p4) g 2 = p2 ∧ ax_i (Q0 g M p0 p1 p2 p3 p4) g 3 = p3 ∧ ax_i (Q0 g M p0 p1 p2 p3 p4) g 4 = p4 ∧ ax_i (Q0 g M p0 p1 p2 p3 p4) g 13 = ax_i M g 13 ∧ ∀ k, ax_i (Q0 g M p0 p1 p2 p3 p4) (g + 3) k = 0 := by
  simp [Q0, px_i_wn, px_i_wr, px_i_wi]
def qi_r (g i : Nat) (M M' : ax_M) : Prop := M'.2.2 = M.2.2 ∧ (∀ id k, ax_l M' id k = ax_l M id k) ∧ (∀ id k, ¬ ((id = g + 2 ∨ id = g + 5) ∧ k < 8) → ax_i M' id k = ax_i M id k) ∧ (∀ k, k < i → ax_i M' (g + 2) k = -1 ∧ ax_i M' (g + 5) k = -1)
theorem qi_l (s0 : ax_s M g = some (.inl 1)) (s2 : ax_s M (g + 2) = some (.inr (0, 8))) (s5 : ax_s M (g + 5) = some (.inr (0, 8))) (r6 : ax_r M g 6 = some (g + 2)) (r9 : ax_r M g 9 = some (g + 5)) : ∀ k i f M', i + k = 8 → qi_r g i M M' → ∃ M3, F_Q_init_74 g (f + k + 1) M' (some g) (nI i) = some (ax_wi M3 g 10 (-1)) ∧ qi_r g 8 M M3 := by
  intro k
  induction k with
  | zero =>
    intro i f M' e q
    have : i = 8 := by omega
    subst this
    have t0 : ax_s M' g = some (.inl 1) := by rw [← s0]; show M'.2.2.2 g = M.2.2.2 g; rw [q.1]
    refine ⟨M', ?_, q⟩
    show G_Q_init_74 g _ M' _ _ = _
    simp only [G_Q_init_74]
    rw [if_pos (show (8 : Int32) ≤ nI 8 from Int32.le_refl _), k_pi t0, Option.bind_some]
  | succ k ih =>
    intro i f M' e q
    have hs : ∀ id, ax_s M' id = ax_s M id := fun id => by show M'.2.2.2 id = M.2.2.2 id; rw [q.1]
    have hr : ∀ id k, ax_r M' id k = ax_r M id k := fun id k => by show M'.2.2.1 id k = M.2.2.1 id k; rw [q.1]
    have hi : i < 8 := by omega
    have x3 : ¬ (8 : Int32) ≤ nI i := nI_ge (b := 8) hi (by decide)
    have q2 : qi_r g (i + 1) M (ax_wi (ax_wi M' (g + 2) i (-1)) (g + 5) i (-1)) := by
      refine ⟨q.1, fun id k => ?_, fun id k z => ?_, fun c hc => ?_⟩
      · rw [px_l_wi, px_l_wi]; exact q.2.1 id k
      · rw [px_i_wi, if_neg (by omega), px_i_wi, if_neg (by omega)]; exact q.2.2.1 id k z
      · rw [px_i_wi, px_i_wi, px_i_wi, px_i_wi]
        by_cases ec : c = i
        · subst ec
          simp
        · have := q.2.2.2 c (by omega)
          simp [ec, this]
    obtain ⟨M3, e1, e2⟩ := ih (i + 1) f _ (by omega) q2
    refine ⟨M3, ?_, e2⟩
    rw [← e1]
    show G_Q_init_74 g (F_Q_init_74 g (f + k + 1)) M' _ _ = _
    have w2 : ax_s M' (g + 2) = some (.inr (0, 8)) := (hs _).trans s2
    have w0 : ax_s M' g = some (.inl 1) := (hs _).trans s0
    have w5 : ax_s (ax_wi M' (g + 2) i (-1)) (g + 5) = some (.inr (0, 8)) := (hs _).trans s5
    have w1 : ax_s (ax_wi M' (g + 2) i (-1)) g = some (.inl 1) := w0
    have y6 : ax_r M' g 6 = some (g + 2) := (hr _ _).trans r6
    have y9 : ax_r (ax_wi M' (g + 2) i (-1)) g 9 = some (g + 5) := (hr _ _).trans r9
    simp only [G_Q_init_74, if_neg x3, k_gr w0, y6, k_ti w2 hi (by decide), k_gr w1, y9, k_ti w5 hi (by decide), Option.bind_some, nI_1]
/-- what a new question's cells are -/
def qn_s (g : Nat) (Q : ax_M) : Prop := ax_s Q g = some (.inl 1) ∧ ax_s Q (g + 1) = some (.inr (0, 8)) ∧ ax_s Q (g + 2) = some (.inr (0, 8)) ∧ ax_s Q (g + 3) = some (.inr (2, 8)) ∧ ax_s Q (g + 4) = some (.inr (1, 8)) ∧ ax_s Q (g + 5) = some (.inr (0, 8)) ∧ ax_r Q g 5 = some (g + 1) ∧ ax_r Q g 6 = some (g + 2) ∧ ax_r Q g 7 = some (g + 3) ∧ ax_r Q g 8 = some (g + 4) ∧ ax_r Q g 9 = some (g + 5)
theorem Q_init_e (h0 : ax_s M g = some (.inl 1)) (h1 : ∀ j, 1 ≤ j → j ≤ 5 → ax_s M (g + j) = none) (hz : ax_i M g 13 = 0) : ∃ Q, f_Q_init g M g p0 p1 p2 p3 p4 = some Q ∧ (∀ id, ¬ (g ≤ id ∧ id ≤ g + 5) → (∀ k, ax_i Q id k = ax_i M id k) ∧ (∀ k, ax_l Q id k = ax_l M id k) ∧ (∀ k, ax_r Q id k = ax_r M id k) ∧ ax_s Q id = ax_s M id) ∧ qn_s g Q ∧ (ax_i Q g 0 = p0 ∧ ax_i Q g 1 = p1 ∧ ax_i Q g 2 = p2 ∧ ax_i Q g 3 = p3 ∧ ax_i Q g 4 = p4 ∧ ax_i Q g 10 = -1 ∧ ax_i Q g 13 = 0) ∧ ∀ a, a < 8 → ax_i Q (g + 2) a = -1 ∧ ax_i Q (g + 3) a = 0 ∧ ax_i Q (g + 5) a = -1 := by
  have S := Q0_s (M := M) (g := g) (p0 := p0) (p1 := p1) (p2 := p2) (p3 := p3) (p4 := p4) h0
  obtain ⟨s0, s1, s2, s3, s4, s5, r5, r6, r7, r8, r9⟩ := id S
  obtain ⟨j0, j1, j2, j3, j4, j13, j8⟩ := Q0_i (M := M) (g := g) (p0 := p0) (p1 := p1) (p2 := p2) (p3 := p3) (p4 := p4)
  obtain ⟨M3, e1, q⟩ := qi_l s0 s2 s5 r6 r9 8 0 55 _ (by omega) (⟨rfl, fun _ _ => rfl, fun _ _ _ => rfl, fun k z => absurd z (Nat.not_lt_zero _)⟩ : qi_r g 0 _ (Q0 g M p0 p1 p2 p3 p4))
  have hs : ∀ id, ax_s M3 id = ax_s (Q0 g M p0 p1 p2 p3 p4) id := fun id => by show M3.2.2.2 id = (Q0 g M p0 p1 p2 p3 p4).2.2.2 id; rw [q.1]
  have hr : ∀ id k, ax_r M3 id k = ax_r (Q0 g M p0 p1 p2 p3 p4) id k := fun id k => by show M3.2.2.1 id k = (Q0 g M p0 p1 p2 p3 p4).2.2.1 id k; rw [q.1]
  refine ⟨ax_wi M3 g 10 (-1), ?_, fun id z => ?_, ?_, ?_, fun a ha => ?_⟩
  · rw [Q_init_a h0 (h1 1 (by omega) (by omega)) (h1 2 (by omega) (by omega)) (h1 3 (by omega) (by omega)) (h1 4 (by omega) (by omega)) (h1 5 (by omega) (by omega))]
    exact e1
  · obtain ⟨o1, o2, o3, o4⟩ := Q0_out (M := M) (p0 := p0) (p1 := p1) (p2 := p2) (p3 := p3) (p4 := p4) z
    refine ⟨fun k => ?_, fun k => ?_, fun k => ?_, ?_⟩
    · rw [px_i_wi, if_neg (by omega), q.2.2.1 id k (by omega), o1]
    · rw [px_l_wi, q.2.1, o2]
    · rw [px_r_wi, hr, o3]
    · rw [px_s_wi, hs, o4]
  · unfold qn_s
    simp only [px_s_wi, px_r_wi, hs, hr]
    exact S
  · refine ⟨?_, ?_, ?_, ?_, ?_, ?_, ?_⟩
    · rw [px_i_wi, if_neg (by omega), q.2.2.1 _ _ (by omega), j0]
    · rw [px_i_wi, if_neg (by omega), q.2.2.1 _ _ (by omega), j1]
    · rw [px_i_wi, if_neg (by omega), q.2.2.1 _ _ (by omega), j2]
    · rw [px_i_wi, if_neg (by omega), q.2.2.1 _ _ (by omega), j3]
    · rw [px_i_wi, if_neg (by omega), q.2.2.1 _ _ (by omega), j4]
    · rw [px_i_wi, if_pos ⟨rfl, rfl⟩]
    · rw [px_i_wi, if_neg (by omega), q.2.2.1 _ _ (by omega), j13, hz]
  · refine ⟨?_, ?_, ?_⟩
    · rw [px_i_wi, if_neg (by omega)]; exact (q.2.2.2 a ha).1
    · rw [px_i_wi, if_neg (by omega), q.2.2.1 _ _ (by omega), j8]
    · rw [px_i_wi, if_neg (by omega)]; exact (q.2.2.2 a ha).2
end
/-- what stands, with one more question -/
theorem px_W.q {n nu : Nat} {R R' : px_S} (h : px_W n nu R) (hn : n < 6) (s : ∀ id, ¬ (10 * n + 1000 ≤ id ∧ id ≤ 10 * n + 1005) → R'.2 id = R.2 id) (r : ∀ id k, ¬ (10 * n + 1000 ≤ id ∧ id ≤ 10 * n + 1005) → ¬ (id = 5 ∧ k = n) → R'.1 id k = R.1 id k) (q : px_q R' n) (e : R'.1 5 n = some (10 * n + 1000)) : px_W (n + 1) nu R' := by
  have s' : ∀ id, id < 1000 → R'.2 id = R.2 id := fun id z => s id (by omega)
  have r' : ∀ id k, id < 1000 → id ≠ 5 → R'.1 id k = R.1 id k := fun id k z w => r id k (by omega) (by omega)
  obtain ⟨h1, h2, h3, h4, h5, h6, h7, h8⟩ := h
  refine ⟨?_, ?_, fun m hm => ?_, fun m hm => ?_, fun m hm => ?_, fun m hm => ?_, fun m j hm hm2 hj => ?_, fun m j hm hm2 hj => ?_⟩
  · simpa [px_v, s', r'] using h1
  · simpa [px_m, s', r'] using h2
  · by_cases em : m = n
    · subst em
      rw [if_pos (Nat.lt_succ_self _)]; exact e
    · rw [r 5 m (by omega) (by omega), h3 m hm]
      by_cases z : m < n
      · rw [if_pos z, if_pos (by omega)]
      · rw [if_neg z, if_neg (by omega)]
  · rw [r' 6 m (by omega) (by omega), h4 m hm]
  · by_cases em : m = n
    · subst em; exact q
    · obtain ⟨a1, a2, a3, a4, a5, a6, a7, a8, a9, a10, a11⟩ := h5 m (by omega)
      exact ⟨by rw [s _ (by omega)]; exact a1, by rw [s _ (by omega)]; exact a2, by rw [s _ (by omega)]; exact a3, by rw [s _ (by omega)]; exact a4, by rw [s _ (by omega)]; exact a5, by rw [s _ (by omega)]; exact a6, by rw [r _ _ (by omega) (by omega)]; exact a7, by rw [r _ _ (by omega) (by omega)]; exact a8, by rw [r _ _ (by omega) (by omega)]; exact a9, by rw [r _ _ (by omega) (by omega)]; exact a10, by rw [r _ _ (by omega) (by omega)]; exact a11⟩
  · obtain ⟨a1, a2, a3, a4, a5, a6, a7, a8, a9, a10, a11⟩ := h6 m hm
    exact ⟨by rw [s _ (by omega)]; exact a1, by rw [s _ (by omega)]; exact a2, by rw [s _ (by omega)]; exact a3, by rw [s _ (by omega)]; exact a4, by rw [s _ (by omega)]; exact a5, by rw [s _ (by omega)]; exact a6, by rw [r _ _ (by omega) (by omega)]; exact a7, by rw [r _ _ (by omega) (by omega)]; exact a8, by rw [r _ _ (by omega) (by omega)]; exact a9, by rw [r _ _ (by omega) (by omega)]; exact a10, by rw [r _ _ (by omega) (by omega)]; exact a11⟩
  · rw [s _ (by omega)]; exact h7 m j (by omega) hm2 hj
  · rw [s _ (by omega)]; exact h8 m j hm hm2 hj
