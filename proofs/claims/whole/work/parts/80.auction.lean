/-! AUCTION: new cells -/
def A0 (g : Nat) (M : ax_M) (p0 p1 p2 p3 p4 p5 : Int32) : ax_M := ax_wi (ax_wr (ax_wn (ax_wr (ax_wn (ax_wr (ax_wn (ax_wr (ax_wn (ax_wr (ax_wn (ax_wi (ax_wi (ax_wi (ax_wi (ax_wi (ax_wi M g 0 p0) g 1 p1) g 2 p2) g 3 p3) g 4 p4) g 5 p5) (g + 1) (.inr (0, 8))) g 6 (some (g + 1))) (g + 2) (.inr (1, 8))) g 7 (some (g + 2))) (g + 3) (.inr (0, 8))) g 8 (some (g + 3))) (g + 4) (.inr (0, 8))) g 9 (some (g + 4))) (g + 5) (.inr (0, 8))) g 10 (some (g + 5))) g 12 (-1)
def an_s (g : Nat) (Q : ax_M) : Prop := ax_s Q g = some (.inl 2) ∧ ax_s Q (g + 1) = some (.inr (0, 8)) ∧ ax_s Q (g + 2) = some (.inr (1, 8)) ∧ ax_s Q (g + 3) = some (.inr (0, 8)) ∧ ax_s Q (g + 4) = some (.inr (0, 8)) ∧ ax_s Q (g + 5) = some (.inr (0, 8)) ∧ ax_r Q g 6 = some (g + 1) ∧ ax_r Q g 7 = some (g + 2) ∧ ax_r Q g 8 = some (g + 3) ∧ ax_r Q g 9 = some (g + 4) ∧ ax_r Q g 10 = some (g + 5)
section
variable {M : ax_M} {g : Nat} {p0 p1 p2 p3 p4 p5 : Int32}
theorem A_init_a (h0 : ax_s M g = some (.inl 2)) (h1 : ax_s M (g + 1) = none) (h2 : ax_s M (g + 2) = none) (h3 : ax_s M (g + 3) = none) (h4 : ax_s M (g + 4) = none) (h5 : ax_s M (g + 5) = none) : f_A_init g M g p0 p1 p2 p3 p4 p5 = some (A0 g M p0 p1 p2 p3 p4 p5) := by
  simp [f_A_init, ax_pi, ax_ob, ax_nw, ax_pr, ax_lk, px_s_wi, px_s_wr, px_s_wn, h0, h1, h2, h3, h4, h5, A0]
theorem A0_out {id : Nat} (h : ¬ (g ≤ id ∧ id ≤ g + 5)) : (∀ k, ax_i (A0 g M p0 p1 p2 p3 p4 p5) id k = ax_i M id k) ∧ (∀ k, ax_l (A0 g M p0 p1 p2 p3 p4 p5) id k = ax_l M id k) ∧ (∀ k, ax_r (A0 g M p0 p1 p2 p3 p4 p5) id k = ax_r M id k) ∧ ax_s (A0 g M p0 p1 p2 p3 p4 p5) id = ax_s M id := by
  have n0 : id ≠ g := by omega
  have n1 : id ≠ g + 1 := by omega
  have n2 : id ≠ g + 2 := by omega
  have n3 : id ≠ g + 3 := by omega
  have n4 : id ≠ g + 4 := by omega
  have n5 : id ≠ g + 5 := by omega
  refine ⟨fun k => ?_, fun k => ?_, fun k => ?_, ?_⟩ <;> simp [A0, px_i_wn, px_l_wn, px_r_wn, px_s_wn, px_i_wr, px_l_wr, px_r_wr, px_s_wr, px_i_wi, px_l_wi, px_r_wi, px_s_wi, n0, n1, n2, n3, n4, n5]
theorem A0_s (h0 : ax_s M g = some (.inl 2)) : an_s g (A0 g M p0 p1 p2 p3 p4 p5) := by
  unfold an_s
  simp [A0, px_r_wn, px_s_wn, px_r_wr, px_s_wr, px_r_wi, px_s_wi, h0]
theorem A0_i : ax_i (A0 g M p0 p1 p2 p3 p4 p5) g 0 = p0 ∧ ax_i (A0 g M p0 p1 p2 p3 p4 p5) g 1 = p1 ∧ ax_i (A0 g M p0 p1 p2 p3 p4 p5) g 2 = p2 ∧ ax_i (A0 g M p0 p1 p2 p3 p4 p5) g 3 = p3 ∧ ax_i (A0 g M p0 p1 p2 p3 p4 p5) g 4 = p4 ∧ ax_i (A0 g M p0 p1 p2 p3 p4 p5) g 5 = p5 ∧ ax_i (A0 g M p0 p1 p2 p3 p4 p5) g 11 = ax_i M g 11 ∧ ax_i (A0 g M p0 p1 p2 p3 p4 p5) g 12 = -1 ∧ ax_i (A0 g M p0 p1 p2 p3 p4 p5) g 13 = ax_i M g 13 ∧ ∀ k, ax_i (A0 g M p0 p1 p2 p3 p4 p5) (g + 1) k = 0 ∧ ax_i (A0 g M p0 p1 p2 p3 p4 p5) (g + 3) k = 0 ∧ ax_i (A0 g M p0 p1 p2 p3 p4 p5) (g + 4) k = 0 ∧ ax_i (A0 g M p0 p1 p2 p3 p4 p5) (g + 5) k = 0 := by
  simp [A0, px_i_wn, px_i_wr, px_i_wi]
end
/-- what stands, with one more auction -/
theorem px_W.a {n nq : Nat} {R R' : px_S} (h : px_W nq n R) (hn : n < 6) (h6 : nq ≤ 6) (s : ∀ id, ¬ (10 * n + 2000 ≤ id ∧ id ≤ 10 * n + 2005) → R'.2 id = R.2 id) (r : ∀ id k, ¬ (10 * n + 2000 ≤ id ∧ id ≤ 10 * n + 2005) → ¬ (id = 6 ∧ k = n) → R'.1 id k = R.1 id k) (q : px_a R' n) (e : R'.1 6 n = some (10 * n + 2000)) : px_W nq (n + 1) R' := by
  have s' : ∀ id, id < 1000 → R'.2 id = R.2 id := fun id z => s id (by omega)
  have r' : ∀ id k, id < 1000 → id ≠ 6 → R'.1 id k = R.1 id k := fun id k z w => r id k (by omega) (by omega)
  obtain ⟨h1, h2, h3, h4, h5, h6, h7, h8⟩ := h
  refine ⟨?_, ?_, fun m hm => ?_, fun m hm => ?_, fun m hm => ?_, fun m hm => ?_, fun m j hm hm2 hj => ?_, fun m j hm hm2 hj => ?_⟩
  · simpa [px_v, s', r'] using h1
  · simpa [px_m, s', r'] using h2
  · rw [r' 5 m (by omega) (by omega), h3 m hm]
  · by_cases em : m = n
    · subst em
      rw [if_pos (Nat.lt_succ_self _)]; exact e
    · rw [r 6 m (by omega) (by omega), h4 m hm]
      by_cases z : m < n
      · rw [if_pos z, if_pos (by omega)]
      · rw [if_neg z, if_neg (by omega)]
  · obtain ⟨a1, a2, a3, a4, a5, a6, a7, a8, a9, a10, a11⟩ := h5 m hm
    exact ⟨by rw [s _ (by omega)]; exact a1, by rw [s _ (by omega)]; exact a2, by rw [s _ (by omega)]; exact a3, by rw [s _ (by omega)]; exact a4, by rw [s _ (by omega)]; exact a5, by rw [s _ (by omega)]; exact a6, by rw [r _ _ (by omega) (by omega)]; exact a7, by rw [r _ _ (by omega) (by omega)]; exact a8, by rw [r _ _ (by omega) (by omega)]; exact a9, by rw [r _ _ (by omega) (by omega)]; exact a10, by rw [r _ _ (by omega) (by omega)]; exact a11⟩
  · by_cases em : m = n
    · subst em; exact q
    · obtain ⟨a1, a2, a3, a4, a5, a6, a7, a8, a9, a10, a11⟩ := h6 m (by omega)
      exact ⟨by rw [s _ (by omega)]; exact a1, by rw [s _ (by omega)]; exact a2, by rw [s _ (by omega)]; exact a3, by rw [s _ (by omega)]; exact a4, by rw [s _ (by omega)]; exact a5, by rw [s _ (by omega)]; exact a6, by rw [r _ _ (by omega) (by omega)]; exact a7, by rw [r _ _ (by omega) (by omega)]; exact a8, by rw [r _ _ (by omega) (by omega)]; exact a9, by rw [r _ _ (by omega) (by omega)]; exact a10, by rw [r _ _ (by omega) (by omega)]; exact a11⟩
  · rw [s _ (by omega)]; exact h7 m j hm hm2 hj
  · rw [s _ (by omega)]; exact h8 m j (by omega) hm2 hj
section
variable {n nq na h : Nat} {p0 p1 p2 p3 p4 : Int32}
def au_hi (p0 : Int32) : Int32 := if p0 = 4 then 20 else 1
theorem V_auction_a {M : ax_M} {nu g : Nat} (hW : px_W nq nu M.2.2) (hh : ax_i M 0 0 = nI h) (hq : ax_i M 0 9 = nI n) (hn : n < 6) (z0 : ¬ (p0 < 0 ∨ 4 < p0)) (z1 : ¬ (p1 < 1 ∨ au_hi p0 < p1)) (z2 : ¬ (p2 < 1 ∨ 10000 < p2)) (z3 : ¬ (p3 < 0 ∨ 1000 < p3)) (z4 : ¬ (p4 < 1 ∨ 50 < p4)) : f_V_auction g M (some 0) p0 p1 p2 p3 p4 = G_V_auction_123 g M (some 0) p0 p1 p2 p3 (nI n) (nI h + p4) (if p0 = 1 ∨ p0 = 2 then nI h + p4 + 5 else nI h + p4) := by
  have n6 : nI n < 6 := nI_lt (b := 6) hn (by decide)
  have e1 : f_V_auction g M (some 0) p0 p1 p2 p3 p4 = G_V_auction_22 g M (some 0) p0 p1 p2 p3 p4 (au_hi p0) 1 p1 := by
    simp only [f_V_auction, V_isOutN M z0, Option.bind_some, if_true, au_hi]
    split <;> rfl
  rw [e1]
  simp only [G_V_auction_22, V_isOutN M z1, V_isOutN M z2, V_isOutN M z3, V_isOutN M z4, Option.bind_some, if_true, e_V_gi nq nu hW, hq, if_pos n6, G_V_auction_93, G_V_auction_98, hh]
  by_cases k1 : p0 = 1
  · rw [if_pos k1, if_pos (Or.inl k1)]; simp only [i32_10, if_false]
  · by_cases k2 : p0 = 2
    · rw [if_neg k1, if_pos k2, if_pos (Or.inr k2)]; simp only [i32_10, if_false]
    · rw [if_neg k1, if_neg k2, if_neg (by rintro (z | z); exact k1 z; exact k2 z)]
theorem V_auction_e {M : ax_M} (hW : px_W nq n M.2.2) (h6 : nq ≤ 6) (hn : n < 6) (hh : ax_i M 0 0 = nI h) (hq : ax_i M 0 9 = nI n) (z0 : ¬ (p0 < 0 ∨ 4 < p0)) (z1 : ¬ (p1 < 1 ∨ au_hi p0 < p1)) (z2 : ¬ (p2 < 1 ∨ 10000 < p2)) (z3 : ¬ (p3 < 0 ∨ 1000 < p3)) (z4 : ¬ (p4 < 1 ∨ 50 < p4)) : ∃ M', f_V_auction (10 * n + 2000) M (some 0) p0 p1 p2 p3 p4 = some (nI n, M') ∧ px_W nq (n + 1) M'.2.2 ∧ (∀ id k, ¬ (10 * n + 2000 ≤ id ∧ id ≤ 10 * n + 2005) → ax_l M' id k = ax_l M id k ∧ (¬ (id = 0 ∧ k = 9) → ax_i M' id k = ax_i M id k)) ∧ ax_i M' 0 9 = nI (n + 1) ∧ (ax_i M' (10 * n + 2000) 0 = p0 ∧ ax_i M' (10 * n + 2000) 1 = p1 ∧ ax_i M' (10 * n + 2000) 2 = p2 ∧ ax_i M' (10 * n + 2000) 3 = p3 ∧ ax_i M' (10 * n + 2000) 4 = nI h + p4 ∧ ax_i M' (10 * n + 2000) 5 = (if p0 = 1 ∨ p0 = 2 then nI h + p4 + 5 else nI h + p4) ∧ ax_i M' (10 * n + 2000) 11 = 0 ∧ ax_i M' (10 * n + 2000) 12 = -1 ∧ ax_i M' (10 * n + 2000) 13 = 0) ∧ ∀ a, ax_i M' (10 * n + 2001) a = 0 ∧ ax_i M' (10 * n + 2003) a = 0 ∧ ax_i M' (10 * n + 2004) a = 0 ∧ ax_i M' (10 * n + 2005) a = 0 := by
  rw [V_auction_a hW hh hq hn z0 z1 z2 z3 z4]
  obtain ⟨en, hen⟩ : ∃ en, en = (if p0 = 1 ∨ p0 = 2 then nI h + p4 + 5 else nI h + p4) := ⟨_, rfl⟩
  rw [← hen]
  obtain ⟨g, hg⟩ : ∃ g, g = 10 * n + 2000 := ⟨_, rfl⟩
  have fr : ∀ j, j ≤ 5 → ax_s M (g + j) = none := fun j hj => by rw [hg]; exact hW.2.2.2.2.2.2.2 n j (Nat.le_refl _) hn (by omega)
  obtain ⟨M8, hM8⟩ : ∃ M8, M8 = ax_wn M g (.inl 2) := ⟨_, rfl⟩
  have a0 : ax_gr M 0 10 (some 0) = some (some 6) := e_V_r10 nq n hW
  have a1 : ax_nw M g (.inl 2) [some 0, some 6] = some M8 := by
    rw [hM8]
    exact k_nw (fr 0 (by omega)) (by
      intro o ho; simp at ho; intro z
      rcases ho with ho | ho
      · rw [ho] at z; have := Option.some.inj z; omega
      · rw [ho] at z; have := Option.some.inj z; omega)
  have o8 : ∀ id, id ≠ g → (∀ k, ax_i M8 id k = ax_i M id k) ∧ (∀ k, ax_l M8 id k = ax_l M id k) ∧ (∀ k, ax_r M8 id k = ax_r M id k) ∧ ax_s M8 id = ax_s M id := fun id z => by
    subst hM8
    exact ⟨fun k => by rw [px_i_wn, if_neg z], fun k => by rw [px_l_wn, if_neg z], fun k => by rw [px_r_wn, if_neg z], by rw [px_s_wn, if_neg z]⟩
  have s8 : ax_s M8 g = some (.inl 2) := by rw [hM8, px_s_wn, if_pos rfl]
  have i8 : ∀ k, ax_i M8 g k = 0 := fun k => by rw [hM8, px_i_wn, if_pos rfl]
  have a3 : ax_gf [some 0, (some g), some 6] [g + 1, g + 2, g + 3, g + 4, g + 5] = some () := k_gf (by
    intro o ho i hi; simp at ho hi; intro z
    rcases ho with ho | ho | ho
    · rw [ho] at z; have := Option.some.inj z; omega
    · rw [ho] at z; have := Option.some.inj z; omega
    · rw [ho] at z; have := Option.some.inj z; omega)
  have n8 : ∀ j, 1 ≤ j → j ≤ 5 → ax_s M8 (g + j) = none := fun j h1 h5 => by rw [(o8 (g + j) (by omega)).2.2.2]; exact fr j h5
  have a4 := A_init_a (p0 := p0) (p1 := p1) (p2 := p2) (p3 := p3) (p4 := nI h + p4) (p5 := en) s8 (n8 1 (by omega) (by omega)) (n8 2 (by omega) (by omega)) (n8 3 (by omega) (by omega)) (n8 4 (by omega) (by omega)) (n8 5 (by omega) (by omega))
  have qs := A0_s (p0 := p0) (p1 := p1) (p2 := p2) (p3 := p3) (p4 := nI h + p4) (p5 := en) s8
  have qi := A0_i (M := M8) (g := g) (p0 := p0) (p1 := p1) (p2 := p2) (p3 := p3) (p4 := nI h + p4) (p5 := en)
  have qo := fun id z => A0_out (M := M8) (g := g) (p0 := p0) (p1 := p1) (p2 := p2) (p3 := p3) (p4 := nI h + p4) (p5 := en) (id := id) z
  obtain ⟨Q, hQ⟩ : ∃ Q, Q = A0 g M8 p0 p1 p2 p3 (nI h + p4) en := ⟨_, rfl⟩
  rw [← hQ] at a4 qs qi
  have out : ∀ id, ¬ (g ≤ id ∧ id ≤ g + 5) → (∀ k, ax_i Q id k = ax_i M id k) ∧ (∀ k, ax_l Q id k = ax_l M id k) ∧ (∀ k, ax_r Q id k = ax_r M id k) ∧ ax_s Q id = ax_s M id := fun id z => by
    obtain ⟨b1, b2, b3, b4⟩ := qo id z
    rw [← hQ] at b4
    obtain ⟨c1, c2, c3, c4⟩ := o8 id (by omega)
    exact ⟨fun k => by rw [hQ]; exact (b1 k).trans (c1 k), fun k => by rw [hQ]; exact (b2 k).trans (c2 k), fun k => by rw [hQ]; exact (b3 k).trans (c3 k), b4.trans c4⟩
  obtain ⟨t0, t1, t2, t3, t4, t5, r5, r6, r7, r8, r9⟩ := id qs
  have sQ : ∀ id, id < 1000 → ax_s Q id = ax_s M id := fun id z => (out id (by omega)).2.2.2
  have sQ0 : ax_s Q 0 = some (.inl 0) := (sQ 0 (by omega)).trans (e_V_s nq n hW)
  have a9 : ax_tr Q 4 2 (some 6) (nI n) (some g) = some (ax_wr Q 6 n (some g)) := k_tr ((sQ 6 (by omega)).trans (e_V_s6 nq n hW)) hn (by decide) t0
  obtain ⟨D, hD⟩ : ∃ D, D = ax_wr Q 6 n (some g) := ⟨_, rfl⟩
  rw [← hD] at a9
  have sD : ∀ id, ax_s D id = ax_s Q id := fun id => by rw [hD, px_s_wr]
  have iD : ∀ id k, ax_i D id k = ax_i Q id k := fun id k => by rw [hD, px_i_wr]
  have i07 : ax_i D 0 9 = nI n := by rw [iD, (out 0 (by omega)).1, hq]
  have a10 : ax_gi D 0 9 (some 0) = some (nI n) := by rw [k_gi ((sD 0).trans sQ0), i07]
  have a11 : ax_pi D 0 9 (some 0) (nI (n + 1)) = some (ax_wi D 0 9 (nI (n + 1))) := k_pi ((sD 0).trans sQ0)
  rw [← hg]
  have e1001 : 10 * n + 2001 = g + 1 := by omega
  have e1002 : 10 * n + 2002 = g + 2 := by omega
  have e1003 : 10 * n + 2003 = g + 3 := by omega
  have e1004 : 10 * n + 2004 = g + 4 := by omega
  have e1005 : 10 * n + 2005 = g + 5 := by omega
  rw [e1001, e1003, e1004, e1005]
  have iE : ∀ id k, g ≤ id → ax_i (ax_wi D 0 9 (nI (n + 1))) id k = ax_i Q id k := fun id k z => by rw [px_i_wi, if_neg (by omega), iD]
  refine ⟨ax_wi D 0 9 (nI (n + 1)), ?_, ?_, fun id k z => ⟨?_, fun w => ?_⟩, ?_, ?_, fun a => ?_⟩
  · simp only [G_V_auction_123, a0, a1, a3, a4, a9, a10, nI_1, a11, Option.bind_some]
  · refine px_W.a hW hn h6 (fun id z => ?_) (fun id k z w => ?_) ?_ ?_
    · show ax_s (ax_wi D 0 9 (nI (n + 1))) id = ax_s M id
      rw [px_s_wi, sD, (out id (by omega)).2.2.2]
    · show ax_r (ax_wi D 0 9 (nI (n + 1))) id k = ax_r M id k
      rw [px_r_wi, hD, px_r_wr, if_neg w, (out id (by omega)).2.2.1]
    · have rD : ∀ k, ax_r D g k = ax_r Q g k := fun k => by rw [hD, px_r_wr, if_neg (by omega)]
      show px_a D.2.2 n
      unfold px_a
      rw [← hg, e1001, e1002, e1003, e1004, e1005]
      refine ⟨(sD g).trans t0, (sD _).trans t1, (sD _).trans t2, (sD _).trans t3, (sD _).trans t4, (sD _).trans t5, (rD _).trans r5, (rD _).trans r6, (rD _).trans r7, (rD _).trans r8, (rD _).trans r9⟩
    · show ax_r (ax_wi D 0 9 (nI (n + 1))) 6 n = _
      rw [px_r_wi, hD, px_r_wr, if_pos ⟨rfl, rfl⟩, hg]
  · rw [px_l_wi, hD, px_l_wr, (out id (by omega)).2.1]
  · rw [px_i_wi, if_neg w, iD, (out id (by omega)).1]
  · rw [px_i_wi, if_pos ⟨rfl, rfl⟩]
  · obtain ⟨j0, j1, j2, j3, j4, j5, j11, j12, j13, _⟩ := qi
    rw [iE g _ (Nat.le_refl _), iE g _ (Nat.le_refl _), iE g _ (Nat.le_refl _), iE g _ (Nat.le_refl _), iE g _ (Nat.le_refl _), iE g _ (Nat.le_refl _), iE g _ (Nat.le_refl _), iE g _ (Nat.le_refl _), iE g _ (Nat.le_refl _)]
    exact ⟨j0, j1, j2, j3, j4, j5, j11.trans (i8 11), j12, j13.trans (i8 13)⟩
  · rw [iE _ _ (by omega), iE _ _ (by omega), iE _ _ (by omega), iE _ _ (by omega)]
    exact qi.2.2.2.2.2.2.2.2.2 a
def mu_r (n a : Nat) (N N' : ax_M) : Prop := N'.2.2 = N.2.2 ∧ (∀ id k, ax_l N' id k = ax_l N id k) ∧ (∀ id k, ¬ ((id = 129 ∨ id = 134 ∨ id = 135) ∧ 8 * n ≤ k ∧ k < 8 * n + 8) → ax_i N' id k = ax_i N id k) ∧ ∀ c, c < a → ax_i N' 129 (8 * n + c) = 0 ∧ ax_i N' 134 (8 * n + c) = 0 ∧ ax_i N' 135 (8 * n + c) = 0
theorem mu_l {nu : Nat} {N : ax_M} (W : px_W nq nu N.2.2) (hn : n < 6) : ∀ k a f N', a + k = 8 → mu_r n a N N' → ∃ N3, F_M_auction_181 (f + k + 1) N' (some 100) (nI n) (nI a) = some (nI n, ax_wi N3 100 25 (ax_i N 100 25 + 1)) ∧ mu_r n 8 N N3 := by
  intro k
  induction k with
  | zero =>
    intro a f N' e q
    have : a = 8 := by omega
    subst this
    have W' : px_W nq nu N'.2.2 := by rw [q.1]; exact W
    refine ⟨N', ?_, q⟩
    show G_M_auction_181 _ N' _ _ _ = _
    simp only [G_M_auction_181]
    rw [if_pos (show (8 : Int32) ≤ nI 8 from Int32.le_refl _), e_M_gi nq nu W', Option.bind_some, e_M_pi nq nu W', Option.bind_some, q.2.2.1 100 25 (by omega)]
  | succ k ih =>
    intro a f N' e q
    have W' : px_W nq nu N'.2.2 := by rw [q.1]; exact W
    have ha : a < 8 := by omega
    have x3 : ¬ (8 : Int32) ≤ nI a := nI_ge (b := 8) ha (by decide)
    have hi : 8 * n + a < 48 := by omega
    have q2 : mu_r n (a + 1) N (ax_wi (ax_wi (ax_wi N' 129 (8 * n + a) 0) 134 (8 * n + a) 0) 135 (8 * n + a) 0) := by
      refine ⟨q.1, fun id k => ?_, fun id k z => ?_, fun c hc => ?_⟩
      · rw [px_l_wi, px_l_wi, px_l_wi]; exact q.2.1 id k
      · rw [px_i_wi, if_neg (by omega), px_i_wi, if_neg (by omega), px_i_wi, if_neg (by omega)]; exact q.2.2.1 id k z
      · by_cases ec : c = a
        · subst ec
          simp [px_i_wi]
        · have := q.2.2.2 c (by omega)
          have ne : ¬ (8 * n + c = 8 * n + a) := by omega
          simp only [px_i_wi, ne, and_false, if_false]
          exact this
    obtain ⟨N3, e1, e2⟩ := ih (a + 1) f _ (by omega) q2
    refine ⟨N3, ?_, e2⟩
    rw [← e1]
    show G_M_auction_181 (F_M_auction_181 (f + k + 1)) N' _ _ _ = _
    simp only [G_M_auction_181, if_neg x3, e_M_r35 nq nu W', px_8, Option.bind_some, e_M_wr129 nq nu W' hi, e_M_r40 nq nu (M := ax_wi _ _ _ _) W', e_M_wr134 nq nu (M := ax_wi _ _ _ _) W' hi, e_M_r41 nq nu (M := ax_wi (ax_wi _ _ _ _) _ _ _) W', e_M_wr135 nq nu (M := ax_wi (ax_wi _ _ _ _) _ _ _) W' hi, nI_1]
def S_mu (n id k : Nat) : Prop := (121 ≤ id ∧ id ≤ 128 ∧ k = n) ∨ ((id = 129 ∨ id = 134 ∨ id = 135) ∧ 8 * n ≤ k ∧ k < 8 * n + 8) ∨ (id = 100 ∧ k = 25)
theorem M_auction_e {nu : Nat} {N : ax_M} (W : px_W nq nu N.2.2) (hn : n < 6) (hh : ax_i N 100 1 = nI h) (hq : ax_i N 100 25 = nI n) (z0 : ¬ (p0 < 0 ∨ 4 < p0)) (z1 : ¬ (p1 < 1 ∨ au_hi p0 < p1)) (z2 : ¬ (p2 < 1 ∨ 10000 < p2)) (z3 : ¬ (p3 < 0 ∨ 1000 < p3)) (z4 : ¬ (p4 < 1 ∨ 50 < p4)) : ∃ N', f_M_auction N (some 100) p0 p1 p2 p3 p4 = some (nI n, N') ∧ px_fr (S_mu n) N N' ∧ (ax_i N' 121 n = p0 ∧ ax_i N' 122 n = p1 ∧ ax_i N' 123 n = p2 ∧ ax_i N' 124 n = p3 ∧ ax_i N' 125 n = nI h + p4 ∧ ax_i N' 126 n = nI h + p4 + (if p0 = 1 ∨ p0 = 2 then 5 else 0) ∧ ax_l N' 127 n = -3 ∧ ax_i N' 128 n = -1 ∧ ax_i N' 100 25 = nI (n + 1)) ∧ ∀ c, c < 8 → ax_i N' 129 (8 * n + c) = 0 ∧ ax_i N' 134 (8 * n + c) = 0 ∧ ax_i N' 135 (8 * n + c) = 0 := by
  obtain ⟨x5, hx5⟩ : ∃ x5, x5 = (if p0 = 1 ∨ p0 = 2 then (5 : Int32) else 0) := ⟨_, rfl⟩
  rw [← hx5]
  obtain ⟨N0, hN0⟩ : ∃ N0, N0 = ax_wi (ax_wl (ax_wi (ax_wi (ax_wi (ax_wi (ax_wi (ax_wi N 121 n p0) 122 n p1) 123 n p2) 124 n p3) 125 n (nI h + p4)) 126 n (nI h + p4 + x5)) 127 n (-3)) 128 n (-1) := ⟨_, rfl⟩
  have W0 : px_W nq nu N0.2.2 := by rw [hN0]; exact W
  have i0 : ∀ id k, ¬ (121 ≤ id ∧ id ≤ 128 ∧ k = n) → ax_i N0 id k = ax_i N id k := fun id k z => by
    rw [hN0, px_i_wi, if_neg (by omega), px_i_wl, px_i_wi, if_neg (by omega), px_i_wi, if_neg (by omega), px_i_wi, if_neg (by omega), px_i_wi, if_neg (by omega), px_i_wi, if_neg (by omega), px_i_wi, if_neg (by omega)]
  have l0 : ∀ id k, ¬ (121 ≤ id ∧ id ≤ 128 ∧ k = n) → ax_l N0 id k = ax_l N id k := fun id k z => by
    rw [hN0, px_l_wi, px_l_wl, if_neg (by omega)]; rfl
  obtain ⟨N3, e1, q⟩ := mu_l (n := n) W0 hn 8 0 55 N0 (by omega) ⟨rfl, fun _ _ => rfl, fun _ _ _ => rfl, fun c z => absurd z (Nat.not_lt_zero _)⟩
  rw [i0 100 25 (by omega), hq, nI_1, nI_0] at e1
  have n6 : ¬ nI n = 6 := fun z => by have := (nI_eq (b := 6) (by omega) (by omega)).mp z; omega
  have eA : f_M_auction N (some 100) p0 p1 p2 p3 p4 = G_M_auction_22 N (some 100) p0 p1 p2 p3 p4 (au_hi p0) 1 p1 := by
    simp only [f_M_auction, M_isInY N z0, Option.bind_some, i32_10, if_false, au_hi]
    split <;> rfl
  have eB : G_M_auction_22 N (some 100) p0 p1 p2 p3 p4 (au_hi p0) 1 p1 = G_M_auction_158 (ax_wi (ax_wi (ax_wi (ax_wi (ax_wi N 121 n p0) 122 n p1) 123 n p2) 124 n p3) 125 n (nI h + p4)) (some 100) (nI n) x5 (nI h + p4) (nI n) (some 126) := by
    have n6' : (nI n = 6) = False := eq_false n6
    unfold G_M_auction_22
    simp only [M_isInY N z1, M_isInY N z2, M_isInY N z3, M_isInY N z4, Option.bind_some, i32_10, if_false, e_M_gi nq nu W, hq, n6']
    simp only [Option.bind_some, e_M_r27 nq nu W, e_M_wr121 nq nu W hn, px_i_wi, px_wi, e_M_r28 nq nu, e_M_wr122 nq nu, e_M_r29 nq nu, e_M_wr123 nq nu, e_M_r30 nq nu, e_M_wr124 nq nu, e_M_r31 nq nu, e_M_wr125 nq nu, e_M_r32 nq nu, e_M_gi nq nu, W, hn, hh, show (100 = 121) = False from eq_false (by decide), show (100 = 122) = False from eq_false (by decide), show (100 = 123) = False from eq_false (by decide), show (100 = 124) = False from eq_false (by decide), show (100 = 125) = False from eq_false (by decide), false_and, if_false]
    unfold G_M_auction_153
    by_cases k1 : p0 = 1
    · rw [if_pos k1, hx5, if_pos (Or.inl k1)]
    · by_cases k2 : p0 = 2
      · rw [if_neg k1, if_pos k2, hx5, if_pos (Or.inr k2)]
      · rw [if_neg k1, if_neg k2, hx5, if_neg (by rintro (z | z); exact k1 z; exact k2 z)]
  refine ⟨ax_wi N3 100 25 (nI (n + 1)), ?_, ⟨?_, fun id k z => ?_, fun id k z => ?_⟩, ?_, fun c hc => ?_⟩
  · rw [eA, eB, ← e1, hN0]
    simp only [G_M_auction_158, Option.bind_some, px_wi, px_wl, e_M_wr126 nq nu, e_M_r33 nq nu, e_M_wr127 nq nu, e_M_r34 nq nu, e_M_wr128 nq nu, W, hn]
  · show N3.2.2 = _
    rw [q.1, hN0]; rfl
  · unfold S_mu at z
    rw [px_i_wi, if_neg (by omega), q.2.2.1 id k (by omega), i0 id k (by omega)]
  · unfold S_mu at z
    rw [px_l_wi, q.2.1, l0 id k (by omega)]
  · have e : ∀ id, 121 ≤ id ∧ id ≤ 128 → ax_i (ax_wi N3 100 25 (nI (n + 1))) id n = ax_i N0 id n := fun id z => by rw [px_i_wi, if_neg (by omega), q.2.2.1 id n (by omega)]
    rw [e 121 (by omega), e 122 (by omega), e 123 (by omega), e 124 (by omega), e 125 (by omega), e 126 (by omega), e 128 (by omega), px_l_wi, q.2.1, hN0]
    simp [px_i_wi, px_i_wl, px_l_wi, px_l_wl]
  · have e : ∀ id k, id ≠ 100 → ax_i (ax_wi N3 100 25 (nI (n + 1))) id k = ax_i N3 id k := fun id k z => by rw [px_i_wi, if_neg (by omega)]
    rw [e 129 _ (by omega), e 134 _ (by omega), e 135 _ (by omega)]
    exact q.2.2.2 c hc
end
