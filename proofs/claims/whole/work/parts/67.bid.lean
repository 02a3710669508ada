/-! BID -/
def S_bid (n id k : Nat) : Prop := id = 2 ∨ id = 3 ∨ (id = 10 * n + 2000 ∧ 11 ≤ k ∧ k ≤ 13) ∨ id = 10 * n + 2001 ∨ id = 10 * n + 2003 ∨ id = 10 * n + 2004 ∨ id = 102 ∨ id = 103 ∨ (id = 100 ∧ k = 26) ∨ (129 ≤ id ∧ id ≤ 132 ∧ 8 * n ≤ k ∧ k < 8 * n + 8)
theorem bid_end {T na nq nu hh mt n j U P kd un le sp sh en tl kp : Nat} {M M2 : ax_M} {td bw u p wn : Nat → Nat} {is D : Nat → Bool} (hT : T < 1000) (hg : sm_g T na nq nu hh mt M) (hc : ∀ a, a < 8 → sm_c na M a) (hq : ∀ n, n < nq → sm_q na M n) (ha : ∀ n, n < nu → sm_a T na hh mt M n) (hn : n < nu) (hj : j < na)
  (h1 : sm_an T hh M n kd un le sp sh en tl kp) (h2 : ∀ a, a < 8 → sm_ab na mt M n kd un le tl a (td a) (bw a) (u a) (p a) (wn a) (is a)) (h3 : ∀ a b, a < 8 → b < 8 → is a = true → is b = true → (td a < td b ↔ bw a < bw b)) (h4 : sm_al na hh M n kd en kp u p wn) (k04 : kd = 0 ∨ kd = 4)
  (hU : 1 ≤ U ∧ U ≤ un) (hP : le ≤ P ∧ P ≤ 1000000) (hD : kd = 0 → ∀ a, a < 8 → a ≠ j → D a = false → u a = 0)
  (f : px_fr (S_bid n) M M2) (fc : ∀ a, a < 8 → (a < na → ax_l M2 2 a = ax_l M2 102 a ∧ ax_l M2 3 a = ax_l M2 103 a) ∧ (na ≤ a → ax_l M2 3 a = ax_l M 3 a))
  (f11 : ax_i M2 (10 * n + 2000) 11 = nI (tl + 1)) (f26 : ax_i M2 100 26 = nI (mt + 1)) (fl : kd = 0 → ax_i M2 (10 * n + 2000) 12 = nI j ∧ ax_i M2 (10 * n + 2000) 13 = nI P) (fl4 : kd = 4 → ax_i M2 (10 * n + 2000) 13 = nI kp)
  (fj : ax_i M2 (10 * n + 2001) j = nI (tl + 1) ∧ ax_i M2 (10 * n + 2003) j = nI U ∧ ax_i M2 (10 * n + 2004) j = nI P ∧ ax_i M2 129 (8 * n + j) = 1 ∧ ax_i M2 130 (8 * n + j) = nI U ∧ ax_i M2 131 (8 * n + j) = nI P ∧ ax_i M2 132 (8 * n + j) = nI mt)
  (fo : ∀ a, a < 8 → a ≠ j → ax_i M2 (10 * n + 2001) a = ax_i M (10 * n + 2001) a ∧ ax_i M2 (10 * n + 2003) a = (if D a = true then 0 else ax_i M (10 * n + 2003) a) ∧ ax_i M2 (10 * n + 2004) a = (if D a = true then 0 else ax_i M (10 * n + 2004) a) ∧ ax_i M2 129 (8 * n + a) = (if D a = true then 0 else ax_i M 129 (8 * n + a)) ∧ ax_i M2 130 (8 * n + a) = ax_i M 130 (8 * n + a) ∧ ax_i M2 131 (8 * n + a) = ax_i M 131 (8 * n + a) ∧ ax_i M2 132 (8 * n + a) = ax_i M 132 (8 * n + a)) : Sim (T + 1) M2 := by
  obtain ⟨h, g2, g3, g4, g5, g6, g7, i1, i2, i3, i4, i5, i6, i7, i8, i9, i10⟩ := id hg
  obtain ⟨a1, a2, a3, a4, a5, a6, a7, a8, a9, a10, a11, b1, b2, b3, b4, b5, b6, b7, b8, b9, b10, b11, b12, b13, b14, b15⟩ := id h1
  have fi := f.2.1
  have fL := f.2.2
  refine ⟨na, nq, nu, hh, mt + 1, ⟨f.W h, g2, g3, g4, by omega, by omega, by omega, ?_, ?_, ?_, ?_, ?_, ?_, ?_, ?_, ?_, f26⟩, ?_, ?_, ?_⟩
  · rw [fi _ _ (by unfold S_bid; omega)]; exact i1
  · rw [fi _ _ (by unfold S_bid; omega)]; exact i2
  · rw [fL _ _ (by unfold S_bid; omega), fL _ _ (by unfold S_bid; omega)]; exact i3
  · rw [fi _ _ (by unfold S_bid; omega)]; exact i4
  · rw [fi _ _ (by unfold S_bid; omega)]; exact i5
  · rw [fi _ _ (by unfold S_bid; omega)]; exact i6
  · rw [fi _ _ (by unfold S_bid; omega)]; exact i7
  · rw [fi _ _ (by unfold S_bid; omega)]; exact i8
  · rw [fi _ _ (by unfold S_bid; omega)]; exact i9
  · intro a ha8
    obtain ⟨c1, c2⟩ := hc a ha8
    obtain ⟨z1, z2⟩ := fc a ha8
    refine ⟨fun z => ?_, fun z => ?_⟩
    · obtain ⟨⟨w, w1, w2, w3⟩, _, _, p0, p1, p2, p3⟩ := c1 z
      refine ⟨⟨w, w1, ?_, ?_⟩, (z1 z).1, (z1 z).2, p0, p1, ?_, ?_⟩
      · rw [fi _ _ (by unfold S_bid; omega)]; exact w2
      · rw [fi _ _ (by unfold S_bid; omega)]; exact w3
      · rw [fi _ _ (by unfold S_bid; omega)]; exact p2
      · rw [fi _ _ (by unfold S_bid; omega)]; exact p3
    · obtain ⟨w1, w2, w3⟩ := c2 z
      refine ⟨?_, ?_, ?_⟩
      · rw [fi _ _ (by unfold S_bid; omega)]; exact w1
      · rw [z2 z]; exact w2
      · rw [fi _ _ (by unfold S_bid; omega)]; exact w3
  · intro m hm
    exact (hq m hm).fr f (fun id k z w => by unfold S_bid at w; omega)
  · intro m hm
    by_cases e : m = n
    rotate_left
    · exact ((ha m hm).up.fr f (fun id k z w => by unfold S_bid at w; omega)).mt (by omega)
    subst e
    refine ⟨kd, un, le, sp, sh, en, tl + 1, if kd = 0 then P else kp, fun a => if a = j then tl + 1 else td a, fun a => if a = j then mt else bw a, fun a => if a = j then U else if D a = true then 0 else u a, fun a => if a = j then P else if D a = true then 0 else p a, wn, fun a => if a = j then true else if D a = true then false else is a, ?_, ?_, ?_, ?_⟩
    · refine ⟨a1, a2, a3, a4, a5, a6, a7, a8, a9, by omega, by split <;> omega, ?_, ?_, ?_, ?_, ?_, ?_, ?_, ?_, ?_, ?_, ?_, ?_, f11, ?_, ?_⟩
      · rw [fi _ _ (by unfold S_bid; omega)]; exact b1
      · rw [fi _ _ (by unfold S_bid; omega)]; exact b2
      · rw [fi _ _ (by unfold S_bid; omega)]; exact b3
      · rw [fi _ _ (by unfold S_bid; omega)]; exact b4
      · rw [fi _ _ (by unfold S_bid; omega)]; exact b5
      · rw [fi _ _ (by unfold S_bid; omega)]; exact b6
      · rw [fi _ _ (by unfold S_bid; omega)]; exact b7
      · rw [fi _ _ (by unfold S_bid; omega)]; exact b8
      · rw [fi _ _ (by unfold S_bid; omega)]; exact b9
      · rw [fi _ _ (by unfold S_bid; omega)]; exact b10
      · rw [fi _ _ (by unfold S_bid; omega)]; exact b11
      · rw [fi _ _ (by unfold S_bid; omega)]; exact b12
      · by_cases k0 : kd = 0
        · rw [if_pos k0]; exact (fl k0).2
        · rw [if_neg k0]; exact fl4 (by omega)
      · intro k0
        rw [fL _ _ (by unfold S_bid; omega), if_neg k0]; exact b15 k0
    · intro a ha8
      obtain ⟨d1, d2, d3, d4, d5, d6, d7, d8, d9, d10, d11, d12, d13, d14, d15, d16⟩ := h2 a ha8
      have e5 : ax_i M2 (10 * m + 2005) a = nI (wn a) := by rw [fi _ _ (by unfold S_bid; omega)]; exact d7
      have e6 : ax_i M2 135 (8 * m + a) = nI (wn a) := by rw [fi _ _ (by unfold S_bid; omega)]; exact d8
      have e7 : ax_i M2 134 (8 * m + a) = 0 := by
        rw [fi _ _ (by unfold S_bid; omega), d12, if_neg (by omega)]
      by_cases ej : a = j
      · subst ej
        simp only [if_true]
        obtain ⟨y1, y2, y3, y4, y5, y6, y7⟩ := fj
        refine ⟨y1, by omega, y2, hU.2, y3, hP.2, e5, e6, d9, y4, fun _ => ⟨hj, y7, by omega, by omega⟩, ?_, fun _ => ⟨rfl, hP.1, y6⟩, fun _ => ⟨⟨fun _ => by omega, fun _ => rfl⟩, ⟨fun _ => by omega, fun _ => by omega⟩, fun _ => y5⟩, fun z => by omega, fun z => by omega⟩
        rw [e7, if_neg (by omega)]
      · simp only [if_neg ej]
        obtain ⟨y1, y2, y3, y4, y5, y6, y7⟩ := fo a ha8 ej
        cases hDa : D a
        · simp only [hDa, Bool.false_eq_true, if_false] at y2 y3 y4 ⊢
          rw [← y1] at d1
          rw [← y2] at d3
          rw [← y3] at d5
          rw [← y4] at d10
          refine ⟨d1, by omega, d3, d4, d5, d6, e5, e6, d9, d10, fun z => ?_, ?_, fun z => ?_, fun z => ?_, fun z => by omega, fun z => by omega⟩
          · obtain ⟨q1, q2, q3, q4⟩ := d11 z
            exact ⟨q1, y7.trans q2, by omega, q4⟩
          · rw [e7, if_neg (by omega)]
          · obtain ⟨q1, q2, q3⟩ := d13 z
            exact ⟨q1, q2, y6.trans q3⟩
          · obtain ⟨q1, q2, q3⟩ := d14 z
            exact ⟨q1, q2, fun w => y5.trans (q3 w)⟩
        · simp only [hDa, if_true] at y2 y3 y4 ⊢
          rw [← y1] at d1
          refine ⟨d1, by omega, y2, by omega, y3, by omega, e5, e6, d9, ?_, fun z => (by cases z), ?_, fun z => absurd rfl z, fun z => ⟨⟨fun w => (by cases w), fun w => absurd rfl w⟩, Iff.rfl, fun w => absurd rfl w⟩, fun z => by omega, fun z => by omega⟩
          · simpa using y4
          · rw [e7, if_neg (by omega)]
    · intro a b ha8 hb8
      have qa := h2 a ha8
      have qb := h2 b hb8
      by_cases ea : a = j
      · by_cases eb : b = j
        · subst ea; subst eb; intro _ _; simp only [if_true]; omega
        · simp only [if_pos ea, if_neg eb]
          intro _ z
          have zb : is b = true := by
            cases hDb : D b
            · simpa [hDb] using z
            · simp [hDb] at z
          have := qb.2.1
          have := (qb.2.2.2.2.2.2.2.2.2.2.1 zb).2.2.1
          omega
      · by_cases eb : b = j
        · simp only [if_neg ea, if_pos eb]
          intro z _
          have za : is a = true := by
            cases hDa : D a
            · simpa [hDa] using z
            · simp [hDa] at z
          have := qa.2.1
          have := (qa.2.2.2.2.2.2.2.2.2.2.1 za).2.2.1
          omega
        · simp only [if_neg ea, if_neg eb]
          intro z1 z2
          have za : is a = true := by
            cases hDa : D a
            · simpa [hDa] using z1
            · simp [hDa] at z1
          have zb : is b = true := by
            cases hDb : D b
            · simpa [hDb] using z2
            · simp [hDb] at z2
          exact h3 a b ha8 hb8 za zb
    · obtain ⟨l1, l2, l3, l4⟩ := h4
      refine ⟨fun k0 => Or.inr ⟨j, hj, (fl k0).1, ?_, ?_, ?_, fun a ha8 e => ?_⟩, fun z => ⟨?_, (l2 z).2⟩, fun z => ?_, fun z => by rcases k04 with k | k <;> (rw [k] at z; exact absurd z (by decide))⟩
      · simp only [if_true]; have := a4 (by omega); omega
      · simp only [if_true, if_pos k0]
      · rw [if_pos k0]; omega
      · simp only [if_neg e]
        cases hDa : D a
        · simpa using hD k0 a ha8 e hDa
        · rfl
      · rw [fi _ _ (by unfold S_bid; omega)]; exact (l2 z).1
      · rw [if_neg (by omega)]; exact l3 z
