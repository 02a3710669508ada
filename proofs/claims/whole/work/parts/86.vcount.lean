/-! COUNTING: the class -/
section
variable {na kd ch n nq nu : Nat} {w m sp : Nat → Nat} {has : Nat → Bool} {lk : Nat → List Nat}
theorem V_half_l {M : ax_M} (W : px_W nq nu M.2.2) (hn : n < nq) (g1 : ax_i M (10 * n + 1000) 1 = nI ch) (hch : ch ≤ 4) {f : Nat → Nat} (hf8 : ∀ c, c < ch → f c ≤ 8000 ∧ ax_i M 8 c = nI (f c)) : ∀ k c g, c + k = ch → F_V_hasMoreThanHalf_7 (g + k + 1) M (some 0) (some (10 * n + 1000)) (nI (mx f c)) (nI (ct f c)) (nI c) = some (if ct f ch < 2 * mx f ch then 1 else 0, M) := by
  intro k
  induction k with
  | zero =>
    intro c g e
    have : c = ch := by omega
    subst this
    have h1 := mx_le (f := f) (B := 8000) c (fun d hd => (hf8 d hd).1)
    have h2 := ct_le (f := f) (B := 8000) c (fun d hd => (hf8 d hd).1)
    have h3 : c * 8000 ≤ 32000 := by omega
    show G_V_hasMoreThanHalf_7 _ M _ _ _ _ _ = _
    have e2 : (2 : Int32) * nI (mx f c) = nI (2 * mx f c) := by rw [show (2 : Int32) = nI 2 from rfl, pk_mul]
    have e3 := nI_leI (a := 2 * mx f c) (b := ct f c) (by omega) (by omega)
    simp only [G_V_hasMoreThanHalf_7, G_V_hasMoreThanHalf_56, e_Q_gi nq nu W hn, g1, Option.bind_some, if_pos (Int32.le_refl _), e2, px_bo0, px_bo1]
    by_cases z : ct f c < 2 * mx f c
    · rw [if_pos z, if_neg (fun q => by have := e3.mp q; omega)]
    · rw [if_neg z, if_pos (e3.mpr (by omega))]
  | succ k ih =>
    intro c g e
    have hc : c < ch := by omega
    have x1 : ¬ nI ch ≤ nI c := nI_ge hc (by omega)
    obtain ⟨f1, f2⟩ := hf8 c hc
    have h1 := mx_le (f := f) (B := 8000) c (fun d hd => (hf8 d (by omega)).1)
    rw [← ih (c + 1) g (by omega)]
    show G_V_hasMoreThanHalf_7 (F_V_hasMoreThanHalf_7 (g + k + 1)) M _ _ _ _ _ = _
    have e1 : (if nI (mx f c) < nI (f c) then nI (f c) else nI (mx f c)) = nI (mx f (c + 1)) := by
      show _ = nI (if mx f c < f c then f c else mx f c)
      by_cases z : mx f c < f c
      · rw [if_pos z, if_pos ((nI_ltI (by omega) (by omega)).mpr z)]
      · rw [if_neg z, if_neg (fun q => z ((nI_ltI (by omega) (by omega)).mp q))]
    have e2 : nI (ct f c) + nI (f c) = nI (ct f (c + 1)) := nI_add _ _
    simp only [G_V_hasMoreThanHalf_7, e_Q_gi nq nu W hn, g1, Option.bind_some, if_neg x1, e_V_r12 nq nu W, e_V_rd8 nq nu W (show c < 4 by omega), f2, e1, e2, nI_1]
theorem V_half {M : ax_M} (W : px_W nq nu M.2.2) (hn : n < nq) (g1 : ax_i M (10 * n + 1000) 1 = nI ch) (hch : ch ≤ 4) {f : Nat → Nat} (hf8 : ∀ c, c < ch → f c ≤ 8000 ∧ ax_i M 8 c = nI (f c)) : f_V_hasMoreThanHalf M (some 0) (some (10 * n + 1000)) = some (if ct f ch < 2 * mx f ch then 1 else 0, M) := by
  have := V_half_l W hn g1 hch hf8 ch 0 (63 - ch) (by omega)
  rw [show 63 - ch + ch + 1 = 64 by omega] at this
  exact this
theorem V_least_l {M : ax_M} (W : px_W nq nu M.2.2) (hn : n < nq) (g1 : ax_i M (10 * n + 1000) 1 = nI ch) (hch : ch ≤ 4) {f : Nat → Nat} (hf8 : ∀ c, c < ch → f c ≤ 8000 ∧ ax_i M 8 c = nI (f c)) {s : Nat} (hs : s < 16) : ∀ k c g, c + k = ch → F_V_leastCounted_5 (g + k + 1) M (some 0) (some (10 * n + 1000)) (nI s) (vi (le_f f s c)) (nI c) = some (vi (le_f f s ch), M) := by
  intro k
  induction k with
  | zero =>
    intro c g e
    have : c = ch := by omega
    subst this
    show G_V_leastCounted_5 _ M _ _ _ _ _ = _
    simp only [G_V_leastCounted_5, e_Q_gi nq nu W hn, g1, Option.bind_some, if_pos (Int32.le_refl _)]
  | succ k ih =>
    intro c g e
    have hc : c < ch := by omega
    have x1 : ¬ nI ch ≤ nI c := nI_ge hc (by omega)
    obtain ⟨f1, f2⟩ := hf8 c hc
    rw [← ih (c + 1) g (by omega)]
    show G_V_leastCounted_5 (F_V_leastCounted_5 (g + k + 1)) M _ _ _ _ _ = _
    have b1 := rk_b1 s hs c (by omega)
    have el : le_f f s (c + 1) = if s / 2 ^ c % 2 = 1 then (match le_f f s c with | none => some c | some b => if f c ≤ f b then some c else some b) else le_f f s c := rfl
    by_cases z : s / 2 ^ c % 2 = 1
    · rw [if_pos z] at el
      rw [z] at b1
      cases hb : le_f f s c with
      | none =>
        rw [hb] at el
        simp only [G_V_leastCounted_5, G_V_leastCounted_47, G_V_leastCounted_44, e_Q_gi nq nu W hn, g1, Option.bind_some, if_neg x1, V_hasChoice, b1, show (nI 1 = 0) = False from eq_false (by decide), if_false, i32_10, vi, if_true, el, nI_1]
      | some b =>
        rw [hb] at el
        have hb2 := (le_some c b hb).1
        obtain ⟨f3, f4⟩ := hf8 b (by omega)
        have p0 : ¬ nI b < 0 := nI_pos (by omega)
        have nm : ¬ nI b = -1 := fun q => absurd (by rw [q]; decide) p0
        have b4 : b < 4 := by omega
        have c4 : c < 4 := by omega
        by_cases y : f c ≤ f b
        · simp only [if_pos y] at el
          have y' : ¬ nI (f b) < nI (f c) := fun q => by have := (nI_ltI (by omega) (by omega)).mp q; omega
          simp only [G_V_leastCounted_5, G_V_leastCounted_47, G_V_leastCounted_44, e_Q_gi nq nu W hn, g1, Option.bind_some, if_neg x1, V_hasChoice, b1, show (nI 1 = 0) = False from eq_false (by decide), if_false, i32_10, vi, if_neg nm, e_V_r12 nq nu W, e_V_rd8 nq nu W c4, e_V_rd8 nq nu W b4, f2, f4, if_neg y', el, nI_1]
        · simp only [if_neg y] at el
          have y' : nI (f b) < nI (f c) := (nI_ltI (by omega) (by omega)).mpr (by omega)
          simp only [G_V_leastCounted_5, G_V_leastCounted_47, G_V_leastCounted_44, e_Q_gi nq nu W hn, g1, Option.bind_some, if_neg x1, V_hasChoice, b1, show (nI 1 = 0) = False from eq_false (by decide), if_false, i32_10, vi, if_neg nm, e_V_r12 nq nu W, e_V_rd8 nq nu W c4, e_V_rd8 nq nu W b4, f2, f4, if_pos y', el, nI_1]
    · rw [if_neg z] at el
      rw [show s / 2 ^ c % 2 = 0 by omega] at b1
      simp only [G_V_leastCounted_5, G_V_leastCounted_47, G_V_leastCounted_44, e_Q_gi nq nu W hn, g1, Option.bind_some, if_neg x1, V_hasChoice, b1, nI_0, if_true, el, nI_1]
theorem V_least {M : ax_M} (W : px_W nq nu M.2.2) (hn : n < nq) (g1 : ax_i M (10 * n + 1000) 1 = nI ch) (hch : ch ≤ 4) {f : Nat → Nat} (hf8 : ∀ c, c < ch → f c ≤ 8000 ∧ ax_i M 8 c = nI (f c)) {s : Nat} (hs : s < 16) : f_V_leastCounted M (some 0) (some (10 * n + 1000)) (nI s) = some (vi (le_f f s ch), M) := by
  have := V_least_l W hn g1 hch hf8 hs ch 0 (63 - ch) (by omega)
  rw [show 63 - ch + ch + 1 = 64 by omega] at this
  exact this
theorem V_most_l {M : ax_M} (W : px_W nq nu M.2.2) (hn : n < nq) (g1 : ax_i M (10 * n + 1000) 1 = nI ch) (hch : ch ≤ 4) {f : Nat → Nat} (hf8 : ∀ c, c < ch → f c ≤ 8000 ∧ ax_i M 8 c = nI (f c)) : ∀ k c g, c + k = ch → (∀ b, mo_f f c = some b → b < c) → F_V_mostCounted_7 (g + k + 1) M (some 0) (some (10 * n + 1000)) (vi (mo_f f c)) (nI (match mo_f f c with | none => 0 | some b => f b)) (nI c) = some (vi (mo_f f ch), M) := by
  intro k
  induction k with
  | zero =>
    intro c g e _
    have : c = ch := by omega
    subst this
    show G_V_mostCounted_7 _ M _ _ _ _ _ = _
    simp only [G_V_mostCounted_7, e_Q_gi nq nu W hn, g1, Option.bind_some, if_pos (Int32.le_refl _)]
  | succ k ih =>
    intro c g e hlt
    have hc : c < ch := by omega
    have x1 : ¬ nI ch ≤ nI c := nI_ge hc (by omega)
    obtain ⟨f1, f2⟩ := hf8 c hc
    obtain ⟨t, ht⟩ : ∃ t, t = (match mo_f f c with | none => 0 | some b => f b) := ⟨_, rfl⟩
    have ht8 : t ≤ 8000 := by
      cases hb : mo_f f c with
      | none => rw [hb] at ht; simp only at ht; omega
      | some b =>
        rw [hb] at ht
        have := hlt b hb
        have := (hf8 b (by omega)).1
        simp only at ht
        omega
    have em : mo_f f (c + 1) = if t < f c then some c else mo_f f c := by rw [ht]; rfl
    have hlt2 : ∀ b, mo_f f (c + 1) = some b → b < c + 1 := by
      intro b hb
      rw [em] at hb
      by_cases z : t < f c
      · rw [if_pos z] at hb; rw [← Option.some.inj hb]; omega
      · rw [if_neg z] at hb; have := hlt b hb; omega
    rw [← ih (c + 1) g (by omega) hlt2, ← ht]
    show G_V_mostCounted_7 (F_V_mostCounted_7 (g + k + 1)) M _ _ _ _ _ = _
    have e3 := nI_leI (a := f c) (b := t) (by omega) (by omega)
    by_cases z : t < f c
    · rw [if_pos z] at em
      have z' : ¬ nI (f c) ≤ nI t := fun q => by have := e3.mp q; omega
      simp only [G_V_mostCounted_7, G_V_mostCounted_38, e_Q_gi nq nu W hn, g1, Option.bind_some, if_neg x1, e_V_r12 nq nu W, e_V_rd8 nq nu W (show c < 4 by omega), f2, if_neg z', em, vi, nI_1]
    · rw [if_neg z] at em
      have z' : nI (f c) ≤ nI t := e3.mpr (by omega)
      rw [em, ← ht]
      simp only [G_V_mostCounted_7, G_V_mostCounted_38, e_Q_gi nq nu W hn, g1, Option.bind_some, if_neg x1, e_V_r12 nq nu W, e_V_rd8 nq nu W (show c < 4 by omega), f2, if_pos z', nI_1]
theorem V_most {M : ax_M} (W : px_W nq nu M.2.2) (hn : n < nq) (g1 : ax_i M (10 * n + 1000) 1 = nI ch) (hch : ch ≤ 4) {f : Nat → Nat} (hf8 : ∀ c, c < ch → f c ≤ 8000 ∧ ax_i M 8 c = nI (f c)) : f_V_mostCounted M (some 0) (some (10 * n + 1000)) = some (vi (mo_f f ch), M) := by
  have := V_most_l W hn g1 hch hf8 ch 0 (63 - ch) (by omega) (fun b hb => by cases hb)
  rw [show 63 - ch + ch + 1 = 64 by omega] at this
  exact this
theorem cn_le (c : cq_p na kd ch w m sp has lk) (s d : Nat) : cn kd (vc kd has sp) w m lk s d ≤ 8000 := by
  have := ct_le (f := ca kd (vc kd has sp) w m lk s d) (B := 1000) 8 (fun a ha => by
    unfold ca
    cases vc kd has sp a with
    | none => exact Nat.zero_le _
    | some x => exact sh_le (c.2.2.2.2 a ha).1)
  exact this
theorem half_eq (c : cq_p na 2 ch w m sp has lk) (s : Nat) : (ct (cn 2 (vc 2 has sp) w m lk s) ch < 2 * mx (cn 2 (vc 2 has sp) w m lk s) ch) ↔ hf (cn 2 (vc 2 has sp) w m lk s) s (ct (cn 2 (vc 2 has sp) w m lk s) 4) 4 = true := by
  have h4 := c.2.2.2.1
  have ez : ct (cn 2 (vc 2 has sp) w m lk s) 4 = ct (cn 2 (vc 2 has sp) w m lk s) ch := by
    have := ct_z (f := cn 2 (vc 2 has sp) w m lk s) (n := ch) (4 - ch) (fun a h1 h2 => Nat.eq_zero_of_not_pos (fun q => by have := (cn_bit c q).2; omega))
    rw [show ch + (4 - ch) = 4 by omega] at this
    exact this
  rw [mx_half, hf_iff, ez]
  constructor
  · rintro ⟨d, h1, h2⟩
    exact ⟨d, by omega, (cn_bit c (show 0 < cn 2 (vc 2 has sp) w m lk s d by omega)).1, h2⟩
  · rintro ⟨d, h1, h2, h3⟩
    exact ⟨d, (cn_bit c (show 0 < cn 2 (vc 2 has sp) w m lk s d by omega)).2, h3⟩
theorem ro_len (F : Nat → Nat → Nat) : ∀ k s, (ro F k s).1.length ≤ k := by
  intro k
  induction k with
  | zero => intro s; exact Nat.le_refl _
  | succ k ih =>
    intro s
    show (if hf (F s) s (ct (F s) 4) 4 = true then ([], s) else match le_f (F s) s 4 with | none => ([], s) | some b => (b :: (ro F k (s - 2 ^ b)).1, (ro F k (s - 2 ^ b)).2) : List Nat × Nat).1.length ≤ k + 1
    by_cases h : hf (F s) s (ct (F s) 4) 4 = true
    · rw [if_pos h]; exact Nat.zero_le _
    · rw [if_neg h]
      cases le_f (F s) s 4 with
      | none => exact Nat.zero_le _
      | some b => exact Nat.succ_le_succ (ih _)
theorem ro_s (F : Nat → Nat → Nat) {k s b : Nat} (h : ¬ hf (F s) s (ct (F s) 4) 4 = true) (hb : le_f (F s) s 4 = some b) : ro F (k + 1) s = (b :: (ro F k (s - 2 ^ b)).1, (ro F k (s - 2 ^ b)).2) := by
  show (if hf (F s) s (ct (F s) 4) 4 = true then ([], s) else match le_f (F s) s 4 with | none => ([], s) | some b => (b :: (ro F k (s - 2 ^ b)).1, (ro F k (s - 2 ^ b)).2)) = _
  rw [if_neg h, hb]
theorem ro_h (F : Nat → Nat → Nat) {k s : Nat} (h : hf (F s) s (ct (F s) 4) 4 = true) : ro F (k + 1) s = ([], s) := by
  show (if hf (F s) s (ct (F s) 4) 4 = true then ([], s) else match le_f (F s) s 4 with | none => ([], s) | some b => (b :: (ro F k (s - 2 ^ b)).1, (ro F k (s - 2 ^ b)).2)) = _
  rw [if_pos h]
theorem V_count_47 {M : ax_M} (W : px_W nq nu M.2.2) (hn : n < nq) (c : cq_p na kd ch w m sp has lk) (g : cq_V M n kd ch w m sp has) {K : Nat} (hK : K ≤ 3) : ∀ k s r f M', r + k = K → s < 2 ^ ch → (k ≠ 0 → kd = 2 ∧ rk_p s = k + 1) → px_fr S_cv M M' → (∀ b, b < 8 → ax_i M' 7 b = vi (vc kd has sp b)) → (∀ d, d < ch → ax_i M' 8 d = nI (cn kd (vc kd has sp) w m lk s d)) → ax_i M' 0 14 = nI r → ∃ M3, F_V_countVotes_47 (f + k + 1) M' (some 0) (some (10 * n + 1000)) (nI s) (nI K) (nI r) = some M3 ∧ px_fr S_cv M M3 ∧ (∀ b, b < 8 → ax_i M3 7 b = vi (vc kd has sp b)) ∧ (∀ d, d < ch → ax_i M3 8 d = nI (cn kd (vc kd has sp) w m lk (ro (cn kd (vc kd has sp) w m lk) k s).2 d)) ∧ ax_i M3 0 14 = nI (r + (ro (cn kd (vc kd has sp) w m lk) k s).1.length) ∧ (∀ j, j < r → ax_i M3 9 j = ax_i M' 9 j) ∧ ∀ j, j < (ro (cn kd (vc kd has sp) w m lk) k s).1.length → ax_i M3 9 (r + j) = nI ((ro (cn kd (vc kd has sp) w m lk) k s).1.getD j 0) := by
  have h4 := c.2.2.2.1
  intro k
  induction k with
  | zero =>
    intro s r f M' e hs _ fr hv hcn h14
    have : r = K := by omega
    subst this
    refine ⟨M', ?_, fr, hv, hcn, h14, fun _ _ => rfl, fun j z => absurd z (Nat.not_lt_zero _)⟩
    show G_V_countVotes_47 _ M' _ _ _ _ _ = _
    simp only [G_V_countVotes_47, G_V_countVotes_107, if_pos (Int32.le_refl _)]
  | succ k ih =>
    intro s r f M' e hs hk fr hv hcn h14
    obtain ⟨k2, hp⟩ := hk (by omega)
    subst k2
    have W' := fr.W W
    have g' := g.fr fr
    have x1 : ¬ nI K ≤ nI r := nI_ge (by omega) (by omega)
    have s16 : s < 16 := ((rb_2 ch (by omega)).1 s hs).1
    have hz := ((rb_2 ch (by omega)).1 s hs).2
    have hf8 : ∀ d, d < ch → cn 2 (vc 2 has sp) w m lk s d ≤ 8000 ∧ ax_i M' 8 d = nI (cn 2 (vc 2 has sp) w m lk s d) := fun d hd => ⟨cn_le c s d, hcn d hd⟩
    have eH := V_half W' hn g'.2.1 h4 hf8
    have hhf := half_eq c s
    by_cases hh : hf (cn 2 (vc 2 has sp) w m lk s) s (ct (cn 2 (vc 2 has sp) w m lk s) 4) 4 = true
    · rw [if_pos (hhf.mpr hh)] at eH
      refine ⟨M', ?_, fr, hv, ?_, ?_, fun _ _ => rfl, ?_⟩
      · show G_V_countVotes_47 (F_V_countVotes_47 (f + k + 1)) M' _ _ _ _ _ = _
        simp only [G_V_countVotes_47, G_V_countVotes_107, if_neg x1, e_V_ob nq nu W', eH, Option.bind_some, i32_10, if_false]
      · rw [ro_h _ hh]; exact hcn
      · rw [ro_h _ hh]; exact h14
      · rw [ro_h _ hh]; intro j z; exact absurd z (Nat.not_lt_zero _)
    · rw [if_neg (fun q => hh (hhf.mp q))] at eH
      have eL := V_least W' hn g'.2.1 h4 hf8 s16
      have el4 : le_f (cn 2 (vc 2 has sp) w m lk s) s 4 = le_f (cn 2 (vc 2 has sp) w m lk s) s ch := by
        have := le_ext (f := cn 2 (vc 2 has sp) w m lk s) (s := s) (n := ch) (4 - ch) (fun d h1 h2 => hz d (by omega) h1)
        rw [show ch + (4 - ch) = 4 by omega] at this
        exact this
      cases hb : le_f (cn 2 (vc 2 has sp) w m lk s) s 4 with
      | none =>
        obtain ⟨d, h1, h2⟩ := rb_p (s := s) (by omega)
        exact absurd h2 (le_none 4 hb d h1)
      | some b =>
        obtain ⟨hb4, hbit⟩ := le_some 4 b hb
        rw [← el4, hb] at eL
        obtain ⟨bits, hs2, hp2⟩ := rb_1 (ch := ch) (by omega) hs hb4 hbit
        have s2 : s - 2 ^ b < 16 := ((rb_2 ch (by omega)).1 _ hs2).1
        obtain ⟨M2, hM2⟩ : ∃ M2, M2 = ax_wi (ax_wi M' 9 r (nI b)) 0 14 (nI (r + 1)) := ⟨_, rfl⟩
        have fr2 : px_fr S_cv M M2 := by
          rw [hM2]
          exact (fr.wi (Or.inr (Or.inr (Or.inl rfl)))).wi (Or.inr (Or.inr (Or.inr ⟨rfl, rfl⟩)))
        have W2 := fr2.W W
        have g2 := g.fr fr2
        have hv2 : ∀ b', b' < 8 → ax_i M2 7 b' = vi (vc 2 has sp b') := fun b' hb' => by rw [hM2, px_i_wi, if_neg (by omega), px_i_wi, if_neg (by omega)]; exact hv b' hb'
        obtain ⟨M3, q1, q2, q3⟩ := V_countRound W2 hn c g2 hv2 s2
        have fr3 : px_fr S_cv M M3 := fr2.trans (q2.mono fun id k z => Or.inr (Or.inl z))
        have hv3 : ∀ b', b' < 8 → ax_i M3 7 b' = vi (vc 2 has sp b') := fun b' hb' => by rw [q2.2.1 7 b' (by omega)]; exact hv2 b' hb'
        have h143 : ax_i M3 0 14 = nI (r + 1) := by rw [q2.2.1 0 14 (by omega), hM2, px_i_wi, if_pos ⟨rfl, rfl⟩]
        obtain ⟨M4, r1, r2, r3, r4, r5, r6, r7⟩ := ih (s - 2 ^ b) (r + 1) f M3 (by omega) hs2 (fun _ => ⟨rfl, by omega⟩) fr3 hv3 q3 h143
        have h9 : ∀ j, ax_i M3 9 j = if j = r then nI b else ax_i M' 9 j := fun j => by
          rw [q2.2.1 9 j (by omega), hM2, px_i_wi, if_neg (by omega), px_i_wi]
          by_cases z : j = r
          · rw [if_pos ⟨rfl, z⟩, if_pos z]
          · rw [if_neg (fun q => z q.2), if_neg z]
        refine ⟨M4, ?_, r2, r3, ?_, ?_, fun j hj => ?_, ?_⟩
        · rw [← r1]
          show G_V_countVotes_47 (F_V_countVotes_47 (f + k + 1)) M' _ _ _ _ _ = _
          have hr4 : r < 4 := by omega
          have eL' : f_V_leastCounted M' (some 0) (some (10 * n + 1000)) (nI s) = some (nI b, M') := eL
          simp only [G_V_countVotes_47, if_neg x1, e_V_ob nq nu W', eH, Option.bind_some, if_true, eL', e_V_r13 nq nu W', e_V_wr9 nq nu W' hr4, nI_1, e_V_pi nq nu (M := ax_wi _ _ _ _) W', bits, ← hM2, e_V_ob nq nu W2, q1]
        · rw [ro_s _ hh hb]; exact r4
        · rw [ro_s _ hh hb]
          show _ = nI (r + ((ro (cn 2 (vc 2 has sp) w m lk) k (s - 2 ^ b)).1.length + 1))
          rw [r5]; congr 1; omega
        · rw [r6 j (by omega), h9, if_neg (by omega)]
        · rw [ro_s _ hh hb]
          intro j hj
          cases j with
          | zero =>
            show ax_i M4 9 (r + 0) = nI b
            rw [Nat.add_zero, r6 r (by omega), h9, if_pos rfl]
          | succ j =>
            have hj' : j < (ro (cn 2 (vc 2 has sp) w m lk) k (s - 2 ^ b)).1.length := Nat.lt_of_succ_lt_succ hj
            have := r7 j hj'
            rw [show r + 1 + j = r + (j + 1) by omega] at this
            exact this
/-- how many may fall -/
def rk (kd ch : Nat) : Nat := if kd = 2 then ch - 1 else 0
theorem V_countVotes {M : ax_M} (W : px_W nq nu M.2.2) (hn : n < nq) (c : cq_p na kd ch w m sp has lk) (g : cq_V M n kd ch w m sp has) : ∃ M3, f_V_countVotes M (some 0) (some (10 * n + 1000)) = some M3 ∧ px_fr S_cv M M3 ∧ (∀ b, b < 8 → ax_i M3 7 b = vi (vc kd has sp b)) ∧ (∀ d, d < ch → ax_i M3 8 d = nI (cn kd (vc kd has sp) w m lk (ro (cn kd (vc kd has sp) w m lk) (rk kd ch) (2 ^ ch - 1)).2 d)) ∧ ax_i M3 0 14 = nI ((ro (cn kd (vc kd has sp) w m lk) (rk kd ch) (2 ^ ch - 1)).1.length) ∧ ∀ j, j < (ro (cn kd (vc kd has sp) w m lk) (rk kd ch) (2 ^ ch - 1)).1.length → ax_i M3 9 j = nI ((ro (cn kd (vc kd has sp) w m lk) (rk kd ch) (2 ^ ch - 1)).1.getD j 0) := by
  have h4 := c.2.2.2.1
  have h2 := c.2.2.1
  obtain ⟨rb, rs, rp, ri, _⟩ := rb_2 ch (by omega)
  have s16 := (rb _ rs).1
  obtain ⟨M1, e1, f1, v1⟩ := V_findVoices W hn c g
  have fr1 : px_fr S_cv M M1 := f1.mono fun id k z => Or.inl z
  have W1 := fr1.W W
  have g1 := g.fr fr1
  obtain ⟨M2, e2, f2, c2⟩ := V_countRound W1 hn c g1 v1 s16
  have fr2 : px_fr S_cv M M2 := fr1.trans (f2.mono fun id k z => Or.inr (Or.inl z))
  have W2 := fr2.W W
  have fr3 : px_fr S_cv M (ax_wi M2 0 14 0) := fr2.wi (Or.inr (Or.inr (Or.inr ⟨rfl, rfl⟩)))
  have W3 := fr3.W W
  have g3 := g.fr fr3
  have hrk : rk kd ch ≤ 3 := by unfold rk; split <;> omega
  obtain ⟨M4, q1, q2, q3, q4, q5, q6, q7⟩ := V_count_47 W hn c g hrk (rk kd ch) (2 ^ ch - 1) 0 (63 - rk kd ch) (ax_wi M2 0 14 0) (by omega) rs (fun z => by
    unfold rk at z ⊢
    by_cases k2 : kd = 2
    · rw [if_pos k2]; exact ⟨k2, by omega⟩
    · rw [if_neg k2] at z; exact absurd rfl z) fr3 (fun b hb => by rw [px_i_wi, if_neg (by omega), f2.2.1 7 b (by omega)]; exact v1 b hb) (fun d hd => by rw [px_i_wi, if_neg (by omega)]; exact c2 d hd) (by rw [px_i_wi, if_pos ⟨rfl, rfl⟩]; rfl)
  rw [show 63 - rk kd ch + rk kd ch + 1 = 64 by omega] at q1
  refine ⟨M4, ?_, q2, q3, q4, by rw [q5, Nat.zero_add], fun j hj => by have := q7 j hj; rw [Nat.zero_add] at this; exact this⟩
  rw [← q1]
  have kd2 := (iv_kd kd c.2.1).2.2
  by_cases k2 : kd = 2
  · have e0 : (nI kd = 2) = True := eq_true (kd2.mpr k2)
    have er : rk kd ch = ch - 1 := by unfold rk; rw [if_pos k2]
    simp only [f_V_countVotes, G_V_countVotes_43, e_V_ob nq nu W, e1, Option.bind_some, e_Q_gi nq nu W1 hn, g1.2.1, ri, e_V_ob nq nu W1, e2, e_V_pi nq nu W2, e_Q_gi nq nu W3 hn, g3.1, g3.2.1, e0, if_true, rk_m1 (show 0 < ch by omega), er, nI_0]
  · have e0 : (nI kd = 2) = False := eq_false (fun z => k2 (kd2.mp z))
    have er : rk kd ch = 0 := by unfold rk; rw [if_neg k2]
    simp only [f_V_countVotes, G_V_countVotes_43, e_V_ob nq nu W, e1, Option.bind_some, e_Q_gi nq nu W1 hn, g1.2.1, ri, e_V_ob nq nu W1, e2, e_V_pi nq nu W2, e_Q_gi nq nu W3 hn, g3.1, e0, if_false, er, nI_0]
end
