/-! COUNTING: who speaks for whom, in numbers alone -/
theorem ph_1 : ∀ N (f : Nat → Nat), (∀ i, i ≤ N → f i < N) → ∃ i j, i < j ∧ j ≤ N ∧ f i = f j := by
  intro N
  induction N with
  | zero => intro f h; exact absurd (h 0 (Nat.le_refl _)) (Nat.not_lt_zero _)
  | succ N ih =>
    intro f h
    by_cases hv : ∃ i, i ≤ N ∧ f i = f (N + 1)
    · obtain ⟨i, h1, h2⟩ := hv
      exact ⟨i, N + 1, by omega, Nat.le_refl _, h2⟩
    · have hne : ∀ i, i ≤ N → f i ≠ f (N + 1) := fun i hi z => hv ⟨i, hi, z⟩
      have hlast := h (N + 1) (Nat.le_refl _)
      obtain ⟨i, j, h1, h2, h3⟩ := ih (fun i => if f i = N then f (N + 1) else f i) (fun i hi => by
        show (if f i = N then f (N + 1) else f i) < N
        have a := h i (by omega)
        have b := hne i hi
        by_cases e : f i = N
        · rw [if_pos e]; omega
        · rw [if_neg e]; omega)
      refine ⟨i, j, h1, by omega, ?_⟩
      have bi := hne i (by omega)
      have bj := hne j h2
      by_cases ei : f i = N
      · by_cases ej : f j = N
        · omega
        · simp only [if_pos ei, if_neg ej] at h3; exact absurd h3.symm bj
      · by_cases ej : f j = N
        · simp only [if_neg ei, if_pos ej] at h3; exact absurd h3 bi
        · simp only [if_neg ei, if_neg ej] at h3; exact h3
def vo (has : Nat → Bool) (sp : Nat → Nat) : Nat → Nat → Option Nat
  | 0, _ => none
  | k + 1, a => if has a = true then some a else vo has sp k (sp a)
def vo_it (sp : Nat → Nat) : Nat → Nat → Nat
  | 0, a => a
  | k + 1, a => vo_it sp k (sp a)
section
variable {has : Nat → Bool} {sp : Nat → Nat}
theorem vo_add : ∀ i d a, vo_it sp (i + d) a = vo_it sp d (vo_it sp i a) := by
  intro i
  induction i with
  | zero => intro d a; rw [Nat.zero_add]; rfl
  | succ i ih => intro d a; rw [Nat.succ_add]; exact ih d (sp a)
theorem vo_none : ∀ k a, vo has sp k a = none ↔ ∀ j, j < k → has (vo_it sp j a) = false := by
  intro k
  induction k with
  | zero => intro a; exact ⟨fun _ j z => absurd z (Nat.not_lt_zero _), fun _ => rfl⟩
  | succ k ih =>
    intro a
    show (if has a = true then some a else vo has sp k (sp a)) = none ↔ _
    cases hh : has a with
    | true =>
      rw [if_pos rfl]
      exact ⟨fun z => (by cases z), fun z => by have := z 0 (by omega); rw [show vo_it sp 0 a = a from rfl, hh] at this; cases this⟩
    | false =>
      rw [if_neg (by decide), ih (sp a)]
      constructor
      · intro z j hj
        cases j with
        | zero => exact hh
        | succ j => exact z j (by omega)
      · intro z j hj
        exact z (j + 1) (by omega)
theorem vo_mono : ∀ k a x, vo has sp k a = some x → vo has sp (k + 1) a = some x := by
  intro k
  induction k with
  | zero => intro a x z; cases z
  | succ k ih =>
    intro a x z
    show (if has a = true then some a else vo has sp (k + 1) (sp a)) = some x
    have z' : (if has a = true then some a else vo has sp k (sp a)) = some x := z
    by_cases h : has a = true
    · rw [if_pos h] at z' ⊢; exact z'
    · rw [if_neg h] at z' ⊢; exact ih _ _ z'
theorem vo_8 (h8 : ∀ b, b < 8 → sp b < 8) {a : Nat} (ha : a < 8) : vo has sp 9 a = vo has sp 8 a := by
  cases e : vo has sp 8 a with
  | some x => exact vo_mono 8 a x e
  | none =>
    have hn := (vo_none 8 a).mp e
    have hl : ∀ j a, a < 8 → vo_it sp j a < 8 := by
      intro j
      induction j with
      | zero => intro a z; exact z
      | succ j ih => intro a z; exact ih (sp a) (h8 a z)
    obtain ⟨i, j, h1, h2, h3⟩ := ph_1 8 (fun i => vo_it sp i a) (fun i _ => hl i a ha)
    refine (vo_none 9 a).mpr fun k hk => ?_
    by_cases k8 : k < 8
    · exact hn k k8
    · have ek : k = 8 := by omega
      have e1 := vo_add (sp := sp) j (8 - j) a
      have e2 := vo_add (sp := sp) i (8 - j) a
      have h3' : vo_it sp i a = vo_it sp j a := h3
      rw [← h3', ← e2, show j + (8 - j) = 8 by omega] at e1
      rw [ek, e1]
      exact hn _ (by omega)
theorem vo_self {a : Nat} (hh : has a = false) (hs : sp a = a) : ∀ k, vo has sp k a = none := by
  intro k
  induction k with
  | zero => rfl
  | succ k ih =>
    show (if has a = true then some a else vo has sp k (sp a)) = none
    rw [if_neg (by rw [hh]; decide), hs, ih]
theorem vo_lt {N : Nat} (hN : ∀ b, b < N → sp b < N) : ∀ k a x, a < N → vo has sp k a = some x → x < N ∧ has x = true := by
  intro k
  induction k with
  | zero => intro a x _ z; cases z
  | succ k ih =>
    intro a x ha z
    have z' : (if has a = true then some a else vo has sp k (sp a)) = some x := z
    by_cases h : has a = true
    · rw [if_pos h] at z'; rw [← Option.some.inj z']; exact ⟨ha, h⟩
    · rw [if_neg h] at z'; exact ih _ _ (hN a ha) z'
def rv (na : Nat) (has : Nat → Bool) (sp : Nat → Nat) : Nat → Nat → Option Nat
  | 0, a => if a < na ∧ has a = true then some a else none
  | t + 1, a => if a < na then (if rv na has sp t a = none then rv na has sp t (sp a) else rv na has sp t a) else rv na has sp t a
theorem rv_vo {na : Nat} (hs : ∀ a, a < na → sp a < na) : ∀ t a, a < na → rv na has sp t a = vo has sp (t + 1) a := by
  intro t
  induction t with
  | zero =>
    intro a ha
    show (if a < na ∧ has a = true then some a else none) = (if has a = true then some a else none)
    by_cases h : has a = true
    · rw [if_pos ⟨ha, h⟩, if_pos h]
    · rw [if_neg (fun z => h z.2), if_neg h]
  | succ t ih =>
    intro a ha
    show (if a < na then (if rv na has sp t a = none then rv na has sp t (sp a) else rv na has sp t a) else rv na has sp t a) = _
    rw [if_pos ha, ih a ha, ih (sp a) (hs a ha)]
    cases e : vo has sp (t + 1) a with
    | some x =>
      rw [if_neg (by intro z; cases z)]
      exact (vo_mono _ _ _ e).symm
    | none =>
      rw [if_pos rfl]
      have := (vo_none (t + 1) a).mp e 0 (by omega)
      show _ = (if has a = true then some a else vo has sp (t + 1) (sp a))
      rw [if_neg (by rw [show vo_it sp 0 a = a from rfl] at this; rw [this]; decide)]
theorem rv_out {na a : Nat} (ha : na ≤ a) : ∀ t, rv na has sp t a = none := by
  intro t
  induction t with
  | zero =>
    show (if a < na ∧ has a = true then some a else none) = none
    rw [if_neg (by omega)]
  | succ t ih =>
    show (if a < na then (if rv na has sp t a = none then rv na has sp t (sp a) else rv na has sp t a) else rv na has sp t a) = none
    rw [if_neg (by omega), ih]
end
/-- a voice as a number -/
def vi : Option Nat → Int32
  | none => -1
  | some x => nI x
theorem vi_neg {o : Option Nat} (h : ∀ x, o = some x → x < 8) : (vi o = -1 ↔ o = none) ∧ (vi o < 0 ↔ o = none) ∧ (0 ≤ vi o ↔ o ≠ none) := by
  cases o with
  | none => exact ⟨⟨fun _ => rfl, fun _ => rfl⟩, ⟨fun _ => rfl, fun _ => (by decide : (-1 : Int32) < 0)⟩, ⟨fun z => absurd z (by decide : ¬ (0 : Int32) ≤ -1), fun z => absurd rfl z⟩⟩
  | some x =>
    have hx := h x rfl
    have p : ¬ nI x < 0 := nI_pos (by omega)
    refine ⟨⟨fun z => ?_, fun z => by cases z⟩, ⟨fun z => absurd z p, fun z => by cases z⟩, ⟨fun _ z => (by cases z), fun _ => nI_pos' (by omega)⟩⟩
    have z' : nI x = -1 := z
    exact absurd (by rw [z']; decide) p
/-- the voice that counts -/
def vc (kd : Nat) (has : Nat → Bool) (sp : Nat → Nat) (a : Nat) : Option Nat := if kd = 3 then (if has a = true then some a else none) else vo has sp 8 a
/-- a question's data -/
def cq_p (na kd ch : Nat) (w m sp : Nat → Nat) (has : Nat → Bool) (lk : Nat → List Nat) : Prop := na ≤ 8 ∧ kd < 4 ∧ 2 ≤ ch ∧ ch ≤ 4 ∧ ∀ a, a < 8 → w a ≤ 1000 ∧ m a < 2 ^ 31 ∧ (has a = true → a < na) ∧ (a < na → sp a < na) ∧ (na ≤ a → sp a = a) ∧ (kd = 2 → has a = true → (lk a).length ≤ ch ∧ (∀ d ∈ lk a, 1 ≤ d ∧ d ≤ ch) ∧ 1 ≤ (lk a).length ∧ m a = sm_dg (lk a))
def cq_V (M : ax_M) (n kd ch : Nat) (w m sp : Nat → Nat) (has : Nat → Bool) : Prop := ax_i M (10 * n + 1000) 0 = nI kd ∧ ax_i M (10 * n + 1000) 1 = nI ch ∧ ∀ a, a < 8 → ax_i M (10 * n + 1001) a = nI (w a) ∧ ax_i M (10 * n + 1002) a = (if has a = true then nI (m a) else -1) ∧ (if ax_i M 0 0 < ax_i M (10 * n + 1000) 3 then ax_i M 4 a else ax_i M (10 * n + 1005) a) = sm_sp a (sp a)
def cq_M (N : ax_M) (n na kd ch : Nat) (w m sp : Nat → Nat) (has : Nat → Bool) : Prop := ax_i N 100 3 = nI na ∧ ax_i N 105 n = nI kd ∧ ax_i N 106 n = nI ch ∧ ∀ a, a < 8 → ax_i N 115 (8 * n + a) = nI (w a) ∧ ax_i N 116 (8 * n + a) = (if has a = true then 1 else 0) ∧ (has a = true → ax_i N 117 (8 * n + a) = nI (m a)) ∧ (a < na → (if ax_i N 100 1 < ax_i N 108 n then ax_i N 104 a else ax_i N 120 (8 * n + a)) = nI (sp a))
def S_cv (id k : Nat) : Prop := id = 7 ∨ id = 8 ∨ id = 9 ∨ (id = 0 ∧ k = 14)
def S_cm (id k : Nat) : Prop := (136 ≤ id ∧ id ≤ 140) ∨ (id = 100 ∧ 47 ≤ k)
section
variable {na kd ch n nq nu : Nat} {w m sp : Nat → Nat} {has : Nat → Bool} {lk : Nat → List Nat}
theorem cq_p.sp8 (c : cq_p na kd ch w m sp has lk) : ∀ b, b < 8 → sp b < 8 := fun b hb => by
  have h1 := (c.2.2.2.2 b hb).2.2.2.1
  have h2 := (c.2.2.2.2 b hb).2.2.2.2.1
  have h3 := c.1
  by_cases z : b < na
  · have := h1 z; omega
  · rw [h2 (by omega)]; exact hb
theorem cq_p.vc8 (c : cq_p na kd ch w m sp has lk) {a x : Nat} (ha : a < 8) (h : vc kd has sp a = some x) : x < 8 ∧ has x = true := by
  unfold vc at h
  by_cases k3 : kd = 3
  · rw [if_pos k3] at h
    by_cases hh : has a = true
    · rw [if_pos hh] at h; rw [← Option.some.inj h]; exact ⟨ha, hh⟩
    · rw [if_neg hh] at h; cases h
  · rw [if_neg k3] at h
    exact vo_lt c.sp8 8 a x ha h
theorem cq_p.vcna (c : cq_p na kd ch w m sp has lk) {a : Nat} (ha : a < 8) (hn : na ≤ a) : vc kd has sp a = none := by
  have hh : has a = false := by
    cases e : has a
    · rfl
    · exact absurd ((c.2.2.2.2 a ha).2.2.1 e) (by omega)
  unfold vc
  by_cases k3 : kd = 3
  · rw [if_pos k3, if_neg (by rw [hh]; decide)]
  · rw [if_neg k3]; exact vo_self hh ((c.2.2.2.2 a ha).2.2.2.2.1 hn) 8
theorem cq_p.rv8 (c : cq_p na kd ch w m sp has lk) {a : Nat} (ha : a < 8) : vc kd has sp a = if kd = 3 then rv na has sp 0 a else rv na has sp 8 a := by
  by_cases hn : a < na
  · unfold vc
    by_cases k3 : kd = 3
    · rw [if_pos k3, if_pos k3]
      show _ = if a < na ∧ has a = true then some a else none
      by_cases hh : has a = true
      · rw [if_pos hh, if_pos ⟨hn, hh⟩]
      · rw [if_neg hh, if_neg (fun z => hh z.2)]
    · rw [if_neg k3, if_neg k3, rv_vo (fun b hb => (c.2.2.2.2 b (by have := c.1; omega)).2.2.2.1 hb) 8 a hn, vo_8 c.sp8 ha]
  · rw [c.vcna ha (by omega)]
    by_cases k3 : kd = 3
    · rw [if_pos k3, rv_out (by omega)]
    · rw [if_neg k3, rv_out (by omega)]
theorem cq_V.fr {M M' : ax_M} (g : cq_V M n kd ch w m sp has) (f : px_fr S_cv M M') : cq_V M' n kd ch w m sp has := by
  have e : ∀ id k, ¬ S_cv id k → ax_i M' id k = ax_i M id k := f.2.1
  obtain ⟨g1, g2, g3⟩ := g
  refine ⟨?_, ?_, fun a ha => ?_⟩
  · rw [e _ _ (by unfold S_cv; omega)]; exact g1
  · rw [e _ _ (by unfold S_cv; omega)]; exact g2
  · rw [e (10 * n + 1001) _ (by unfold S_cv; omega), e (10 * n + 1002) _ (by unfold S_cv; omega), e 0 0 (by unfold S_cv; omega), e (10 * n + 1000) 3 (by unfold S_cv; omega), e 4 a (by unfold S_cv; omega), e (10 * n + 1005) _ (by unfold S_cv; omega)]
    exact g3 a ha
theorem cq_M.fr {N N' : ax_M} (g : cq_M N n na kd ch w m sp has) (f : px_fr S_cm N N') : cq_M N' n na kd ch w m sp has := by
  have e : ∀ id k, ¬ S_cm id k → ax_i N' id k = ax_i N id k := f.2.1
  obtain ⟨g1, g2, g3, g4⟩ := g
  refine ⟨?_, ?_, ?_, fun a ha => ?_⟩
  · rw [e _ _ (by unfold S_cm; omega)]; exact g1
  · rw [e _ _ (by unfold S_cm; omega)]; exact g2
  · rw [e _ _ (by unfold S_cm; omega)]; exact g3
  · rw [e 115 _ (by unfold S_cm; omega), e 116 _ (by unfold S_cm; omega), e 117 _ (by unfold S_cm; omega), e 100 1 (by unfold S_cm; omega), e 108 n (by unfold S_cm; omega), e 104 a (by unfold S_cm; omega), e 120 _ (by unfold S_cm; omega)]
    exact g4 a ha
/-! the class's voices -/
theorem V_voiceOf_l {M : ax_M} (W : px_W nq nu M.2.2) (hn : n < nq) (c : cq_p na kd ch w m sp has lk) (g : cq_V M n kd ch w m sp has) (k3 : kd ≠ 3) : ∀ k a f j, a < 8 → j + k = 8 → F_V_voiceOf_5 (f + k + 1) M (some 0) (some (10 * n + 1000)) (nI a) (nI j) = some (vi (vo has sp k a), M) := by
  intro k
  induction k with
  | zero =>
    intro a f j ha e
    have : j = 8 := by omega
    subst this
    show G_V_voiceOf_5 _ M _ _ _ _ = _
    simp only [G_V_voiceOf_5]
    rw [if_pos (show (8 : Int32) ≤ nI 8 from Int32.le_refl _)]
    rfl
  | succ k ih =>
    intro a f j ha e
    show G_V_voiceOf_5 (F_V_voiceOf_5 (f + k + 1)) M _ _ _ _ = _
    have x3 : ¬ (8 : Int32) ≤ nI j := nI_ge (b := 8) (by omega) (by decide)
    have x7 : ¬ (nI a < 0 ∨ (7 : Int32) < nI a) := by
      rintro (z | z)
      · exact nI_pos (by omega) z
      · exact absurd ((nI_ltI (a := 7) (by decide) (by omega)).mp z) (by omega)
    obtain ⟨g1, g2, g3⟩ := g.2.2 a ha
    have hk : ¬ nI kd = 3 := fun z => k3 ((nI_eq (b := 3) (by have := c.2.1; omega) (by decide)).mp z)
    cases hh : has a with
    | true =>
      rw [if_pos hh] at g2
      have hm := (c.2.2.2.2 a ha).2.1
      have nm : ¬ nI (m a) = -1 := fun z => absurd (by rw [z]; decide : nI (m a) < 0) (nI_pos hm)
      have ev : vo has sp (k + 1) a = some a := by
        show (if has a = true then some a else vo has sp k (sp a)) = _
        rw [if_pos hh]
      rw [ev]
      simp only [G_V_voiceOf_5, if_neg x3, V_isOutN M x7, Option.bind_some, if_true, e_Q_r6 nq nu W hn, e_Q_rd2 nq nu W hn ha, g2, if_neg nm, vi]
    | false =>
      rw [if_neg (by rw [hh]; decide)] at g2
      have ev : vo has sp (k + 1) a = vo has sp k (sp a) := by
        show (if has a = true then some a else vo has sp k (sp a)) = _
        rw [if_neg (by rw [hh]; decide)]
      rw [ev]
      have e1 : G_V_voiceOf_5 (F_V_voiceOf_5 (f + k + 1)) M (some 0) (some (10 * n + 1000)) (nI a) (nI j) = F_V_voiceOf_5 (f + k + 1) M (some 0) (some (10 * n + 1000)) (sm_sp a (sp a)) (nI (j + 1)) := by
        rw [← g3]
        by_cases hl : ax_i M 0 0 < ax_i M (10 * n + 1000) 3
        · simp only [G_V_voiceOf_5, G_V_voiceOf_72, if_neg x3, V_isOutN M x7, Option.bind_some, if_true, e_Q_r6 nq nu W hn, e_Q_rd2 nq nu W hn ha, g2, e_Q_gi nq nu W hn, g.1, if_neg hk, e_V_gi nq nu W, if_pos hl, e_V_r6 nq nu W, e_V_rd4 nq nu W ha, nI_1]
        · simp only [G_V_voiceOf_5, G_V_voiceOf_72, if_neg x3, V_isOutN M x7, Option.bind_some, if_true, e_Q_r6 nq nu W hn, e_Q_rd2 nq nu W hn ha, g2, e_Q_gi nq nu W hn, g.1, if_neg hk, e_V_gi nq nu W, if_neg hl, e_Q_r9 nq nu W hn, e_Q_rd5 nq nu W hn ha, nI_1]
      rw [e1]
      by_cases hs : sp a = a
      · rw [hs, vo_self hh hs]
        show G_V_voiceOf_5 (F_V_voiceOf_5 (f + k)) M _ _ _ _ = _
        have xo : (sm_sp a a < 0 ∨ (7 : Int32) < sm_sp a a) := by rw [sm_sp, if_pos rfl]; exact Or.inl (by decide)
        simp only [G_V_voiceOf_5, V_isOutY M xo, Option.bind_some, i32_10, if_false, ite_self, vi]
      · rw [sm_sp, if_neg hs]
        exact ih (sp a) f (j + 1) (c.sp8 a ha) (by omega)
theorem V_voiceOf {M : ax_M} (W : px_W nq nu M.2.2) (hn : n < nq) (c : cq_p na kd ch w m sp has lk) (g : cq_V M n kd ch w m sp has) {a : Nat} (ha : a < 8) : f_V_voiceOf M (some 0) (some (10 * n + 1000)) (nI a) = some (vi (vc kd has sp a), M) := by
  unfold f_V_voiceOf vc
  by_cases k3 : kd = 3
  · rw [if_pos k3]
    show G_V_voiceOf_5 (F_V_voiceOf_5 63) M _ _ _ _ = _
    have x3 : ¬ (8 : Int32) ≤ 0 := by decide
    have x7 : ¬ (nI a < 0 ∨ (7 : Int32) < nI a) := by
      rintro (z | z)
      · exact nI_pos (by omega) z
      · exact absurd ((nI_ltI (a := 7) (by decide) (by omega)).mp z) (by omega)
    obtain ⟨g1, g2, g3⟩ := g.2.2 a ha
    have hk : nI kd = 3 := by rw [k3]; rfl
    cases hh : has a with
    | true =>
      rw [if_pos hh] at g2
      have hm := (c.2.2.2.2 a ha).2.1
      have nm : ¬ nI (m a) = -1 := fun z => absurd (by rw [z]; decide : nI (m a) < 0) (nI_pos hm)
      simp only [G_V_voiceOf_5, if_neg x3, V_isOutN M x7, Option.bind_some, if_true, e_Q_r6 nq nu W hn, e_Q_rd2 nq nu W hn ha, g2, if_neg nm, vi]
    | false =>
      rw [if_neg (by rw [hh]; decide)] at g2
      simp only [G_V_voiceOf_5, if_neg x3, V_isOutN M x7, Option.bind_some, if_true, e_Q_r6 nq nu W hn, e_Q_rd2 nq nu W hn ha, g2, e_Q_gi nq nu W hn, g.1, if_pos hk]
      rfl
  · rw [if_neg k3]
    exact V_voiceOf_l W hn c g k3 8 a 55 0 ha (by omega)
theorem V_findVoices_l {M : ax_M} (W : px_W nq nu M.2.2) (hn : n < nq) (c : cq_p na kd ch w m sp has lk) (g : cq_V M n kd ch w m sp has) : ∀ k a f M', a + k = 8 → px_fr (fun id _ => id = 7) M M' → (∀ b, b < a → ax_i M' 7 b = vi (vc kd has sp b)) → ∃ M3, F_V_findVoices_2 (f + k + 1) M' (some 0) (some (10 * n + 1000)) (nI a) = some M3 ∧ px_fr (fun id _ => id = 7) M M3 ∧ ∀ b, b < 8 → ax_i M3 7 b = vi (vc kd has sp b) := by
  intro k
  induction k with
  | zero =>
    intro a f M' e fr hv
    have : a = 8 := by omega
    subst this
    refine ⟨M', ?_, fr, hv⟩
    show G_V_findVoices_2 _ M' _ _ _ = _
    simp only [G_V_findVoices_2]
    rw [if_pos (show (8 : Int32) ≤ nI 8 from Int32.le_refl _)]
  | succ k ih =>
    intro a f M' e fr hv
    have ha : a < 8 := by omega
    have x3 : ¬ (8 : Int32) ≤ nI a := nI_ge (b := 8) ha (by decide)
    have W' := fr.W W
    have g' : cq_V M' n kd ch w m sp has := g.fr (fr.mono fun id k z => Or.inl z)
    obtain ⟨M3, e1, e2⟩ := ih (a + 1) f (ax_wi M' 7 a (vi (vc kd has sp a))) (by omega) (fr.wi rfl) (fun b hb => by
      rw [px_i_wi]
      by_cases eb : b = a
      · rw [if_pos ⟨rfl, eb⟩, eb]
      · rw [if_neg (fun z => eb z.2)]; exact hv b (by omega))
    refine ⟨M3, ?_, e2⟩
    rw [← e1]
    show G_V_findVoices_2 (F_V_findVoices_2 (f + k + 1)) M' _ _ _ = _
    simp only [G_V_findVoices_2, if_neg x3, e_V_r11 nq nu W', e_V_ob nq nu W', V_voiceOf W' hn c g' ha, Option.bind_some, e_V_wr7 nq nu W' ha, nI_1]
theorem V_findVoices {M : ax_M} (W : px_W nq nu M.2.2) (hn : n < nq) (c : cq_p na kd ch w m sp has lk) (g : cq_V M n kd ch w m sp has) : ∃ M3, f_V_findVoices M (some 0) (some (10 * n + 1000)) = some M3 ∧ px_fr (fun id _ => id = 7) M M3 ∧ ∀ b, b < 8 → ax_i M3 7 b = vi (vc kd has sp b) :=
  V_findVoices_l W hn c g 8 0 55 M (by omega) (px_fr.refl _ M) (fun b z => absurd z (Nat.not_lt_zero _))
end
