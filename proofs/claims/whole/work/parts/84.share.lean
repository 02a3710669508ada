/-! COUNTING: what each voice gives -/
def ct (f : Nat → Nat) : Nat → Nat
  | 0 => 0
  | k + 1 => ct f k + f k
def fr_k (s : Nat) : List Nat → Option Nat
  | [] => none
  | d :: l => if s / 2 ^ (d - 1) % 2 = 1 then some (d - 1) else fr_k s l
def sh_n (kd s c m : Nat) (l : List Nat) (w : Nat) : Nat := if kd = 0 then (if m = c then w else 0) else if kd = 1 then (if m / 2 ^ c % 2 = 0 then 0 else w) else if kd = 2 then (if fr_k s l = some c then w else 0) else m / 32 ^ c % 32
def ca (kd : Nat) (v : Nat → Option Nat) (w m : Nat → Nat) (lk : Nat → List Nat) (s c a : Nat) : Nat := match v a with
  | none => 0
  | some x => sh_n kd s c (m x) (lk x) (w a)
def cn (kd : Nat) (v : Nat → Option Nat) (w m : Nat → Nat) (lk : Nat → List Nat) (s c : Nat) : Nat := ct (ca kd v w m lk s c) 8
theorem sh_le {kd s c m w : Nat} {l : List Nat} (hw : w ≤ 1000) : sh_n kd s c m l w ≤ 1000 := by
  unfold sh_n
  by_cases k0 : kd = 0
  · rw [if_pos k0]; split <;> omega
  · rw [if_neg k0]
    by_cases k1 : kd = 1
    · rw [if_pos k1]; split <;> omega
    · rw [if_neg k1]
      by_cases k2 : kd = 2
      · rw [if_pos k2]; split <;> omega
      · rw [if_neg k2]; omega
theorem ct_le {f : Nat → Nat} {B : Nat} : ∀ k, (∀ a, a < k → f a ≤ B) → ct f k ≤ k * B := by
  intro k
  induction k with
  | zero => intro _; exact Nat.zero_le _
  | succ k ih =>
    intro h
    have h1 := ih (fun a ha => h a (by omega))
    have h2 := h k (by omega)
    show ct f k + f k ≤ (k + 1) * B
    rw [Nat.succ_mul]; omega
theorem ct_cg {f g : Nat → Nat} : ∀ k, (∀ a, a < k → f a = g a) → ct f k = ct g k := by
  intro k
  induction k with
  | zero => intro _; rfl
  | succ k ih =>
    intro h
    show ct f k + f k = ct g k + g k
    rw [ih (fun a ha => h a (by omega)), h k (by omega)]
theorem ct_z {f : Nat → Nat} {n : Nat} : ∀ k, (∀ a, n ≤ a → a < n + k → f a = 0) → ct f (n + k) = ct f n := by
  intro k
  induction k with
  | zero => intro _; rfl
  | succ k ih =>
    intro h
    show ct f (n + k) + f (n + k) = ct f n
    rw [ih (fun a h1 h2 => h a h1 (by omega)), h (n + k) (by omega) (by omega)]; rfl
theorem ct_add {f g : Nat → Nat} : ∀ k, ct (fun a => f a + g a) k = ct f k + ct g k := by
  intro k
  induction k with
  | zero => rfl
  | succ k ih =>
    show ct (fun a => f a + g a) k + (f k + g k) = ct f k + f k + (ct g k + g k)
    rw [ih]; omega
theorem sm_dg_lt : ∀ l : List Nat, (∀ d ∈ l, d < 8) → sm_dg l < 8 ^ l.length := by
  intro l
  induction l with
  | nil => intro _; decide
  | cons d l ih =>
    intro h
    have h1 := ih (fun x hx => h x (List.mem_cons_of_mem _ hx))
    have h2 := h d List.mem_cons_self
    show d + 8 * sm_dg l < 8 ^ (l.length + 1)
    rw [Nat.pow_succ]; omega
theorem sm_dg_b {l : List Nat} {ch : Nat} (hch : ch ≤ 4) (hl : l.length ≤ ch) (hd : ∀ d ∈ l, 1 ≤ d ∧ d ≤ ch) : sm_dg l < 4096 := by
  have h1 := sm_dg_lt l (fun d hx => by have := hd d hx; omega)
  have h2 : 8 ^ l.length ≤ 8 ^ 4 := Nat.pow_le_pow_right (by decide) (by omega)
  have h3 : (8 : Nat) ^ 4 = 4096 := by decide
  omega
theorem bt_sh : ∀ c, c < 4 → ((nI c &&& 31).toBitVec.smod 32).toNat = c := by decide +kernel
theorem bt {m c : Nat} (hm : m < 2 ^ 31) (hc : c < 4) : ((nI m >>> (nI c &&& 31)) &&& 1) = nI (m / 2 ^ c % 2) := by
  rw [pk_shrN hm _ c (bt_sh c hc)]
  exact pk_andN (m := 1) (by have := Nat.div_le_self m (2 ^ c); omega) 1 (by decide)
theorem V_firstOfRanks_l (M : ax_M) {ch s : Nat} (hch : ch ≤ 4) (hs : s < 16) : ∀ (l : List Nat) (i f : Nat), i + l.length ≤ ch → (∀ d ∈ l, 1 ≤ d ∧ d ≤ ch) → F_V_firstOfRanks_5 (f + l.length + 1) M (nI ch) (nI s) (nI (sm_dg l)) (nI i) = some (vi (fr_k s l), M) := by
  intro l
  induction l with
  | nil =>
    intro i f _ _
    show G_V_firstOfRanks_5 _ M _ _ _ _ = _
    have : sm_dg [] = 0 := rfl
    rw [this, nI_0]
    simp only [G_V_firstOfRanks_5, G_V_firstOfRanks_50, if_pos (Int32.le_refl (0 : Int32)), ite_self, fr_k, vi]
  | cons d l ih =>
    intro i f hi hd
    have hd' : ∀ x ∈ l, 1 ≤ x ∧ x ≤ ch := fun x hx => hd x (List.mem_cons_of_mem _ hx)
    obtain ⟨d1, d2⟩ := hd d List.mem_cons_self
    have hl : (d :: l).length = l.length + 1 := rfl
    rw [hl] at hi ⊢
    have hb := sm_dg_b hch (show l.length ≤ ch by omega) hd'
    have eD : sm_dg (d :: l) = d + 8 * sm_dg l := rfl
    have hr : d + 8 * sm_dg l < 2 ^ 31 := by omega
    have x1 : ¬ nI ch ≤ nI i := nI_ge (by omega) (by omega)
    have x2 : ¬ nI (d + 8 * sm_dg l) ≤ 0 := nI_nle (by omega) hr
    have a1 : (nI (d + 8 * sm_dg l) &&& 7) - 1 = nI (d - 1) := by
      rw [rk_and hr, show (d + 8 * sm_dg l) % 8 = d by omega, rk_m1 (by omega)]
    have a2 : nI (d + 8 * sm_dg l) >>> ((3 : Int32) &&& 31) = nI (sm_dg l) := by
      rw [rk_shr hr, show (d + 8 * sm_dg l) / 8 = sm_dg l by omega]
    have x3 : ¬ nI (d - 1) < 0 := nI_pos (by omega)
    have b1 := rk_b1 s hs (d - 1) (by omega)
    show G_V_firstOfRanks_5 (F_V_firstOfRanks_5 (f + l.length + 1)) M _ _ _ _ = _
    rw [eD]
    by_cases z : s / 2 ^ (d - 1) % 2 = 1
    · have ef : fr_k s (d :: l) = some (d - 1) := by show (if s / 2 ^ (d - 1) % 2 = 1 then some (d - 1) else fr_k s l) = _; rw [if_pos z]
      rw [z] at b1
      simp only [G_V_firstOfRanks_5, if_neg x1, if_neg x2, a1, Option.bind_some, if_neg x3, V_hasChoice, b1, show (nI 1 = 0) = False from eq_false (by decide), if_false, i32_10, ef, vi]
    · have ef : fr_k s (d :: l) = fr_k s l := by show (if s / 2 ^ (d - 1) % 2 = 1 then some (d - 1) else fr_k s l) = _; rw [if_neg z]
      rw [show s / 2 ^ (d - 1) % 2 = 0 by omega] at b1
      simp only [G_V_firstOfRanks_5, G_V_firstOfRanks_40, if_neg x1, if_neg x2, a1, Option.bind_some, if_neg x3, V_hasChoice, b1, nI_0, if_true, a2, nI_1, ef]
      exact ih (i + 1) f (by omega) hd'
theorem V_firstOfRanks (M : ax_M) {ch s : Nat} (hch : ch ≤ 4) (hs : s < 16) {l : List Nat} (hl : l.length ≤ ch) (hd : ∀ d ∈ l, 1 ≤ d ∧ d ≤ ch) : f_V_firstOfRanks M (nI (sm_dg l)) (nI ch) (nI s) = some (vi (fr_k s l), M) := by
  have := V_firstOfRanks_l M hch hs l 0 (63 - l.length) (by omega) hd
  rw [show 63 - l.length + l.length + 1 = 64 by omega] at this
  exact this
theorem fr_lt {s ch : Nat} : ∀ l : List Nat, (∀ d ∈ l, 1 ≤ d ∧ d ≤ ch) → ∀ x, fr_k s l = some x → x < ch ∧ s / 2 ^ x % 2 = 1 ∧ x + 1 ∈ l := by
  intro l
  induction l with
  | nil => intro _ x z; cases z
  | cons d l ih =>
    intro h x z
    have z' : (if s / 2 ^ (d - 1) % 2 = 1 then some (d - 1) else fr_k s l) = some x := z
    have hd := h d List.mem_cons_self
    by_cases e : s / 2 ^ (d - 1) % 2 = 1
    · rw [if_pos e] at z'
      have := Option.some.inj z'
      refine ⟨by omega, by rw [← this]; exact e, ?_⟩
      rw [show x + 1 = d by omega]; exact List.mem_cons_self
    · rw [if_neg e] at z'
      obtain ⟨q1, q2, q3⟩ := ih (fun y hy => h y (List.mem_cons_of_mem _ hy)) x z'
      exact ⟨q1, q2, List.mem_cons_of_mem _ q3⟩
theorem vi_eq {o : Option Nat} {c : Nat} (ho : ∀ x, o = some x → x < 8) (hc : c < 8) : (vi o = nI c) ↔ o = some c := by
  cases o with
  | none =>
    refine ⟨fun z => ?_, fun z => (by cases z)⟩
    have z' : (-1 : Int32) = nI c := z
    exact absurd (by rw [← z']; decide : nI c < 0) (nI_pos (by omega))
  | some x =>
    have hx := ho x rfl
    constructor
    · intro z
      have z' : nI x = nI c := z
      rw [(nI_eq (by omega) (by omega)).mp z']
    · intro z
      rw [Option.some.inj z]; rfl
section
variable {na kd ch n nq nu : Nat} {w m sp : Nat → Nat} {has : Nat → Bool} {lk : Nat → List Nat}
theorem V_shareOf {M : ax_M} (W : px_W nq nu M.2.2) (hn : n < nq) (g0 : ax_i M (10 * n + 1000) 0 = nI kd) (g1 : ax_i M (10 * n + 1000) 1 = nI ch) (hk : kd < 4) (hch : ch ≤ 4) {c s mm ww : Nat} {l : List Nat} (hc : c < 4) (hs : s < 16) (hm : mm < 2 ^ 31) (hl : kd = 2 → l.length ≤ ch ∧ (∀ d ∈ l, 1 ≤ d ∧ d ≤ ch) ∧ mm = sm_dg l) : f_V_shareOf M (some (10 * n + 1000)) (nI mm) (nI ww) (nI c) (nI s) = some (nI (sh_n kd s c mm l ww), M) := by
  obtain ⟨q0, q1, q2⟩ := iv_kd kd hk
  unfold sh_n
  by_cases k0 : kd = 0
  · rw [if_pos k0]
    have e0 : (nI kd = 0) = True := eq_true (q0.mpr k0)
    by_cases z : mm = c
    · rw [if_pos z]
      simp only [f_V_shareOf, G_V_shareOf_42, e_Q_gi nq nu W hn, g0, Option.bind_some, e0, if_true, z]
    · rw [if_neg z]
      have z' : ¬ nI mm = nI c := fun q => z ((nI_eq hm (by omega)).mp q)
      simp only [f_V_shareOf, G_V_shareOf_42, e_Q_gi nq nu W hn, g0, Option.bind_some, e0, if_true, if_neg z', nI_0]
  rw [if_neg k0]
  have e0 : (nI kd = 0) = False := eq_false (fun z => k0 (q0.mp z))
  by_cases k1 : kd = 1
  · rw [if_pos k1]
    have e1 : (nI kd = 1) = True := eq_true (q1.mpr k1)
    by_cases z : mm / 2 ^ c % 2 = 0
    · rw [if_pos z]
      simp only [f_V_shareOf, G_V_shareOf_56, e_Q_gi nq nu W hn, g0, Option.bind_some, e0, e1, if_true, if_false, V_hasChoice, bt hm hc, z, nI_0]
    · rw [if_neg z]
      have z' : mm / 2 ^ c % 2 = 1 := by omega
      simp only [f_V_shareOf, G_V_shareOf_56, e_Q_gi nq nu W hn, g0, Option.bind_some, e0, e1, if_true, if_false, V_hasChoice, bt hm hc, z', show (nI 1 = 0) = False from eq_false (by decide), i32_10]
  rw [if_neg k1]
  have e1 : (nI kd = 1) = False := eq_false (fun z => k1 (q1.mp z))
  by_cases k2 : kd = 2
  · rw [if_pos k2]
    have e2 : (nI kd = 2) = True := eq_true (q2.mpr k2)
    obtain ⟨l1, l2, l3⟩ := hl k2
    have ev := vi_eq (c := c) (fun x hx => by have := (fr_lt (s := s) l l2 x hx).1; omega) (by omega)
    rw [l3]
    by_cases z : fr_k s l = some c
    · rw [if_pos z]
      have z' : (vi (fr_k s l) = nI c) = True := eq_true (ev.mpr z)
      simp only [f_V_shareOf, G_V_shareOf_76, e_Q_gi nq nu W hn, g0, g1, Option.bind_some, e0, e1, e2, if_true, if_false, V_firstOfRanks M hch hs l1 l2, z']
    · rw [if_neg z]
      have z' : (vi (fr_k s l) = nI c) = False := eq_false (fun q => z (ev.mp q))
      simp only [f_V_shareOf, G_V_shareOf_76, e_Q_gi nq nu W hn, g0, g1, Option.bind_some, e0, e1, e2, if_true, if_false, V_firstOfRanks M hch hs l1 l2, z', nI_0]
  · rw [if_neg k2]
    have e2 : (nI kd = 2) = False := eq_false (fun z => k2 (q2.mp z))
    simp only [f_V_shareOf, e_Q_gi nq nu W hn, g0, Option.bind_some, e0, e1, e2, if_false, V_strengthOf M hm hc]
theorem cq_p.lk2 (c : cq_p na kd ch w m sp has lk) {a x : Nat} (ha : a < 8) (h : vc kd has sp a = some x) : x < 8 ∧ m x < 2 ^ 31 ∧ (kd = 2 → (lk x).length ≤ ch ∧ (∀ d ∈ lk x, 1 ≤ d ∧ d ≤ ch) ∧ m x = sm_dg (lk x)) := by
  obtain ⟨h1, h2⟩ := c.vc8 ha h
  have h3 := c.2.2.2.2 x h1
  exact ⟨h1, h3.2.1, fun k => ⟨(h3.2.2.2.2.2 k h2).1, (h3.2.2.2.2.2 k h2).2.1, (h3.2.2.2.2.2 k h2).2.2.2⟩⟩
theorem V_round_16 {M : ax_M} (W : px_W nq nu M.2.2) (hn : n < nq) (c : cq_p na kd ch w m sp has lk) (g : cq_V M n kd ch w m sp has) (hv : ∀ b, b < 8 → ax_i M 7 b = vi (vc kd has sp b)) {s cc : Nat} (hs : s < 16) (hc : cc < 4) (rec2 : ax_M → Option Nat → Option Nat → Int32 → Int32 → Option (ax_M)) : ∀ k a f, a + k = 8 → F_V_countRound_16 rec2 (f + k + 1) M (some 0) (some (10 * n + 1000)) (nI s) (nI cc) (nI (ct (ca kd (vc kd has sp) w m lk s cc) a)) (nI a) = rec2 (ax_wi M 8 cc (nI (cn kd (vc kd has sp) w m lk s cc))) (some 0) (some (10 * n + 1000)) (nI s) (nI (cc + 1)) := by
  intro k
  induction k with
  | zero =>
    intro a f e
    have : a = 8 := by omega
    subst this
    show G_V_countRound_16 rec2 _ M _ _ _ _ _ _ = _
    simp only [G_V_countRound_16]
    rw [if_pos (show (8 : Int32) ≤ nI 8 from Int32.le_refl _), e_V_r12 nq nu W, Option.bind_some, e_V_wr8 nq nu W hc, Option.bind_some, Option.bind_some, nI_1]
    rfl
  | succ k ih =>
    intro a f e
    have ha : a < 8 := by omega
    have x3 : ¬ (8 : Int32) ≤ nI a := nI_ge (b := 8) ha (by decide)
    rw [← ih (a + 1) f (by omega)]
    show G_V_countRound_16 rec2 (F_V_countRound_16 rec2 (f + k + 1)) M _ _ _ _ _ _ = _
    have hva := (vi_neg (fun x hx => (c.vc8 ha hx).1)).1
    have es : ct (ca kd (vc kd has sp) w m lk s cc) (a + 1) = ct (ca kd (vc kd has sp) w m lk s cc) a + ca kd (vc kd has sp) w m lk s cc a := rfl
    rw [es]
    cases hx : vc kd has sp a with
    | none =>
      have z : vi (vc kd has sp a) = -1 := hva.mpr hx
      have e0 : ca kd (vc kd has sp) w m lk s cc a = 0 := by unfold ca; rw [hx]
      simp only [G_V_countRound_16, G_V_countRound_63, if_neg x3, e_V_r11 nq nu W, e_V_rd7 nq nu W ha, hv a ha, z, if_true, Option.bind_some, nI_1, e0, Nat.add_zero]
    | some x =>
      have z : ¬ vi (vc kd has sp a) = -1 := fun q => by rw [hva.mp q] at hx; cases hx
      have z2 : vi (vc kd has sp a) = nI x := by rw [hx]; rfl
      obtain ⟨h1, h2, h3⟩ := c.lk2 ha hx
      have hh := (c.vc8 ha hx).2
      have e0 : ca kd (vc kd has sp) w m lk s cc a = sh_n kd s cc (m x) (lk x) (w a) := by unfold ca; rw [hx]
      have gv := (g.2.2 x h1).2.1
      rw [if_pos hh] at gv
      have gw := (g.2.2 a ha).1
      rw [z2] at z
      simp only [G_V_countRound_16, G_V_countRound_63, if_neg x3, e_V_r11 nq nu W, e_V_rd7 nq nu W ha, hv a ha, z2, if_neg z, Option.bind_some, e_Q_r6 nq nu W hn, e_Q_rd2 nq nu W hn h1, gv, e_Q_r5 nq nu W hn, e_Q_rd1 nq nu W hn ha, gw, V_shareOf W hn g.1 g.2.1 c.2.1 c.2.2.2.1 hc hs h2 h3, nI_add, nI_1, e0]
theorem V_round_2 {M : ax_M} (W : px_W nq nu M.2.2) (hn : n < nq) (c : cq_p na kd ch w m sp has lk) (g : cq_V M n kd ch w m sp has) (hv : ∀ b, b < 8 → ax_i M 7 b = vi (vc kd has sp b)) {s : Nat} (hs : s < 16) : ∀ k cc f M', cc + k = ch → px_fr (fun id _ => id = 8) M M' → (∀ d, d < cc → ax_i M' 8 d = nI (cn kd (vc kd has sp) w m lk s d)) → ∃ M3, F_V_countRound_2 (f + k + 1) M' (some 0) (some (10 * n + 1000)) (nI s) (nI cc) = some M3 ∧ px_fr (fun id _ => id = 8) M M3 ∧ ∀ d, d < ch → ax_i M3 8 d = nI (cn kd (vc kd has sp) w m lk s d) := by
  intro k
  induction k with
  | zero =>
    intro cc f M' e fr h1
    have : cc = ch := by omega
    subst this
    have W' := fr.W W
    have g' : cq_V M' n kd cc w m sp has := g.fr (fr.mono fun id k z => Or.inr (Or.inl z))
    refine ⟨M', ?_, fr, h1⟩
    show G_V_countRound_2 _ M' _ _ _ _ = _
    simp only [G_V_countRound_2, e_Q_gi nq nu W' hn, g'.2.1, Option.bind_some, if_pos (Int32.le_refl _)]
  | succ k ih =>
    intro cc f M' e fr h1
    have W' := fr.W W
    have g' : cq_V M' n kd ch w m sp has := g.fr (fr.mono fun id k z => Or.inr (Or.inl z))
    have hch := c.2.2.2.1
    have x1 : ¬ nI ch ≤ nI cc := nI_ge (by omega) (by omega)
    have hv' : ∀ b, b < 8 → ax_i M' 7 b = vi (vc kd has sp b) := fun b hb => by rw [fr.2.1 7 b (by omega)]; exact hv b hb
    have e16 := V_round_16 W' hn c g' hv' hs (show cc < 4 by omega) (F_V_countRound_2 (f + k + 1)) 8 0 55 (by omega)
    obtain ⟨M3, e1, e2⟩ := ih (cc + 1) f (ax_wi M' 8 cc (nI (cn kd (vc kd has sp) w m lk s cc))) (by omega) (fr.wi rfl) (fun d hd => by
      rw [px_i_wi]
      by_cases ed : d = cc
      · rw [if_pos ⟨rfl, ed⟩, ed]
      · rw [if_neg (fun z => ed z.2)]; exact h1 d (by omega))
    refine ⟨M3, ?_, e2⟩
    rw [← e1, ← e16]
    show G_V_countRound_2 (F_V_countRound_2 (f + k + 1)) M' _ _ _ _ = _
    simp only [G_V_countRound_2, e_Q_gi nq nu W' hn, g'.2.1, Option.bind_some, if_neg x1]
    rfl
theorem V_countRound {M : ax_M} (W : px_W nq nu M.2.2) (hn : n < nq) (c : cq_p na kd ch w m sp has lk) (g : cq_V M n kd ch w m sp has) (hv : ∀ b, b < 8 → ax_i M 7 b = vi (vc kd has sp b)) {s : Nat} (hs : s < 16) : ∃ M3, f_V_countRound M (some 0) (some (10 * n + 1000)) (nI s) = some M3 ∧ px_fr (fun id _ => id = 8) M M3 ∧ ∀ d, d < ch → ax_i M3 8 d = nI (cn kd (vc kd has sp) w m lk s d) := by
  have hch := c.2.2.2.1
  have := V_round_2 W hn c g hv hs ch 0 (63 - ch) M (by omega) (px_fr.refl _ M) (fun b z => absurd z (Nat.not_lt_zero _))
  rw [show 63 - ch + ch + 1 = 64 by omega] at this
  exact this
end
