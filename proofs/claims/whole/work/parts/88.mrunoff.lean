/-! COUNTING: the reference's run-off -/
section
variable {na ch n nq nu : Nat} {w m sp : Nat → Nat} {has : Nat → Bool} {lk : Nat → List Nat}
theorem M_rankOf_l {N : ax_M} (W : px_W nq nu N.2.2) {s : Nat} (hch : ch ≤ 4) (hI : ∀ c, c < 4 → ax_i N 139 c = nI (s / 2 ^ c % 2)) : ∀ (l : List Nat) (f : Nat), l.length ≤ ch → (∀ d ∈ l, 1 ≤ d ∧ d ≤ ch) → F_M_rankOf_2 (f + l.length + 1) N (some 100) (nI (sm_dg l)) = some (vi (fr_k s l), N) := by
  intro l
  induction l with
  | nil =>
    intro f _ _
    show G_M_rankOf_2 _ N _ _ = _
    have : sm_dg [] = 0 := rfl
    rw [this, nI_0]
    simp only [G_M_rankOf_2, if_pos (Int32.le_refl (0 : Int32)), fr_k, vi]
  | cons d l ih =>
    intro f hi hd
    have hd' : ∀ x ∈ l, 1 ≤ x ∧ x ≤ ch := fun x hx => hd x (List.mem_cons_of_mem _ hx)
    obtain ⟨d1, d2⟩ := hd d List.mem_cons_self
    have hl : (d :: l).length = l.length + 1 := rfl
    rw [hl] at hi ⊢
    have hb := sm_dg_b hch (show l.length ≤ ch by omega) hd'
    have eD : sm_dg (d :: l) = d + 8 * sm_dg l := rfl
    have hr : d + 8 * sm_dg l < 2 ^ 31 := by omega
    have x2 : ¬ nI (d + 8 * sm_dg l) ≤ 0 := nI_nle (by omega) hr
    have a1 : nI (d + 8 * sm_dg l) - nI (d + 8 * sm_dg l) / 8 * 8 - 1 = nI (d - 1) := by
      rw [rk_rem hr, show (d + 8 * sm_dg l) % 8 = d by omega, rk_m1 (by omega)]
    have a2 : nI (d + 8 * sm_dg l) / 8 = nI (sm_dg l) := by
      rw [rk_div hr, show (d + 8 * sm_dg l) / 8 = sm_dg l by omega]
    have b1 := hI (d - 1) (by omega)
    show G_M_rankOf_2 (F_M_rankOf_2 (f + l.length + 1)) N _ _ = _
    rw [eD]
    unfold G_M_rankOf_2
    rw [if_neg x2, a1, a2, e_M_r45 nq nu W, Option.bind_some, e_M_rd139 nq nu W (show d - 1 < 4 by omega), Option.bind_some, b1]
    by_cases z : s / 2 ^ (d - 1) % 2 = 1
    · have ef : fr_k s (d :: l) = some (d - 1) := by show (if s / 2 ^ (d - 1) % 2 = 1 then some (d - 1) else fr_k s l) = _; rw [if_pos z]
      rw [z, if_neg (by decide), ef]; rfl
    · have ef : fr_k s (d :: l) = fr_k s l := by show (if s / 2 ^ (d - 1) % 2 = 1 then some (d - 1) else fr_k s l) = _; rw [if_neg z]
      rw [show s / 2 ^ (d - 1) % 2 = 0 by omega, if_pos nI_0, Option.bind_some, ef]
      exact ih f (by omega) hd'
theorem M_rankOf {N : ax_M} (W : px_W nq nu N.2.2) {s : Nat} (hch : ch ≤ 4) (hI : ∀ c, c < 4 → ax_i N 139 c = nI (s / 2 ^ c % 2)) {l : List Nat} (hl : l.length ≤ ch) (hd : ∀ d ∈ l, 1 ≤ d ∧ d ≤ ch) : f_M_rankOf N (some 100) (nI (sm_dg l)) = some (vi (fr_k s l), N) := by
  have := M_rankOf_l W hch hI l (63 - l.length) hl hd
  rw [show 63 - l.length + l.length + 1 = 64 by omega] at this
  exact this
def S138 (id _k : Nat) : Prop := id = 138
theorem mr_48 {N : ax_M} (W : px_W nq nu N.2.2) (vl : Int32) (rec38 : ax_M → Option Nat → Int32 → Int32 → Int32 → Option (ax_M)) : ∀ k c f N', c + k = 4 → px_fr S138 N N' → (∀ d, d < c → ax_i N' 138 d = 0) → ∃ N3, F_M_runOff_48 rec38 (f + k + 1) N' (some 100) (nI n) vl 0 0 (nI c) = F_M_runOff_71 rec38 64 N3 (some 100) (nI n) vl 0 0 0 ∧ px_fr S138 N N3 ∧ ∀ d, d < 4 → ax_i N3 138 d = 0 := by
  intro k
  induction k with
  | zero =>
    intro c f N' e fr h1
    have : c = 4 := by omega
    subst this
    refine ⟨N', ?_, fr, h1⟩
    show G_M_runOff_48 rec38 _ N' _ _ _ _ _ _ = _
    simp only [G_M_runOff_48]
    rw [if_pos (show (4 : Int32) ≤ nI 4 from Int32.le_refl _)]
  | succ k ih =>
    intro c f N' e fr h1
    have W' := fr.W W
    have hc : c < 4 := by omega
    have x3 : ¬ (4 : Int32) ≤ nI c := nI_ge (b := 4) hc (by decide)
    obtain ⟨N3, e1, e2⟩ := ih (c + 1) f (ax_wi N' 138 c 0) (by omega) (fr.wi rfl) (fun d hd => by
      rw [px_i_wi]
      by_cases ed : d = c
      · rw [if_pos ⟨rfl, ed⟩]
      · rw [if_neg (fun z => ed z.2)]; exact h1 d (by omega))
    refine ⟨N3, ?_, e2⟩
    rw [← e1]
    show G_M_runOff_48 rec38 (F_M_runOff_48 rec38 (f + k + 1)) N' _ _ _ _ _ _ = _
    simp only [G_M_runOff_48, if_neg x3, e_M_r44 nq nu W', e_M_wr138 nq nu W' hc, Option.bind_some, nI_1]
theorem mr_71s {N : ax_M} (W : px_W nq nu N.2.2) (hn : n < 6) (c : cq_p na 2 ch w m sp has lk) (g : cq_M N n na 2 ch w m sp has) (hv : ∀ b, b < 8 → ax_i N 136 b = vi (vc 2 has sp b)) {s : Nat} (hI : ∀ d, d < 4 → ax_i N 139 d = nI (s / 2 ^ d % 2)) (vl : Int32) {t : Nat → Nat} {tt a : Nat} (ha : a < na) (ht : ∀ d, d < 4 → ax_i N 138 d = nI (t d)) (rec38 : ax_M → Option Nat → Int32 → Int32 → Int32 → Option (ax_M)) (rec71 : ax_M → Option Nat → Int32 → Int32 → Int32 → Int32 → Int32 → Option (ax_M)) : ∃ N2, G_M_runOff_71 rec38 rec71 N (some 100) (nI n) vl 0 (nI tt) (nI a) = rec71 N2 (some 100) (nI n) vl 0 (nI (tt + ta (vc 2 has sp) w lk s a)) (nI (a + 1)) ∧ px_fr S138 N N2 ∧ ∀ d, d < 4 → ax_i N2 138 d = nI (t d + ca 2 (vc 2 has sp) w m lk s d a) := by
  have h8 := c.1
  have h4 := c.2.2.2.1
  have a8 : a < 8 := by omega
  have x1 : ¬ nI na ≤ nI a := nI_ge ha (by omega)
  have hn2 := (vi_neg (fun x hx => (c.vc8 a8 hx).1)).2.2
  have skip : (∀ d, ca 2 (vc 2 has sp) w m lk s d a = 0) → ta (vc 2 has sp) w lk s a = 0 → G_M_runOff_71 rec38 rec71 N (some 100) (nI n) vl 0 (nI tt) (nI a) = rec71 N (some 100) (nI n) vl 0 (nI tt) (nI (a + 1)) → ∃ N2, G_M_runOff_71 rec38 rec71 N (some 100) (nI n) vl 0 (nI tt) (nI a) = rec71 N2 (some 100) (nI n) vl 0 (nI (tt + ta (vc 2 has sp) w lk s a)) (nI (a + 1)) ∧ px_fr S138 N N2 ∧ ∀ d, d < 4 → ax_i N2 138 d = nI (t d + ca 2 (vc 2 has sp) w m lk s d a) := by
    intro e1 e2 e3
    refine ⟨N, ?_, px_fr.refl _ N, fun d hd => ?_⟩
    · rw [e2]; exact e3
    · rw [e1 d]; exact ht d hd
  cases hx : vc 2 has sp a with
  | none =>
    have z : (0 ≤ vi (vc 2 has sp a)) = False := eq_false (fun q => hn2.mp q hx)
    refine skip (fun d => by rw [ca_2, hx]) (by unfold ta; rw [hx]) ?_
    simp only [G_M_runOff_71, G_M_runOff_115, G_M_runOff_151, e_M_gi nq nu W, g.1, Option.bind_some, if_neg x1, e_M_r42 nq nu W, e_M_rd136 nq nu W a8, hv a a8, z, if_false, show ((-1 : Int32) < 0) = True from eq_true (by decide), if_true, nI_1]
  | some x =>
    obtain ⟨h1, h2, h3⟩ := c.lk2 a8 hx
    obtain ⟨l1, l2, l3⟩ := h3 rfl
    have hh := (c.vc8 a8 hx).2
    have z2 : vi (vc 2 has sp a) = nI x := by rw [hx]; rfl
    have z : (0 ≤ nI x) = True := eq_true (nI_pos' (by omega))
    have gm := (g.2.2.2 x h1).2.2.1 hh
    rw [l3] at gm
    have gw := (g.2.2.2 a a8).1
    have hi : 8 * n + x < 48 := by omega
    have eR := M_rankOf W h4 hI l1 l2
    have e71 : G_M_runOff_71 rec38 rec71 N (some 100) (nI n) vl 0 (nI tt) (nI a) = G_M_runOff_115 rec38 rec71 N (some 100) (nI n) vl 0 (nI tt) (nI a) (vi (fr_k s (lk x))) := by
      simp only [G_M_runOff_71, e_M_gi nq nu W, g.1, Option.bind_some, if_neg x1, e_M_r42 nq nu W, e_M_rd136 nq nu W a8, hv a a8, z2, z, if_true, e_M_r21 nq nu W, px_8, e_M_rd117 nq nu W hi, gm, e_M_ob nq nu W, eR]
    have eca : ∀ d, ca 2 (vc 2 has sp) w m lk s d a = if fr_k s (lk x) = some d then w a else 0 := fun d => by rw [ca_2, hx]
    have eta : ta (vc 2 has sp) w lk s a = if fr_k s (lk x) = none then 0 else w a := by unfold ta; rw [hx]
    cases hf : fr_k s (lk x) with
    | none =>
      refine skip (fun d => by rw [eca, hf, if_neg (by intro q; cases q)]) (by rw [eta, if_pos hf]) ?_
      rw [e71, hf]
      simp only [G_M_runOff_115, G_M_runOff_151, vi, show ((-1 : Int32) < 0) = True from eq_true (by decide), if_true, Option.bind_some, nI_1]
    | some y =>
      have hy := (fr_lt (lk x) l2 y hf).1
      have y4 : y < 4 := by omega
      rw [hf, if_neg (by intro q; cases q)] at eta
      refine ⟨ax_wi N 138 y (nI (t y + w a)), ?_, (px_fr.refl _ N).wi rfl, fun d hd => ?_⟩
      · rw [e71, hf, eta]
        have yn : (nI y < 0) = False := eq_false (nI_pos (by omega))
        have W2 : px_W nq nu (ax_wi N 138 y (nI (t y + w a))).2.2 := W
        have gw2 : ax_i (ax_wi N 138 y (nI (t y + w a))) 115 (8 * n + a) = nI (w a) := by rw [px_i_wi, if_neg (by omega)]; exact gw
        simp only [G_M_runOff_115, G_M_runOff_151, vi, yn, if_false, e_M_r44 nq nu W, e_M_rd138 nq nu W y4, ht y y4, Option.bind_some, e_M_ob nq nu W, M_weightOf W hn a8 gw, nI_add, e_M_wr138 nq nu W y4, e_M_ob nq nu W2, M_weightOf W2 hn a8 gw2, nI_1]
      · rw [px_i_wi, eca, hf]
        by_cases ed : d = y
        · rw [if_pos ⟨rfl, ed⟩, if_pos (by rw [ed]), ed]
        · rw [if_neg (fun q => ed q.2), if_neg (fun q => ed (Option.some.inj q).symm)]; exact ht d hd
theorem mr_71 {N : ax_M} (W : px_W nq nu N.2.2) (hn : n < 6) (c : cq_p na 2 ch w m sp has lk) (g : cq_M N n na 2 ch w m sp has) (hv : ∀ b, b < 8 → ax_i N 136 b = vi (vc 2 has sp b)) {s r u : Nat} (hr : r ≤ 4) (hI : ∀ d, d < 4 → ax_i N 139 d = nI (s / 2 ^ d % 2)) (h47 : ax_i N 100 47 = nI r) (h49 : r ≠ 0 → ax_i N 100 49 = an1 u) (vl : Int32) (rec38 : ax_M → Option Nat → Int32 → Int32 → Int32 → Option (ax_M)) : ∀ k a f N', a + k = na → px_fr S138 N N' → (∀ d, d < 4 → ax_i N' 138 d = nI (ct (ca 2 (vc 2 has sp) w m lk s d) a)) → ∃ N3, F_M_runOff_71 rec38 (f + k + 1) N' (some 100) (nI n) vl 0 (nI (ct (ta (vc 2 has sp) w lk s) a)) (nI a) = F_M_runOff_191 rec38 64 (ax_wi N3 100 49 (an1 (if r = 0 then ct (cn 2 (vc 2 has sp) w m lk s) 4 else u))) (some 100) (nI n) vl 0 (nI (ct (cn 2 (vc 2 has sp) w m lk s) 4)) (-1) 0 ∧ px_fr S138 N N3 ∧ ∀ d, d < 4 → ax_i N3 138 d = nI (cn 2 (vc 2 has sp) w m lk s d) := by
  have h8 := c.1
  have e8 : ∀ d, cn 2 (vc 2 has sp) w m lk s d = ct (ca 2 (vc 2 has sp) w m lk s d) na := fun d => by
    have := ct_z (f := ca 2 (vc 2 has sp) w m lk s d) (n := na) (8 - na) (fun a h1 h2 => by unfold ca; rw [c.vcna (by omega) h1])
    rw [show na + (8 - na) = 8 by omega] at this
    exact this
  have e9 : ct (cn 2 (vc 2 has sp) w m lk s) 4 = ct (ta (vc 2 has sp) w lk s) na := by
    rw [all_ta c]
    have := ct_z (f := ta (vc 2 has sp) w lk s) (n := na) (8 - na) (fun a h1 h2 => by unfold ta; rw [c.vcna (by omega) h1])
    rw [show na + (8 - na) = 8 by omega] at this
    exact this
  intro k
  induction k with
  | zero =>
    intro a f N' e fr h1
    have : a = na := by omega
    subst this
    have W' := fr.W W
    have g' := g.fr (fr.mono fun id k z => by unfold S138 at z; unfold S_cm; omega)
    refine ⟨N', ?_, fr, fun d hd => by rw [e8 d]; exact h1 d hd⟩
    rw [← e9]
    show G_M_runOff_71 rec38 _ N' _ _ _ _ _ _ = _
    have h47' : ax_i N' 100 47 = nI r := by rw [fr.2.1 100 47 (by unfold S138; omega)]; exact h47
    have hle := ct_le (f := cn 2 (vc 2 has sp) w m lk s) (B := 8000) 4 (fun d _ => cn_le c s d)
    by_cases r0 : r = 0
    · have e0 : (nI r = 0) = True := eq_true (by rw [r0]; rfl)
      rw [if_pos r0]
      by_cases zc : 0 < ct (cn 2 (vc 2 has sp) w m lk s) 4
      · have eu2 : an1 (ct (cn 2 (vc 2 has sp) w m lk s) 4) = 1 := if_pos zc
        have zc' : (nI (ct (cn 2 (vc 2 has sp) w m lk s) 4) ≤ 0) = False := eq_false (nI_nle zc (by omega))
        simp only [G_M_runOff_71, G_M_runOff_182, e_M_gi nq nu W', g'.1, Option.bind_some, if_pos (Int32.le_refl _), h47', e0, if_true, zc', if_false, px_bo1, e_M_pi nq nu W', eu2]
      · have eu2 : an1 (ct (cn 2 (vc 2 has sp) w m lk s) 4) = 0 := if_neg zc
        have zc' : (nI (ct (cn 2 (vc 2 has sp) w m lk s) 4) ≤ 0) = True := eq_true (by rw [show ct (cn 2 (vc 2 has sp) w m lk s) 4 = 0 by omega, nI_0]; exact Int32.le_refl _)
        simp only [G_M_runOff_71, G_M_runOff_182, e_M_gi nq nu W', g'.1, Option.bind_some, if_pos (Int32.le_refl _), h47', e0, if_true, zc', px_bo0, e_M_pi nq nu W', eu2]
    · have e0 : (nI r = 0) = False := eq_false (nI_ne0 (by omega) (by omega))
      rw [if_neg r0]
      have h49' : ax_i N' 100 49 = an1 u := by rw [fr.2.1 100 49 (by unfold S138; omega)]; exact h49 r0
      have bo : ax_bo (an1 u) = some (an1 u) := by
        unfold an1
        split
        · exact px_bo1
        · exact px_bo0
      simp only [G_M_runOff_71, G_M_runOff_182, e_M_gi nq nu W', g'.1, Option.bind_some, if_pos (Int32.le_refl _), h47', e0, if_false, h49', bo, e_M_pi nq nu W']
  | succ k ih =>
    intro a f N' e fr h1
    have W' := fr.W W
    have g' := g.fr (fr.mono fun id k z => by unfold S138 at z; unfold S_cm; omega)
    have hv' : ∀ b, b < 8 → ax_i N' 136 b = vi (vc 2 has sp b) := fun b hb => by rw [fr.2.1 136 b (by unfold S138; omega)]; exact hv b hb
    have hI' : ∀ d, d < 4 → ax_i N' 139 d = nI (s / 2 ^ d % 2) := fun d hd => by rw [fr.2.1 139 d (by unfold S138; omega)]; exact hI d hd
    obtain ⟨N2, q1, q2, q3⟩ := mr_71s W' hn c g' hv' hI' vl (tt := ct (ta (vc 2 has sp) w lk s) a) (show a < na by omega) h1 rec38 (F_M_runOff_71 rec38 (f + k + 1))
    obtain ⟨N3, r1, r2⟩ := ih (a + 1) f N2 (by omega) (fr.trans q2) q3
    exact ⟨N3, q1.trans r1, r2⟩
def b1 (b : Bool) : Int32 := if b = true then 1 else 0
theorem mr_191 {N : ax_M} (W : px_W nq nu N.2.2) {s all left : Nat} {F : Nat → Nat} (hI : ∀ d, d < 4 → ax_i N 139 d = nI (s / 2 ^ d % 2)) (hF : ∀ d, d < 4 → ax_i N 138 d = nI (F d) ∧ F d ≤ 8000) (hall : all ≤ 32000) (hleft : left ≤ 4) (rec38 : ax_M → Option Nat → Int32 → Int32 → Int32 → Option (ax_M)) : ∀ k c f, c + k = 4 → F_M_runOff_191 rec38 (f + k + 1) N (some 100) (nI n) (nI left) (b1 (hf F s all c)) (nI all) (vi (le_f F s c)) (nI c) = if hf F s all 4 = true ∨ left = 1 then rec38 N (some 100) (nI n) (nI left) 1 else G_M_runOff_292 rec38 N (some 100) (nI n) (nI left) (vi (le_f F s 4)) 0 := by
  intro k
  induction k with
  | zero =>
    intro c f e
    have : c = 4 := by omega
    subst this
    show G_M_runOff_191 rec38 _ N _ _ _ _ _ _ _ = _
    unfold G_M_runOff_191
    rw [if_pos (show (4 : Int32) ≤ nI 4 from Int32.le_refl _)]
    have e287 : G_M_runOff_287 rec38 N (some 100) (nI n) (nI left) (vi (le_f F s 4)) = rec38 N (some 100) (nI n) (nI left) 1 := by
      simp only [G_M_runOff_287, G_M_runOff_292, G_M_runOff_329, i32_10, if_false]
    rw [e287]
    by_cases z : hf F s all 4 = true
    · rw [if_pos (Or.inl z), z]
      show (if (1 : Int32) = 0 then _ else _) = _
      rw [if_neg (by decide)]
    · have z' : hf F s all 4 = false := by cases q : hf F s all 4; rfl; exact absurd q z
      rw [z']
      show (if (0 : Int32) = 0 then _ else _) = _
      rw [if_pos rfl]
      by_cases y : left = 1
      · rw [if_pos (Or.inr y), if_pos (show nI left = 1 by rw [y]; rfl)]
      · have y1 : ¬ nI left = 1 := fun q => y ((nI_eq (b := 1) (by omega) (by decide)).mp q)
        have y2 : ¬ (false = true ∨ left = 1) := fun q => q.elim (fun q => absurd q (by decide)) y
        rw [if_neg y1, if_neg y2]
  | succ k ih =>
    intro c f e
    have hc : c < 4 := by omega
    have x3 : ¬ (4 : Int32) ≤ nI c := nI_ge (b := 4) hc (by decide)
    obtain ⟨f1, f2⟩ := hF c hc
    have i1 := hI c hc
    rw [← ih (c + 1) f (by omega)]
    show G_M_runOff_191 rec38 (F_M_runOff_191 rec38 (f + k + 1)) N _ _ _ _ _ _ _ = _
    have eh : hf F s all (c + 1) = (hf F s all c || (decide (s / 2 ^ c % 2 = 1) && decide (all < 2 * F c))) := rfl
    have e2 : (2 : Int32) * nI (F c) = nI (2 * F c) := by rw [show (2 : Int32) = nI 2 from rfl, pk_mul]
    have e3 := nI_leI (a := 2 * F c) (b := all) (by omega) (by omega)
    have st1 : G_M_runOff_191 rec38 (F_M_runOff_191 rec38 (f + k + 1)) N (some 100) (nI n) (nI left) (b1 (hf F s all c)) (nI all) (vi (le_f F s c)) (nI c) = G_M_runOff_230 rec38 (F_M_runOff_191 rec38 (f + k + 1)) N (some 100) (nI n) (nI left) (nI all) (vi (le_f F s c)) (nI c) (b1 (hf F s all (c + 1))) := by
      unfold G_M_runOff_191
      rw [if_neg x3]
      by_cases z : hf F s all c = true
      · rw [eh, z, Bool.true_or]
        show (if (1 : Int32) = 0 then _ else _) = _
        rw [if_neg (by decide)]
        rfl
      · have z' : hf F s all c = false := by cases q : hf F s all c; rfl; exact absurd q z
        rw [eh, z', Bool.false_or]
        show (if (0 : Int32) = 0 then _ else _) = _
        rw [if_pos rfl, e_M_r45 nq nu W, Option.bind_some, e_M_rd139 nq nu W hc, Option.bind_some, i1]
        by_cases y : s / 2 ^ c % 2 = 1
        · rw [y, if_neg (by decide), e_M_r44 nq nu W, Option.bind_some, e_M_rd138 nq nu W hc, Option.bind_some, f1, e2]
          by_cases v : all < 2 * F c
          · rw [if_neg (fun q => by have := e3.mp q; omega), decide_eq_true v]; rfl
          · rw [if_pos (e3.mpr (by omega)), decide_eq_false v]; rfl
        · rw [show s / 2 ^ c % 2 = 0 by omega, if_pos nI_0]; rfl
    rw [st1]
    have el : le_f F s (c + 1) = if s / 2 ^ c % 2 = 1 then (match le_f F s c with | none => some c | some b => if F c ≤ F b then some c else some b) else le_f F s c := rfl
    unfold G_M_runOff_230
    rw [e_M_r45 nq nu W, Option.bind_some, e_M_rd139 nq nu W hc, Option.bind_some, i1]
    by_cases y : s / 2 ^ c % 2 = 1
    · rw [if_pos y] at el
      rw [y, if_neg (by decide)]
      cases hb : le_f F s c with
      | none =>
        rw [hb] at el
        rw [el]
        simp only [vi, show ((-1 : Int32) < 0) = True from eq_true (by decide), if_true, G_M_runOff_263, G_M_runOff_270, Option.bind_some, nI_1]
      | some b =>
        rw [hb] at el
        have hb2 := (le_some c b hb).1
        obtain ⟨f3, f4⟩ := hF b (by omega)
        have bn : ¬ nI b < 0 := nI_pos (by omega)
        by_cases v : F c ≤ F b
        · simp only [if_pos v] at el
          have v' : ¬ nI (F b) < nI (F c) := fun q => by have := (nI_ltI (by omega) (by omega)).mp q; omega
          rw [el]
          simp only [vi, if_neg bn, e_M_r44 nq nu W, e_M_rd138 nq nu W hc, e_M_rd138 nq nu W (show b < 4 by omega), f1, f3, if_neg v', G_M_runOff_263, G_M_runOff_270, Option.bind_some, nI_1]
        · simp only [if_neg v] at el
          have v' : nI (F b) < nI (F c) := (nI_ltI (by omega) (by omega)).mpr (by omega)
          rw [el]
          simp only [vi, if_neg bn, e_M_r44 nq nu W, e_M_rd138 nq nu W hc, e_M_rd138 nq nu W (show b < 4 by omega), f1, f3, if_pos v', G_M_runOff_268, G_M_runOff_270, Option.bind_some, nI_1]
    · rw [if_neg y] at el
      rw [show s / 2 ^ c % 2 = 0 by omega, if_pos nI_0, el]
      simp only [G_M_runOff_268, G_M_runOff_270, Option.bind_some, nI_1]
def S_ro (id k : Nat) : Prop := id = 138 ∨ id = 139 ∨ id = 140 ∨ (id = 100 ∧ (k = 47 ∨ k = 49))
theorem mr_38 {N : ax_M} (W : px_W nq nu N.2.2) (hn : n < 6) (c : cq_p na 2 ch w m sp has lk) (g : cq_M N n na 2 ch w m sp has) (hv : ∀ b, b < 8 → ax_i N 136 b = vi (vc 2 has sp b)) : ∀ k s r u f N', r + k + 1 = ch → s < 2 ^ ch → rk_p s = k + 1 → px_fr S_ro N N' → (∀ d, d < 4 → ax_i N' 139 d = nI (s / 2 ^ d % 2)) → ax_i N' 100 47 = nI r → (r ≠ 0 → ax_i N' 100 49 = an1 u) → ∃ N3, F_M_runOff_38 (f + k + 2) N' (some 100) (nI n) (nI (k + 1)) 0 = some N3 ∧ px_fr S_ro N N3 ∧ (∀ d, d < 4 → ax_i N3 138 d = nI (cn 2 (vc 2 has sp) w m lk (ro (cn 2 (vc 2 has sp) w m lk) k s).2 d)) ∧ ax_i N3 100 47 = nI (r + (ro (cn 2 (vc 2 has sp) w m lk) k s).1.length) ∧ ax_i N3 100 49 = an1 (if r = 0 then ct (cn 2 (vc 2 has sp) w m lk s) 4 else u) ∧ (∀ j, j < r → ax_i N3 140 j = ax_i N' 140 j) ∧ ∀ j, j < (ro (cn 2 (vc 2 has sp) w m lk) k s).1.length → ax_i N3 140 (r + j) = nI ((ro (cn 2 (vc 2 has sp) w m lk) k s).1.getD j 0) := by
  have h8 := c.1
  have h4 := c.2.2.2.1
  have hcm : ∀ id k, S_ro id k → S_cm id k := fun id k z => by unfold S_ro at z; unfold S_cm; omega
  intro k
  induction k with
  | zero =>
    intro s r u f N' e hs hp fr hI h47 h49
    have W' := fr.W W
    have g' := g.fr (fr.mono hcm)
    have hv' : ∀ b, b < 8 → ax_i N' 136 b = vi (vc 2 has sp b) := fun b hb => by rw [fr.2.1 136 b (by unfold S_ro; omega)]; exact hv b hb
    obtain ⟨N1, a1, a2, a3⟩ := mr_48 (n := n) W' (nI (0 + 1)) (F_M_runOff_38 (f + 0 + 1)) 4 0 59 N' (by omega) (px_fr.refl _ N') (fun d z => absurd z (Nat.not_lt_zero _))
    have a2' : px_fr S_cm N' N1 := a2.mono fun id k z => by unfold S138 at z; unfold S_cm; omega
    obtain ⟨N2, b1', b2, b3⟩ := mr_71 (s := s) (r := r) (u := u) (a2.W W') hn c (g'.fr a2') (fun b hb => by rw [a2.2.1 136 b (by unfold S138; omega)]; exact hv' b hb) (by omega) (fun d hd => by rw [a2.2.1 139 d (by unfold S138; omega)]; exact hI d hd) (by rw [a2.2.1 100 47 (by unfold S138; omega)]; exact h47) (fun z => by rw [a2.2.1 100 49 (by unfold S138; omega)]; exact h49 z) (nI (0 + 1)) (F_M_runOff_38 (f + 0 + 1)) na 0 (63 - na) N1 (by omega) (px_fr.refl _ N1) (fun d hd => a3 d hd)
    rw [show 63 - na + na + 1 = 64 by omega, nI_0] at b1'
    have b12 : px_fr S138 N' N2 := a2.trans b2
    have hIN : ∀ d, d < 4 → ax_i (ax_wi N2 100 49 (an1 (if r = 0 then ct (cn 2 (vc 2 has sp) w m lk s) 4 else u))) 139 d = nI (s / 2 ^ d % 2) := fun d hd => by rw [px_i_wi, if_neg (by omega), b12.2.1 139 d (by unfold S138; omega)]; exact hI d hd
    have hle := ct_le (f := cn 2 (vc 2 has sp) w m lk s) (B := 8000) 4 (fun d _ => cn_le c s d)
    have W3 : px_W nq nu (ax_wi N2 100 49 (an1 (if r = 0 then ct (cn 2 (vc 2 has sp) w m lk s) 4 else u))).2.2 := b12.W W'
    have c1 := mr_191 (n := n) (left := 0 + 1) (F := cn 2 (vc 2 has sp) w m lk s) (all := ct (cn 2 (vc 2 has sp) w m lk s) 4) W3 hIN (fun d hd => ⟨by rw [px_i_wi, if_neg (by omega)]; exact b3 d hd, cn_le c s d⟩) (by omega) (by omega) (F_M_runOff_38 (f + 0 + 1)) 4 0 59 (by omega)
    rw [if_pos (Or.inr rfl)] at c1
    refine ⟨ax_wi N2 100 49 (an1 (if r = 0 then ct (cn 2 (vc 2 has sp) w m lk s) 4 else u)), ?_, (fr.trans (b12.mono fun id k z => Or.inl z)).wi (Or.inr (Or.inr (Or.inr ⟨rfl, Or.inr rfl⟩))), fun d hd => ?_, ?_, ?_, fun j hj => ?_, fun j z => absurd z (Nat.not_lt_zero _)⟩
    · show G_M_runOff_38 (F_M_runOff_38 (f + 0 + 1)) N' _ _ _ _ = _
      simp only [G_M_runOff_38, if_true]
      have a1' : F_M_runOff_48 (F_M_runOff_38 (f + 0 + 1)) 64 N' (some 100) (nI n) (nI (0 + 1)) 0 0 0 = _ := a1
      have b1'' : F_M_runOff_71 (F_M_runOff_38 (f + 0 + 1)) 64 N1 (some 100) (nI n) (nI (0 + 1)) 0 0 0 = _ := b1'
      have c1' : F_M_runOff_191 (F_M_runOff_38 (f + 0 + 1)) 64 (ax_wi N2 100 49 (an1 (if r = 0 then ct (cn 2 (vc 2 has sp) w m lk s) 4 else u))) (some 100) (nI n) (nI (0 + 1)) 0 (nI (ct (cn 2 (vc 2 has sp) w m lk s) 4)) (-1) 0 = _ := c1
      rw [a1', b1'', c1']
      show G_M_runOff_38 _ _ _ _ _ _ = _
      simp only [G_M_runOff_38, i32_10, if_false]
    · rw [px_i_wi, if_neg (by omega)]; exact b3 d hd
    · rw [px_i_wi, if_neg (by omega), b12.2.1 100 47 (by unfold S138; omega)]; exact h47
    · rw [px_i_wi, if_pos ⟨rfl, rfl⟩]
    · rw [px_i_wi, if_neg (by omega), b12.2.1 140 j (by unfold S138; omega)]
  | succ k ih =>
    intro s r u f N' e hs hp fr hI h47 h49
    have W' := fr.W W
    have g' := g.fr (fr.mono hcm)
    have hv' : ∀ b, b < 8 → ax_i N' 136 b = vi (vc 2 has sp b) := fun b hb => by rw [fr.2.1 136 b (by unfold S_ro; omega)]; exact hv b hb
    obtain ⟨N1, a1, a2, a3⟩ := mr_48 (n := n) W' (nI (k + 1 + 1)) (F_M_runOff_38 (f + k + 2)) 4 0 59 N' (by omega) (px_fr.refl _ N') (fun d z => absurd z (Nat.not_lt_zero _))
    have a2' : px_fr S_cm N' N1 := a2.mono fun id k z => by unfold S138 at z; unfold S_cm; omega
    obtain ⟨N2, b1', b2, b3⟩ := mr_71 (s := s) (r := r) (u := u) (a2.W W') hn c (g'.fr a2') (fun b hb => by rw [a2.2.1 136 b (by unfold S138; omega)]; exact hv' b hb) (by omega) (fun d hd => by rw [a2.2.1 139 d (by unfold S138; omega)]; exact hI d hd) (by rw [a2.2.1 100 47 (by unfold S138; omega)]; exact h47) (fun z => by rw [a2.2.1 100 49 (by unfold S138; omega)]; exact h49 z) (nI (k + 1 + 1)) (F_M_runOff_38 (f + k + 2)) na 0 (63 - na) N1 (by omega) (px_fr.refl _ N1) (fun d hd => a3 d hd)
    rw [show 63 - na + na + 1 = 64 by omega, nI_0] at b1'
    have b12 : px_fr S138 N' N2 := a2.trans b2
    obtain ⟨u2, hu2⟩ : ∃ u2, u2 = if r = 0 then ct (cn 2 (vc 2 has sp) w m lk s) 4 else u := ⟨_, rfl⟩
    rw [← hu2] at b1' ⊢
    obtain ⟨N3, hN3⟩ : ∃ N3, N3 = ax_wi N2 100 49 (an1 u2) := ⟨_, rfl⟩
    rw [← hN3] at b1'
    have fr3 : px_fr S_ro N N3 := by rw [hN3]; exact (fr.trans (b12.mono fun id k z => Or.inl z)).wi (Or.inr (Or.inr (Or.inr ⟨rfl, Or.inr rfl⟩)))
    have W3 := fr3.W W
    have o3 : ∀ id j, id ≠ 138 → ¬ (id = 100 ∧ j = 49) → ax_i N3 id j = ax_i N' id j := fun id j z1 z2 => by rw [hN3, px_i_wi, if_neg z2, b12.2.1 id j z1]
    have h138 : ∀ d, d < 4 → ax_i N3 138 d = nI (cn 2 (vc 2 has sp) w m lk s d) := fun d hd => by rw [hN3, px_i_wi, if_neg (by omega)]; exact b3 d hd
    have hIN : ∀ d, d < 4 → ax_i N3 139 d = nI (s / 2 ^ d % 2) := fun d hd => by rw [o3 139 d (by omega) (by omega)]; exact hI d hd
    have hle := ct_le (f := cn 2 (vc 2 has sp) w m lk s) (B := 8000) 4 (fun d _ => cn_le c s d)
    have c1 := mr_191 (n := n) (left := k + 1 + 1) (F := cn 2 (vc 2 has sp) w m lk s) (all := ct (cn 2 (vc 2 has sp) w m lk s) 4) W3 hIN (fun d hd => ⟨h138 d hd, cn_le c s d⟩) (by omega) (by omega) (F_M_runOff_38 (f + k + 2)) 4 0 59 (by omega)
    have start : F_M_runOff_38 (f + (k + 1) + 2) N' (some 100) (nI n) (nI (k + 1 + 1)) 0 = if hf (cn 2 (vc 2 has sp) w m lk s) s (ct (cn 2 (vc 2 has sp) w m lk s) 4) 4 = true ∨ k + 1 + 1 = 1 then F_M_runOff_38 (f + k + 2) N3 (some 100) (nI n) (nI (k + 1 + 1)) 1 else G_M_runOff_292 (F_M_runOff_38 (f + k + 2)) N3 (some 100) (nI n) (nI (k + 1 + 1)) (vi (le_f (cn 2 (vc 2 has sp) w m lk s) s 4)) 0 := by
      show G_M_runOff_38 (F_M_runOff_38 (f + k + 2)) N' _ _ _ _ = _
      unfold G_M_runOff_38
      rw [if_pos rfl]
      have a1' : F_M_runOff_48 (F_M_runOff_38 (f + k + 2)) 64 N' (some 100) (nI n) (nI (k + 1 + 1)) 0 0 0 = _ := a1
      have b1'' : F_M_runOff_71 (F_M_runOff_38 (f + k + 2)) 64 N1 (some 100) (nI n) (nI (k + 1 + 1)) 0 0 0 = _ := b1'
      have c1' : F_M_runOff_191 (F_M_runOff_38 (f + k + 2)) 64 N3 (some 100) (nI n) (nI (k + 1 + 1)) 0 (nI (ct (cn 2 (vc 2 has sp) w m lk s) 4)) (-1) 0 = _ := c1
      rw [a1', b1'', c1']
    have h493 : ax_i N3 100 49 = an1 u2 := by rw [hN3, px_i_wi, if_pos ⟨rfl, rfl⟩]
    by_cases hh : hf (cn 2 (vc 2 has sp) w m lk s) s (ct (cn 2 (vc 2 has sp) w m lk s) 4) 4 = true
    · rw [if_pos (Or.inl hh)] at start
      refine ⟨N3, ?_, fr3, ?_, ?_, h493, fun j hj => o3 140 j (by omega) (by omega), ?_⟩
      · rw [start]
        show G_M_runOff_38 _ _ _ _ _ _ = _
        simp only [G_M_runOff_38, i32_10, if_false]
      · rw [ro_h _ hh]; exact h138
      · rw [ro_h _ hh, o3 100 47 (by omega) (by omega)]; exact h47
      · rw [ro_h _ hh]; intro j z; exact absurd z (Nat.not_lt_zero _)
    · rw [if_neg (by rintro (q | q); exact hh q; omega)] at start
      cases hb : le_f (cn 2 (vc 2 has sp) w m lk s) s 4 with
      | none =>
        obtain ⟨d, h1, h2⟩ := rb_p (s := s) (by omega)
        exact absurd h2 (le_none 4 hb d h1)
      | some b =>
        obtain ⟨hb4, hbit⟩ := le_some 4 b hb
        obtain ⟨_, hs2, hp2⟩ := rb_1 (ch := ch) (by omega) hs hb4 hbit
        have s16 := ((rb_2 ch (by omega)).1 s hs).1
        rw [hb] at start
        obtain ⟨N4, hN4⟩ : ∃ N4, N4 = ax_wi (ax_wi (ax_wi N3 139 b 0) 140 r (nI b)) 100 47 (nI (r + 1)) := ⟨_, rfl⟩
        have h473 : ax_i N3 100 47 = nI r := by rw [o3 100 47 (by omega) (by omega)]; exact h47
        have r4 : r < 4 := by omega
        have e292 : G_M_runOff_292 (F_M_runOff_38 (f + k + 2)) N3 (some 100) (nI n) (nI (k + 1 + 1)) (vi (some b)) 0 = F_M_runOff_38 (f + k + 2) N4 (some 100) (nI n) (nI (k + 1)) 0 := by
          have em : nI (k + 1 + 1) + (-1 : Int32) = nI (k + 1) := by
            rw [← Int32.sub_eq_add_neg]; exact nI_pred (k + 1)
          have j1 : ax_i (ax_wi N3 139 b 0) 100 47 = nI r := by rw [px_i_wi, if_neg (by omega)]; exact h473
          have j2 : ax_i (ax_wi (ax_wi N3 139 b 0) 140 r (nI b)) 100 47 = nI r := by rw [px_i_wi, if_neg (by omega)]; exact j1
          rw [hN4]
          simp only [G_M_runOff_292, G_M_runOff_329, vi, if_true, e_M_r45 nq nu W3, e_M_wr139 nq nu W3 hb4, Option.bind_some, e_M_r46 nq nu (M := ax_wi _ _ _ _) W3, e_M_gi nq nu (M := ax_wi _ _ _ _) W3, j1, e_M_wr140 nq nu (M := ax_wi _ _ _ _) W3 r4, e_M_gi nq nu (M := ax_wi (ax_wi _ _ _ _) _ _ _) W3, j2, e_M_pi nq nu (M := ax_wi (ax_wi _ _ _ _) _ _ _) W3, nI_1, em]
        rw [e292] at start
        have fr4 : px_fr S_ro N N4 := by
          rw [hN4]
          exact ((fr3.wi (Or.inr (Or.inl rfl))).wi (Or.inr (Or.inr (Or.inl rfl)))).wi (Or.inr (Or.inr (Or.inr ⟨rfl, Or.inl rfl⟩)))
        obtain ⟨N5, r1, r2, r3, r4', r5, r6, r7⟩ := ih (s - 2 ^ b) (r + 1) u2 f N4 (by omega) hs2 (by omega) fr4 (fun d hd => by
          rw [hN4, px_i_wi, if_neg (by omega), px_i_wi, if_neg (by omega), px_i_wi, rb_3 s s16 b hb4 hbit d hd]
          by_cases ed : d = b
          · rw [if_pos ⟨rfl, ed⟩, if_pos ed]; rfl
          · rw [if_neg (fun q => ed q.2), if_neg ed]; exact hIN d hd) (by rw [hN4, px_i_wi, if_pos ⟨rfl, rfl⟩]) (fun _ => by rw [hN4, px_i_wi, if_neg (by omega), px_i_wi, if_neg (by omega), px_i_wi, if_neg (by omega)]; exact h493)
        have h140 : ∀ j, ax_i N4 140 j = if j = r then nI b else ax_i N' 140 j := fun j => by
          rw [hN4, px_i_wi, if_neg (by omega), px_i_wi]
          by_cases z : j = r
          · rw [if_pos ⟨rfl, z⟩, if_pos z]
          · rw [if_neg (fun q => z q.2), if_neg z, px_i_wi, if_neg (by omega), o3 140 j (by omega) (by omega)]
        rw [if_neg (by omega)] at r5
        refine ⟨N5, by rw [start]; exact r1, r2, ?_, ?_, r5, fun j hj => ?_, ?_⟩
        · rw [ro_s _ hh hb]; exact r3
        · rw [ro_s _ hh hb]
          show _ = nI (r + ((ro (cn 2 (vc 2 has sp) w m lk) k (s - 2 ^ b)).1.length + 1))
          rw [r4']; congr 1; omega
        · rw [r6 j (by omega), h140, if_neg (by omega)]
        · rw [ro_s _ hh hb]
          intro j hj
          cases j with
          | zero =>
            show ax_i N5 140 (r + 0) = nI b
            rw [Nat.add_zero, r6 r (by omega), h140, if_pos rfl]
          | succ j =>
            have hj' : j < (ro (cn 2 (vc 2 has sp) w m lk) k (s - 2 ^ b)).1.length := Nat.lt_of_succ_lt_succ hj
            have := r7 j hj'
            rw [show r + 1 + j = r + (j + 1) by omega] at this
            exact this
theorem mr_9 {N : ax_M} (W : px_W nq nu N.2.2) (h4 : ch ≤ 4) : ∀ k c f N', c + k = 4 → px_fr (fun id _ => id = 139) N N' → (∀ d, d < c → ax_i N' 139 d = nI (if d < ch then 1 else 0)) → ∃ N3, F_M_runOff_9 (f + k + 1) N' (some 100) (nI n) (nI ch) (nI c) = F_M_runOff_38 64 N3 (some 100) (nI n) (nI ch) 0 ∧ px_fr (fun id _ => id = 139) N N3 ∧ ∀ d, d < 4 → ax_i N3 139 d = nI (if d < ch then 1 else 0) := by
  intro k
  induction k with
  | zero =>
    intro c f N' e fr h1
    have : c = 4 := by omega
    subst this
    refine ⟨N', ?_, fr, h1⟩
    show G_M_runOff_9 _ N' _ _ _ _ = _
    simp only [G_M_runOff_9]
    rw [if_pos (show (4 : Int32) ≤ nI 4 from Int32.le_refl _)]
  | succ k ih =>
    intro c f N' e fr h1
    have W' := fr.W W
    have hc : c < 4 := by omega
    have x3 : ¬ (4 : Int32) ≤ nI c := nI_ge (b := 4) hc (by decide)
    obtain ⟨N3, e1, e2⟩ := ih (c + 1) f (ax_wi N' 139 c (nI (if c < ch then 1 else 0))) (by omega) (fr.wi rfl) (fun d hd => by
      rw [px_i_wi]
      by_cases ed : d = c
      · rw [if_pos ⟨rfl, ed⟩, ed]
      · rw [if_neg (fun z => ed z.2)]; exact h1 d (by omega))
    refine ⟨N3, ?_, e2⟩
    rw [← e1]
    show G_M_runOff_9 (F_M_runOff_9 (f + k + 1)) N' _ _ _ _ = _
    by_cases z : c < ch
    · have x1 : ¬ nI ch ≤ nI c := nI_ge z (by omega)
      simp only [G_M_runOff_9, G_M_runOff_29, if_neg x3, e_M_r45 nq nu W', Option.bind_some, if_neg x1, px_bo1, e_M_wr139 nq nu W' hc, nI_1, if_pos z]
      rfl
    · have x1 : nI ch ≤ nI c := nI_le (by omega) (by omega)
      simp only [G_M_runOff_9, G_M_runOff_29, if_neg x3, e_M_r45 nq nu W', Option.bind_some, if_pos x1, px_bo0, e_M_wr139 nq nu W' hc, nI_1, if_neg z]
      rfl
theorem M_runOff {N : ax_M} (W : px_W nq nu N.2.2) (hn : n < 6) (c : cq_p na 2 ch w m sp has lk) (g : cq_M N n na 2 ch w m sp has) (hv : ∀ b, b < 8 → ax_i N 136 b = vi (vc 2 has sp b)) (h47 : ax_i N 100 47 = 0) : ∃ N3, f_M_runOff N (some 100) (nI n) = some N3 ∧ px_fr S_ro N N3 ∧ (∀ d, d < 4 → ax_i N3 138 d = nI (cn 2 (vc 2 has sp) w m lk (ro (cn 2 (vc 2 has sp) w m lk) (ch - 1) (2 ^ ch - 1)).2 d)) ∧ ax_i N3 100 47 = nI (ro (cn 2 (vc 2 has sp) w m lk) (ch - 1) (2 ^ ch - 1)).1.length ∧ ax_i N3 100 49 = an1 (ct (cn 2 (vc 2 has sp) w m lk (2 ^ ch - 1)) 4) ∧ ∀ j, j < (ro (cn 2 (vc 2 has sp) w m lk) (ch - 1) (2 ^ ch - 1)).1.length → ax_i N3 140 j = nI ((ro (cn 2 (vc 2 has sp) w m lk) (ch - 1) (2 ^ ch - 1)).1.getD j 0) := by
  have h4 := c.2.2.2.1
  have h2 := c.2.2.1
  obtain ⟨_, rs, rp, _, rbit⟩ := rb_2 ch (by omega)
  obtain ⟨N1, a1, a2, a3⟩ := mr_9 (n := n) W h4 4 0 59 N (by omega) (px_fr.refl _ N) (fun d z => absurd z (Nat.not_lt_zero _))
  have fr1 : px_fr S_ro N N1 := a2.mono fun id k z => Or.inr (Or.inl z)
  obtain ⟨N3, b1', b2, b3, b4, b5, _, b7⟩ := mr_38 W hn c g hv (ch - 1) (2 ^ ch - 1) 0 0 (63 - ch) N1 (by omega) rs (by omega) fr1 (fun d hd => by rw [a3 d hd, rbit d hd]) (by rw [a2.2.1 100 47 (by omega), h47]; rfl) (fun z => absurd rfl z)
  rw [show 63 - ch + (ch - 1) + 2 = 64 by omega, show ch - 1 + 1 = ch by omega] at b1'
  rw [if_pos rfl] at b5
  refine ⟨N3, ?_, b2, b3, by rw [b4, Nat.zero_add], b5, fun j hj => by have := b7 j hj; rw [Nat.zero_add] at this; exact this⟩
  have a1' : F_M_runOff_9 64 N (some 100) (nI n) (nI ch) 0 = _ := a1
  simp only [f_M_runOff, e_M_r10 nq nu W, e_M_rd106 nq nu W hn, g.2.2.1, Option.bind_some, a1', b1']
end
