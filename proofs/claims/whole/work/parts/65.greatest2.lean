/-! THE GREATEST BID OF THE REFERENCE, AND OF THE CLASS -/
def gr_cd (is op : Nat → Bool) (wn : Nat → Nat) (kd : Nat) (but : Option Nat) (a : Nat) : Bool := is a && !(but == some a) && (if kd = 0 ∨ kd = 4 then wn a == 0 else op a)
theorem gr_obn (b : Option Nat) {a : Nat} (ha : a < 8) (hb : ∀ c, b = some c → c < 8) : (nI a = gr_ob b) ↔ b = some a := by
  cases b with
  | none =>
    simp only [gr_ob]
    constructor
    · intro z
      exact absurd (show nI a < 0 by rw [z]; decide) (nI_pos (by omega))
    · intro z; cases z
  | some c =>
    have := hb c rfl
    simp only [gr_ob, nI_eq (show a < 2 ^ 31 by omega) (show c < 2 ^ 31 by omega), Option.some.injEq]
    exact eq_comm
/-- what the reference has of an auction's bids -/
def gr_M (M : ax_M) (n na kd : Nat) (is op : Nat → Bool) (wn p bw : Nat → Nat) : Prop := ax_i M 100 3 = nI na ∧ na ≤ 8 ∧ n < 6 ∧ ax_i M 121 n = nI kd ∧ kd < 5 ∧ ∀ a, a < na → ax_i M 129 (8 * n + a) = (if is a = true then 1 else 0) ∧ ax_i M 134 (8 * n + a) = (if op a = true then 1 else 0) ∧ (ax_i M 135 (8 * n + a) = nI (wn a) ∧ wn a < 2 ^ 31) ∧ (is a = true → ax_i M 132 (8 * n + a) = nI (bw a) ∧ bw a < 2 ^ 31 ∧ ((kd = 0 ∨ kd = 4) ∨ op a = true → ax_i M 131 (8 * n + a) = nI (p a) ∧ p a < 2 ^ 31))
theorem gr_s1 {nq nu n na kd : Nat} {M : ax_M} {is op : Nat → Bool} {wn p bw : Nat → Nat} (h : px_W nq nu M.2.2) (g : gr_M M n na kd is op wn p bw) (but : Option Nat) (hbut : ∀ c, but = some c → c < 8) {a : Nat} (ha : a < na) (rec : ax_M → Option Nat → Int32 → Int32 → Int32 → Int32 → Option (Int32 × ax_M)) (v : Int32) : G_M_greatest_5 rec M (some 100) (nI n) (gr_ob but) v (nI a) = G_M_greatest_86 rec M (some 100) (nI n) (gr_ob but) v (nI a) (nI (8 * n + a)) (if gr_cd is op wn kd but a = true then 1 else 0) := by
  obtain ⟨g1, g2, g3, g4, g5, g6⟩ := g
  obtain ⟨q1, q2, ⟨q3, q4⟩, q5⟩ := g6 a ha
  have h48 : 8 * n + a < 48 := by omega
  have hb := gr_obn but (show a < 8 by omega) hbut
  simp only [G_M_greatest_5, G_M_greatest_58, G_M_greatest_81, G_M_greatest_85, e_M_gi nq nu, e_M_gl nq nu, e_M_pi nq nu, e_M_pl nq nu, e_M_ob nq nu, e_M_r4 nq nu, e_M_s101 nq nu, e_M_rd101 nq nu, e_M_wr101 nq nu, e_M_r5 nq nu, e_M_s102 nq nu, e_M_rd102 nq nu, e_M_wr102 nq nu, e_M_r6 nq nu, e_M_s103 nq nu, e_M_rd103 nq nu, e_M_wr103 nq nu, e_M_r7 nq nu, e_M_s104 nq nu, e_M_rd104 nq nu, e_M_wr104 nq nu, e_M_r9 nq nu, e_M_s105 nq nu, e_M_rd105 nq nu, e_M_wr105 nq nu, e_M_r10 nq nu, e_M_s106 nq nu, e_M_rd106 nq nu, e_M_wr106 nq nu, e_M_r11 nq nu, e_M_s107 nq nu, e_M_rd107 nq nu, e_M_wr107 nq nu, e_M_r12 nq nu, e_M_s108 nq nu, e_M_rd108 nq nu, e_M_wr108 nq nu, e_M_r13 nq nu, e_M_s109 nq nu, e_M_rd109 nq nu, e_M_wr109 nq nu, e_M_r14 nq nu, e_M_s110 nq nu, e_M_rd110 nq nu, e_M_wr110 nq nu, e_M_r15 nq nu, e_M_s111 nq nu, e_M_rd111 nq nu, e_M_wr111 nq nu, e_M_r16 nq nu, e_M_s112 nq nu, e_M_rd112 nq nu, e_M_wr112 nq nu, e_M_r17 nq nu, e_M_s113 nq nu, e_M_rd113 nq nu, e_M_wr113 nq nu, e_M_r18 nq nu, e_M_s114 nq nu, e_M_rd114 nq nu, e_M_wr114 nq nu, e_M_r19 nq nu, e_M_s115 nq nu, e_M_rd115 nq nu, e_M_wr115 nq nu, e_M_r20 nq nu, e_M_s116 nq nu, e_M_rd116 nq nu, e_M_wr116 nq nu, e_M_r21 nq nu, e_M_s117 nq nu, e_M_rd117 nq nu, e_M_wr117 nq nu, e_M_r22 nq nu, e_M_s118 nq nu, e_M_rd118 nq nu, e_M_wr118 nq nu, e_M_r23 nq nu, e_M_s119 nq nu, e_M_rd119 nq nu, e_M_wr119 nq nu, e_M_r24 nq nu, e_M_s120 nq nu, e_M_rd120 nq nu, e_M_wr120 nq nu, e_M_r27 nq nu, e_M_s121 nq nu, e_M_rd121 nq nu, e_M_wr121 nq nu, e_M_r28 nq nu, e_M_s122 nq nu, e_M_rd122 nq nu, e_M_wr122 nq nu, e_M_r29 nq nu, e_M_s123 nq nu, e_M_rd123 nq nu, e_M_wr123 nq nu, e_M_r30 nq nu, e_M_s124 nq nu, e_M_rd124 nq nu, e_M_wr124 nq nu, e_M_r31 nq nu, e_M_s125 nq nu, e_M_rd125 nq nu, e_M_wr125 nq nu, e_M_r32 nq nu, e_M_s126 nq nu, e_M_rd126 nq nu, e_M_wr126 nq nu, e_M_r33 nq nu, e_M_s127 nq nu, e_M_rd127 nq nu, e_M_wr127 nq nu, e_M_r34 nq nu, e_M_s128 nq nu, e_M_rd128 nq nu, e_M_wr128 nq nu, e_M_r35 nq nu, e_M_s129 nq nu, e_M_rd129 nq nu, e_M_wr129 nq nu, e_M_r36 nq nu, e_M_s130 nq nu, e_M_rd130 nq nu, e_M_wr130 nq nu, e_M_r37 nq nu, e_M_s131 nq nu, e_M_rd131 nq nu, e_M_wr131 nq nu, e_M_r38 nq nu, e_M_s132 nq nu, e_M_rd132 nq nu, e_M_wr132 nq nu, e_M_r39 nq nu, e_M_s133 nq nu, e_M_rd133 nq nu, e_M_wr133 nq nu, e_M_r40 nq nu, e_M_s134 nq nu, e_M_rd134 nq nu, e_M_wr134 nq nu, e_M_r41 nq nu, e_M_s135 nq nu, e_M_rd135 nq nu, e_M_wr135 nq nu, e_M_r42 nq nu, e_M_s136 nq nu, e_M_rd136 nq nu, e_M_wr136 nq nu, e_M_r43 nq nu, e_M_s137 nq nu, e_M_rd137 nq nu, e_M_wr137 nq nu, e_M_r44 nq nu, e_M_s138 nq nu, e_M_rd138 nq nu, e_M_wr138 nq nu, e_M_r45 nq nu, e_M_s139 nq nu, e_M_rd139 nq nu, e_M_wr139 nq nu, e_M_r46 nq nu, e_M_s140 nq nu, e_M_rd140 nq nu, e_M_wr140 nq nu, h, px_wi, px_wl, px_wc, Option.bind_some, g1, g4, if_neg (nI_ge ha (by omega)), px_8, h48, g3, q1, q2, q3, hb]
  have k0 : nI kd = 0 ↔ kd = 0 := nI_eq (b := 0) (by omega) (by decide)
  have k4 : nI kd = 4 ↔ kd = 4 := nI_eq (b := 4) (by omega) (by decide)
  have w0 : nI (wn a) = 0 ↔ wn a = 0 := nI_eq (b := 0) (by omega) (by decide)
  simp only [k0, k4, w0]
  cases e1 : is a
  · simp [gr_cd, e1]
  · by_cases e2 : but = some a
    · simp [gr_cd, e1, e2]
    · by_cases e3 : kd = 0
      · by_cases e4 : wn a = 0 <;> simp [gr_cd, e1, e2, e3, e4]
      · by_cases e5 : kd = 4
        · by_cases e4 : wn a = 0 <;> simp [gr_cd, e1, e2, e5, e4]
        · cases e6 : op a <;> simp [gr_cd, e1, e2, e3, e5, e6]
theorem gr_s2 {nq nu n na kd : Nat} {M : ax_M} {is op : Nat → Bool} {wn p bw : Nat → Nat} (h : px_W nq nu M.2.2) (g : gr_M M n na kd is op wn p bw) (but : Option Nat) {a : Nat} (ha : a < na) (rec : ax_M → Option Nat → Int32 → Int32 → Int32 → Int32 → Option (Int32 × ax_M)) (b : Option Nat) (hb : ∀ c, b = some c → c < na ∧ gr_cd is op wn kd but c = true) : G_M_greatest_86 rec M (some 100) (nI n) (gr_ob but) (gr_ob b) (nI a) (nI (8 * n + a)) (if gr_cd is op wn kd but a = true then 1 else 0) = rec M (some 100) (nI n) (gr_ob but) (gr_ob (gr_up (gr_cd is op wn kd but) p bw b a)) (nI (a + 1)) := by
  obtain ⟨g1, g2, g3, g4, g5, g6⟩ := g
  have hcd : ∀ c, gr_cd is op wn kd but c = true → is c = true ∧ ((kd = 0 ∨ kd = 4) ∨ op c = true) := by
    intro c hc
    simp only [gr_cd, Bool.and_eq_true] at hc
    refine ⟨hc.1.1, ?_⟩
    by_cases e : kd = 0 ∨ kd = 4
    · exact Or.inl e
    · have := hc.2
      rw [if_neg e] at this
      exact Or.inr this
  by_cases ca : gr_cd is op wn kd but a = true
  · obtain ⟨_, _, _, q5⟩ := g6 a ha
    obtain ⟨q6, q7, q8⟩ := q5 (hcd a ca).1
    obtain ⟨q9, q10⟩ := q8 (hcd a ca).2
    have h48 : 8 * n + a < 48 := by omega
    cases b with
    | none =>
      simp [G_M_greatest_86, G_M_greatest_164, G_M_greatest_160, G_M_greatest_165, G_M_greatest_178, gr_up, ca, gr_ob, nI_1, show ((-1 : Int32) < 0) = True from by decide]
    | some c =>
      obtain ⟨hc1, hc2⟩ := hb c rfl
      obtain ⟨_, _, _, r5⟩ := g6 c hc1
      obtain ⟨r6, r7, r8⟩ := r5 (hcd c hc2).1
      obtain ⟨r9, r10⟩ := r8 (hcd c hc2).2
      have h48c : 8 * n + c < 48 := by omega
      have x1 : nI (p c) < nI (p a) ↔ p c < p a := nI_ltI (by omega) (by omega)
      have x2 : nI (p a) = nI (p c) ↔ p a = p c := nI_eq (by omega) (by omega)
      have x3 : nI (bw c) ≤ nI (bw a) ↔ bw c ≤ bw a := nI_leI (by omega) (by omega)
      have x4 : ¬ nI c < 0 := nI_pos (by omega)
      simp only [G_M_greatest_86, G_M_greatest_164, G_M_greatest_160, G_M_greatest_165, G_M_greatest_178, gr_up, ca, gr_ob, e_M_gi nq nu, e_M_gl nq nu, e_M_pi nq nu, e_M_pl nq nu, e_M_ob nq nu, e_M_r4 nq nu, e_M_s101 nq nu, e_M_rd101 nq nu, e_M_wr101 nq nu, e_M_r5 nq nu, e_M_s102 nq nu, e_M_rd102 nq nu, e_M_wr102 nq nu, e_M_r6 nq nu, e_M_s103 nq nu, e_M_rd103 nq nu, e_M_wr103 nq nu, e_M_r7 nq nu, e_M_s104 nq nu, e_M_rd104 nq nu, e_M_wr104 nq nu, e_M_r9 nq nu, e_M_s105 nq nu, e_M_rd105 nq nu, e_M_wr105 nq nu, e_M_r10 nq nu, e_M_s106 nq nu, e_M_rd106 nq nu, e_M_wr106 nq nu, e_M_r11 nq nu, e_M_s107 nq nu, e_M_rd107 nq nu, e_M_wr107 nq nu, e_M_r12 nq nu, e_M_s108 nq nu, e_M_rd108 nq nu, e_M_wr108 nq nu, e_M_r13 nq nu, e_M_s109 nq nu, e_M_rd109 nq nu, e_M_wr109 nq nu, e_M_r14 nq nu, e_M_s110 nq nu, e_M_rd110 nq nu, e_M_wr110 nq nu, e_M_r15 nq nu, e_M_s111 nq nu, e_M_rd111 nq nu, e_M_wr111 nq nu, e_M_r16 nq nu, e_M_s112 nq nu, e_M_rd112 nq nu, e_M_wr112 nq nu, e_M_r17 nq nu, e_M_s113 nq nu, e_M_rd113 nq nu, e_M_wr113 nq nu, e_M_r18 nq nu, e_M_s114 nq nu, e_M_rd114 nq nu, e_M_wr114 nq nu, e_M_r19 nq nu, e_M_s115 nq nu, e_M_rd115 nq nu, e_M_wr115 nq nu, e_M_r20 nq nu, e_M_s116 nq nu, e_M_rd116 nq nu, e_M_wr116 nq nu, e_M_r21 nq nu, e_M_s117 nq nu, e_M_rd117 nq nu, e_M_wr117 nq nu, e_M_r22 nq nu, e_M_s118 nq nu, e_M_rd118 nq nu, e_M_wr118 nq nu, e_M_r23 nq nu, e_M_s119 nq nu, e_M_rd119 nq nu, e_M_wr119 nq nu, e_M_r24 nq nu, e_M_s120 nq nu, e_M_rd120 nq nu, e_M_wr120 nq nu, e_M_r27 nq nu, e_M_s121 nq nu, e_M_rd121 nq nu, e_M_wr121 nq nu, e_M_r28 nq nu, e_M_s122 nq nu, e_M_rd122 nq nu, e_M_wr122 nq nu, e_M_r29 nq nu, e_M_s123 nq nu, e_M_rd123 nq nu, e_M_wr123 nq nu, e_M_r30 nq nu, e_M_s124 nq nu, e_M_rd124 nq nu, e_M_wr124 nq nu, e_M_r31 nq nu, e_M_s125 nq nu, e_M_rd125 nq nu, e_M_wr125 nq nu, e_M_r32 nq nu, e_M_s126 nq nu, e_M_rd126 nq nu, e_M_wr126 nq nu, e_M_r33 nq nu, e_M_s127 nq nu, e_M_rd127 nq nu, e_M_wr127 nq nu, e_M_r34 nq nu, e_M_s128 nq nu, e_M_rd128 nq nu, e_M_wr128 nq nu, e_M_r35 nq nu, e_M_s129 nq nu, e_M_rd129 nq nu, e_M_wr129 nq nu, e_M_r36 nq nu, e_M_s130 nq nu, e_M_rd130 nq nu, e_M_wr130 nq nu, e_M_r37 nq nu, e_M_s131 nq nu, e_M_rd131 nq nu, e_M_wr131 nq nu, e_M_r38 nq nu, e_M_s132 nq nu, e_M_rd132 nq nu, e_M_wr132 nq nu, e_M_r39 nq nu, e_M_s133 nq nu, e_M_rd133 nq nu, e_M_wr133 nq nu, e_M_r40 nq nu, e_M_s134 nq nu, e_M_rd134 nq nu, e_M_wr134 nq nu, e_M_r41 nq nu, e_M_s135 nq nu, e_M_rd135 nq nu, e_M_wr135 nq nu, e_M_r42 nq nu, e_M_s136 nq nu, e_M_rd136 nq nu, e_M_wr136 nq nu, e_M_r43 nq nu, e_M_s137 nq nu, e_M_rd137 nq nu, e_M_wr137 nq nu, e_M_r44 nq nu, e_M_s138 nq nu, e_M_rd138 nq nu, e_M_wr138 nq nu, e_M_r45 nq nu, e_M_s139 nq nu, e_M_rd139 nq nu, e_M_wr139 nq nu, e_M_r46 nq nu, e_M_s140 nq nu, e_M_rd140 nq nu, e_M_wr140 nq nu, h, px_wi, px_wl, px_wc, Option.bind_some, px_8, h48, h48c, q6, q9, r6, r9, x1, x2, x3, x4, nI_1]
      by_cases y1 : p c < p a
      · simp [y1]
      · by_cases y2 : p a = p c
        · by_cases y3 : bw c ≤ bw a
          · simp [y2, y3, Nat.not_lt.mpr y3]
          · simp [y2, y3, Nat.not_le.mp y3]
        · simp [y1, y2]
  · have e : gr_up (gr_cd is op wn kd but) p bw b a = b := by
      cases b <;> simp [gr_up, ca]
    simp [G_M_greatest_86, G_M_greatest_164, G_M_greatest_165, G_M_greatest_178, ca, e, nI_1]
theorem gr_up_in {cd : Nat → Bool} {P W : Nat → Nat} {N a : Nat} (b : Option Nat) (ha : a < N) (h : ∀ c, b = some c → c < N ∧ cd c = true) : ∀ c, gr_up cd P W b a = some c → c < N ∧ cd c = true := gr_in 1 a b (by omega) h
theorem gr_lM {nq nu n na kd : Nat} {M : ax_M} {is op : Nat → Bool} {wn p bw : Nat → Nat} (h : px_W nq nu M.2.2) (g : gr_M M n na kd is op wn p bw) (but : Option Nat) (hbut : ∀ c, but = some c → c < 8) : ∀ k a f b, a + k = na → (∀ c, b = some c → c < na ∧ gr_cd is op wn kd but c = true) → F_M_greatest_5 (f + k + 1) M (some 100) (nI n) (gr_ob but) (gr_ob b) (nI a) = some (gr_ob (gr_f (gr_cd is op wn kd but) p bw k a b), M) := by
  intro k
  induction k with
  | zero =>
    intro a f b e _
    have : a = na := by omega
    subst this
    show G_M_greatest_5 _ M _ _ _ _ _ = _
    simp only [G_M_greatest_5, e_M_gi nq nu h, g.1, Option.bind_some, if_pos (Int32.le_refl _)]
    rfl
  | succ k ih =>
    intro a f b e hb
    show G_M_greatest_5 (F_M_greatest_5 (f + k + 1)) M _ _ _ _ _ = _
    rw [gr_s1 h g but hbut (show a < na by omega), gr_s2 h g but (show a < na by omega) _ b hb]
    exact ih (a + 1) f _ (by omega) (gr_up_in b (by omega) hb)
theorem M_greatest {nq nu n na kd : Nat} {M : ax_M} {is op : Nat → Bool} {wn p bw : Nat → Nat} (h : px_W nq nu M.2.2) (g : gr_M M n na kd is op wn p bw) (but : Option Nat) (hbut : ∀ c, but = some c → c < 8) : f_M_greatest M (some 100) (nI n) (gr_ob but) = some (gr_ob (gr_f (gr_cd is op wn kd but) p bw na 0 none), M) := by
  have := gr_lM h g but hbut na 0 (63 - na) none (by omega) (fun c z => by cases z)
  have h8 := g.2.1
  rw [show 63 - na + na + 1 = 64 by omega] at this
  exact this
/-- and the class's -/
def gr_A (M : ax_M) (n : Nat) (u wn p td : Nat → Nat) : Prop := ∀ a, a < 8 → (ax_i M (10 * n + 2003) a = nI (u a) ∧ u a < 2 ^ 31) ∧ (ax_i M (10 * n + 2005) a = nI (wn a) ∧ wn a < 2 ^ 31) ∧ (ax_i M (10 * n + 2004) a = nI (p a) ∧ p a < 2 ^ 31) ∧ (ax_i M (10 * n + 2001) a = nI (td a) ∧ td a < 2 ^ 31)
def gr_ca (u wn : Nat → Nat) (a : Nat) : Bool := !(u a == 0) && wn a == 0
theorem A_isAhead {nq nu n : Nat} {M : ax_M} {u wn p td : Nat → Nat} (h : px_W nq nu M.2.2) (hn : n < nu) (g : gr_A M n u wn p td) {a c : Nat} (ha : a < 8) (hc : c < 8) : f_A_isAhead M (some (10 * n + 2000)) (nI a) (nI c) = some (if p c < p a ∨ (p a = p c ∧ td a < td c) then 1 else 0, M) := by
  obtain ⟨_, _, ⟨q1, q2⟩, q3, q4⟩ := g a ha
  obtain ⟨_, _, ⟨r1, r2⟩, r3, r4⟩ := g c hc
  have x1 : nI (p c) < nI (p a) ↔ p c < p a := nI_ltI (by omega) (by omega)
  have x2 : nI (p a) = nI (p c) ↔ p a = p c := nI_eq (by omega) (by omega)
  have x3 : nI (td c) ≤ nI (td a) ↔ td c ≤ td a := nI_leI (by omega) (by omega)
  simp only [f_A_isAhead, G_A_isAhead_45, G_A_isAhead_49, G_A_isAhead_50, e_A_gi nq nu, e_A_gl nq nu, e_A_pi nq nu, e_A_pl nq nu, e_A_ob nq nu, e_A_r6 nq nu, e_A_s1 nq nu, e_A_rd1 nq nu, e_A_wr1 nq nu, e_A_r7 nq nu, e_A_s2 nq nu, e_A_rd2 nq nu, e_A_wr2 nq nu, e_A_r8 nq nu, e_A_s3 nq nu, e_A_rd3 nq nu, e_A_wr3 nq nu, e_A_r9 nq nu, e_A_s4 nq nu, e_A_rd4 nq nu, e_A_wr4 nq nu, e_A_r10 nq nu, e_A_s5 nq nu, e_A_rd5 nq nu, e_A_wr5 nq nu, h, px_wi, px_wl, px_wc, Option.bind_some, hn, ha, hc, q1, q3, r1, r3, x1, x2, x3]
  by_cases y1 : p c < p a
  · simp [y1, px_bo1]
  · by_cases y2 : p a = p c
    · by_cases y3 : td c ≤ td a
      · simp [y2, y3, Nat.not_lt.mpr y3, px_bo0]
      · simp [y2, y3, Nat.not_le.mp y3, px_bo1]
    · simp [y1, y2, px_bo0]
theorem gr_lA {nq nu n : Nat} {M : ax_M} {u wn p td : Nat → Nat} (h : px_W nq nu M.2.2) (hn : n < nu) (g : gr_A M n u wn p td) : ∀ k a f b, a + k = 8 → (∀ c, b = some c → c < 8 ∧ gr_ca u wn c = true) → F_A_bestWithout_4 (f + k + 1) M (some (10 * n + 2000)) (gr_ob b) (nI a) = some (gr_ob (gr_f (gr_ca u wn) p td k a b), M) := by
  intro k
  induction k with
  | zero =>
    intro a f b e _
    have : a = 8 := by omega
    subst this
    show G_A_bestWithout_4 _ M _ _ _ = _
    simp only [G_A_bestWithout_4]
    rw [if_pos (show (8 : Int32) ≤ nI 8 from Int32.le_refl _)]
    rfl
  | succ k ih =>
    intro a f b e hb
    show G_A_bestWithout_4 (F_A_bestWithout_4 (f + k + 1)) M _ _ _ = _
    have ha : a < 8 := by omega
    obtain ⟨⟨q1, q2⟩, ⟨q3, q4⟩, _⟩ := g a ha
    have x1 : nI (u a) ≤ 0 ↔ u a = 0 := by
      rw [show (0 : Int32) = nI 0 from rfl, nI_leI q2 (by decide)]; omega
    have x2 : nI (wn a) = 0 ↔ wn a = 0 := nI_eq (b := 0) (by omega) (by decide)
    have x3 : ¬ (8 : Int32) ≤ nI a := nI_ge (b := 8) ha (by decide)
    have st : G_A_bestWithout_4 (F_A_bestWithout_4 (f + k + 1)) M (some (10 * n + 2000)) (gr_ob b) (nI a) = F_A_bestWithout_4 (f + k + 1) M (some (10 * n + 2000)) (gr_ob (gr_up (gr_ca u wn) p td b a)) (nI (a + 1)) := by
      simp only [G_A_bestWithout_4, G_A_bestWithout_42, G_A_bestWithout_44, e_A_gi nq nu, e_A_gl nq nu, e_A_pi nq nu, e_A_pl nq nu, e_A_ob nq nu, e_A_r6 nq nu, e_A_s1 nq nu, e_A_rd1 nq nu, e_A_wr1 nq nu, e_A_r7 nq nu, e_A_s2 nq nu, e_A_rd2 nq nu, e_A_wr2 nq nu, e_A_r8 nq nu, e_A_s3 nq nu, e_A_rd3 nq nu, e_A_wr3 nq nu, e_A_r9 nq nu, e_A_s4 nq nu, e_A_rd4 nq nu, e_A_wr4 nq nu, e_A_r10 nq nu, e_A_s5 nq nu, e_A_rd5 nq nu, e_A_wr5 nq nu, h, px_wi, px_wl, px_wc, Option.bind_some, hn, ha, q1, q3, x1, x2, x3, if_false, nI_1]
      by_cases y1 : u a = 0
      · have : gr_up (gr_ca u wn) p td b a = b := by cases b <;> simp [gr_up, gr_ca, y1]
        simp [y1, this]
      · by_cases y2 : wn a = 0
        · cases b with
          | none => simp [y1, y2, gr_up, gr_ca, gr_ob]
          | some c =>
            obtain ⟨hc1, hc2⟩ := hb c rfl
            have x5 : ¬ nI c = -1 := fun z => absurd (show nI c < 0 by rw [z]; decide) (nI_pos (by omega))
            simp only [y1, y2, gr_up, gr_ca, gr_ob, x5, if_true, if_false, A_isAhead h hn g ha hc1, Option.bind_some]
            by_cases y3 : p c < p a ∨ (p a = p c ∧ td a < td c)
            · simp [y1, y3]
            · simp [y1, y3]
        · have : gr_up (gr_ca u wn) p td b a = b := by cases b <;> simp [gr_up, gr_ca, y2]
          simp [y1, y2, this]
    rw [st]
    exact ih (a + 1) f _ (by omega) (gr_up_in b (by omega) hb)
theorem A_bestWithout {nq nu n : Nat} {M : ax_M} {u wn p td : Nat → Nat} (h : px_W nq nu M.2.2) (hn : n < nu) (g : gr_A M n u wn p td) : f_A_bestWithout M (some (10 * n + 2000)) = some (gr_ob (gr_f (gr_ca u wn) p td 8 0 none), M) :=
  gr_lA h hn g 8 0 55 none rfl (fun c z => by cases z)
