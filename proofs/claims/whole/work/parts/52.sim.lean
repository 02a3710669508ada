/-! WHAT BOTH SIDES KNOW: the class's memory beside the reference's -/
def sm_g (T na nq nu h mt : Nat) (M : ax_M) : Prop :=
  px_W nq nu M.2.2 ∧ na ≤ 8 ∧ nq ≤ 6 ∧ nu ≤ 6 ∧ h ≤ 50 * T ∧ mt ≤ T ∧ T ≤ 1000 ∧
  ax_i M 0 0 = nI h ∧ ax_i M 100 1 = nI h ∧ ax_l M 0 1 = ax_l M 100 2 ∧ ax_i M 0 2 = nI na ∧ ax_i M 100 3 = nI na ∧ ax_i M 0 7 = nI nq ∧ ax_i M 100 8 = nI nq ∧ ax_i M 0 9 = nI nu ∧ ax_i M 100 25 = nI nu ∧ ax_i M 100 26 = nI mt
/-- who speaks for a: the class has -1 where the reference has a itself -/
def sm_sp (a p : Nat) : Int32 := if p = a then -1 else nI p
/-- an account -/
def sm_c (na : Nat) (M : ax_M) (a : Nat) : Prop :=
  (a < na → (∃ w, w ≤ 1000 ∧ ax_i M 1 a = nI w ∧ ax_i M 101 a = nI w) ∧ ax_l M 2 a = ax_l M 102 a ∧ ax_l M 3 a = ax_l M 103 a ∧ ∃ p, p < na ∧ ax_i M 104 a = nI p ∧ ax_i M 4 a = sm_sp a p) ∧
  (na ≤ a → ax_i M 1 a = 0 ∧ ax_l M 3 a = 0 ∧ ax_i M 4 a = -1)
/-- ranks: the digits to the base 8 -/
def sm_dg : List Nat → Nat
  | [] => 0
  | d :: l => d + 8 * sm_dg l
def sm_rk (ch : Nat) (v : Int32) : Prop := ∃ l : List Nat, 1 ≤ l.length ∧ l.length ≤ ch ∧ (∀ d ∈ l, 1 ≤ d ∧ d ≤ ch) ∧ v = nI (sm_dg l)
def sm_vt (kd ch : Nat) (v : Int32) : Prop := ¬ v < 0 ∧ (kd = 2 → sm_rk ch v)
/-- an account in a question -/
def sm_qa (na kd ch : Nat) (M : ax_M) (n a : Nat) : Prop := ∃ w p : Nat, w ≤ 1000 ∧ ax_i M (10 * n + 1001) a = nI w ∧ ax_i M 115 (8 * n + a) = nI w ∧
  ((ax_i M 116 (8 * n + a) = 0 ∧ ax_i M (10 * n + 1002) a = -1) ∨ (ax_i M 116 (8 * n + a) = 1 ∧ a < na ∧ ax_i M (10 * n + 1002) a = ax_i M 117 (8 * n + a) ∧ sm_vt kd ch (ax_i M 117 (8 * n + a)))) ∧
  ax_i M (10 * n + 1003) a = ax_i M 118 (8 * n + a) ∧ (ax_i M 118 (8 * n + a) = 0 ∨ ax_l M (10 * n + 1004) a = ax_l M 119 (8 * n + a)) ∧
  ((a < na ∧ p < na) ∨ p = a) ∧ p < 8 ∧ ax_i M 120 (8 * n + a) = nI p ∧ ax_i M (10 * n + 1005) a = sm_sp a p
/-- a question's call -/
def sm_qc (na en : Nat) (M : ax_M) (n : Nat) : Prop := ax_i M (10 * n + 1000) 13 = ax_i M 111 n ∧
  ((ax_i M 110 n = 0 ∧ ax_i M (10 * n + 1000) 10 = -1) ∨ (ax_i M 110 n = 1 ∧ ∃ ca lk, ca < na ∧ lk ≤ 50 ∧ ax_i M (10 * n + 1000) 10 = nI ca ∧ ax_i M 112 n = nI ca ∧ ax_i M (10 * n + 1000) 11 = ax_i M 113 n ∧ ax_i M 114 n = nI lk ∧ ax_i M (10 * n + 1000) 12 = nI (en + lk)))
/-- a question -/
def sm_q (na : Nat) (M : ax_M) (n : Nat) : Prop := ∃ kd ch sh en : Nat, kd < 4 ∧ 2 ≤ ch ∧ ch ≤ 4 ∧ sh ≤ 60000 ∧ en ≤ 60000 ∧
  ax_i M (10 * n + 1000) 0 = nI kd ∧ ax_i M 105 n = nI kd ∧ ax_i M (10 * n + 1000) 1 = nI ch ∧ ax_i M 106 n = nI ch ∧ ax_i M (10 * n + 1000) 2 = nI sh ∧ ax_i M 107 n = nI sh ∧ ax_i M (10 * n + 1000) 3 = nI en ∧ ax_i M 108 n = nI en ∧ ax_i M (10 * n + 1000) 4 = ax_i M 109 n ∧
  sm_qc na en M n ∧ ∀ a, a < 8 → sm_qa na kd ch M n a
/-- an auction's numbers -/
def sm_an (T h : Nat) (M : ax_M) (n kd un le sp sh en tl kp : Nat) : Prop := kd < 5 ∧ 1 ≤ un ∧ un ≤ 20 ∧ (kd ≠ 4 → un = 1) ∧ 1 ≤ le ∧ le ≤ 10000 ∧ sp ≤ 1000 ∧ (en = if kd = 1 ∨ kd = 2 then sh + 5 else sh) ∧ en ≤ h + 55 ∧ tl ≤ T ∧ kp ≤ 1000000 ∧
  ax_i M (10 * n + 2000) 0 = nI kd ∧ ax_i M 121 n = nI kd ∧ ax_i M (10 * n + 2000) 1 = nI un ∧ ax_i M 122 n = nI un ∧ ax_i M (10 * n + 2000) 2 = nI le ∧ ax_i M 123 n = nI le ∧ ax_i M (10 * n + 2000) 3 = nI sp ∧ ax_i M 124 n = nI sp ∧ ax_i M (10 * n + 2000) 4 = nI sh ∧ ax_i M 125 n = nI sh ∧ ax_i M (10 * n + 2000) 5 = nI en ∧ ax_i M 126 n = nI en ∧ ax_i M (10 * n + 2000) 11 = nI tl ∧ ax_i M (10 * n + 2000) 13 = nI kp ∧
  (kd ≠ 0 → ax_l M 127 n = if kp = 0 then -3 else lN kp)
/-- an account in an auction: told, when, units, price, won, is there a bid or a mark -/
def sm_ab (na mt : Nat) (M : ax_M) (n kd un le tl a td bw u p wn : Nat) (is : Bool) : Prop :=
  ax_i M (10 * n + 2001) a = nI td ∧ td ≤ tl ∧ ax_i M (10 * n + 2003) a = nI u ∧ u ≤ un ∧ ax_i M (10 * n + 2004) a = nI p ∧ p ≤ 1000000 ∧ ax_i M (10 * n + 2005) a = nI wn ∧ ax_i M 135 (8 * n + a) = nI wn ∧ wn ≤ 20 ∧
  ax_i M 129 (8 * n + a) = (if is = true then 1 else 0) ∧ (is = true → a < na ∧ ax_i M 132 (8 * n + a) = nI bw ∧ bw < mt ∧ 1 ≤ td) ∧
  ax_i M 134 (8 * n + a) = (if (kd = 1 ∨ kd = 2) ∧ p ≠ 0 then 1 else 0) ∧ (p ≠ 0 → is = true ∧ le ≤ p ∧ ax_i M 131 (8 * n + a) = nI p) ∧
  ((kd = 0 ∨ kd = 4) → (is = true ↔ u ≠ 0) ∧ (u ≠ 0 ↔ p ≠ 0) ∧ (u ≠ 0 → ax_i M 130 (8 * n + a) = nI u)) ∧
  ((kd = 1 ∨ kd = 2) → (is = true ↔ td ≠ 0) ∧ u = (if p ≠ 0 then 1 else 0) ∧ (is = true → ax_l M (10 * n + 2002) a = ax_l M 133 (8 * n + a))) ∧
  (kd = 3 → is = false ∧ u = 0)
/-- who leads, what was taken -/
def sm_al (na h : Nat) (M : ax_M) (n kd en kp : Nat) (u p wn : Nat → Nat) : Prop :=
  (kd = 0 → (kp = 0 ∧ ax_i M (10 * n + 2000) 12 = -1 ∧ ∀ a, a < 8 → u a = 0) ∨ ∃ b, b < na ∧ ax_i M (10 * n + 2000) 12 = nI b ∧ u b = 1 ∧ p b = kp ∧ kp ≠ 0 ∧ ∀ a, a < 8 → a ≠ b → u a = 0) ∧
  (kd ≠ 3 → ax_i M 128 n = -1 ∧ (h < en → ∀ a, a < 8 → wn a = 0)) ∧ (kd = 1 ∨ kd = 2 ∨ kd = 4 → h < en → kp = 0) ∧
  (kd = 3 → (ax_i M 128 n = -1 ∧ kp = 0) ∨ (∃ b, b < 8 ∧ ax_i M 128 n = nI b ∧ kp ≠ 0))
/-- an auction -/
def sm_a (T na h mt : Nat) (M : ax_M) (n : Nat) : Prop := ∃ (kd un le sp sh en tl kp : Nat) (td bw u p wn : Nat → Nat) (is : Nat → Bool), sm_an T h M n kd un le sp sh en tl kp ∧ (∀ a, a < 8 → sm_ab na mt M n kd un le tl a (td a) (bw a) (u a) (p a) (wn a) (is a)) ∧ (∀ a b, a < 8 → b < 8 → is a = true → is b = true → (td a < td b ↔ bw a < bw b)) ∧ sm_al na h M n kd en kp u p wn
def Sim (T : Nat) (M : ax_M) : Prop := ∃ na nq nu h mt, sm_g T na nq nu h mt M ∧ (∀ a, a < 8 → sm_c na M a) ∧ (∀ n, n < nq → sm_q na M n) ∧ ∀ n, n < nu → sm_a T na h mt M n
/-- both answer alike -/
def ag {α : Type} (x : Option (α × ax_M)) (y : ax_M → Option (α × ax_M)) (P : ax_M → Prop) : Prop := ∃ r M1 M2, x = some (r, M1) ∧ y M1 = some (r, M2) ∧ P M2
theorem sm_g.up {T na nq nu h mt : Nat} {M : ax_M} (hT : T < 1000) (g : sm_g T na nq nu h mt M) : sm_g (T + 1) na nq nu h mt M := by
  obtain ⟨g1, g2, g3, g4, g5, g6, g7, g8⟩ := g
  exact ⟨g1, g2, g3, g4, by omega, by omega, by omega, g8⟩
theorem sm_a.up {T na h mt n : Nat} {M : ax_M} (g : sm_a T na h mt M n) : sm_a (T + 1) na h mt M n := by
  obtain ⟨kd, un, le, sp, sh, en, tl, kp, td, bw, u, p, wn, is, ⟨a1, a2, a3, a4, a5, a6, a7, a8, a9, a10, a11⟩, hb⟩ := g
  exact ⟨kd, un, le, sp, sh, en, tl, kp, td, bw, u, p, wn, is, ⟨a1, a2, a3, a4, a5, a6, a7, a8, a9, by omega, a11⟩, hb⟩
theorem sm_an.up {T h n kd un le sp sh en tl kp : Nat} {M : ax_M} (g : sm_an T h M n kd un le sp sh en tl kp) : sm_an (T + 1) h M n kd un le sp sh en tl kp := by
  obtain ⟨a1, a2, a3, a4, a5, a6, a7, a8, a9, a10, a11⟩ := g
  exact ⟨a1, a2, a3, a4, a5, a6, a7, a8, a9, by omega, a11⟩
theorem Sim.up {T : Nat} {M : ax_M} (hT : T < 1000) (g : Sim T M) : Sim (T + 1) M := by
  obtain ⟨na, nq, nu, h, mt, g1, g2, g3, g4⟩ := g
  exact ⟨na, nq, nu, h, mt, g1.up hT, g2, g3, fun n hn => (g4 n hn).up⟩
/-! ids are apart -/
theorem px_ix8 {n m a b : Nat} (ha : a < 8) (hb : b < 8) : (8 * n + a = 8 * m + b) ↔ (n = m ∧ a = b) := by omega
theorem px_t1 (a b k : Nat) (h0 : 0 < k) (h : k < 10) : (10 * a + k = 10 * b) ↔ False := ⟨fun z => by omega, False.elim⟩
theorem px_t2 (a b k : Nat) (h0 : 0 < k) (h : k < 10) : (10 * a = 10 * b + k) ↔ False := ⟨fun z => by omega, False.elim⟩
theorem sm_q.mono {na na' n : Nat} {M : ax_M} (hn : na ≤ na') (g : sm_q na M n) : sm_q na' M n := by
  obtain ⟨kd, ch, sh, en, a1, a2, a3, a4, a5, b1, b2, b3, b4, b5, b6, b7, b8, b9, ⟨c1, c2⟩, hd⟩ := g
  refine ⟨kd, ch, sh, en, a1, a2, a3, a4, a5, b1, b2, b3, b4, b5, b6, b7, b8, b9, ⟨c1, ?_⟩, fun a ha => ?_⟩
  · rcases c2 with c2 | ⟨c2, ca, lk, c3, c4⟩
    · exact Or.inl c2
    · exact Or.inr ⟨c2, ca, lk, by omega, c4⟩
  · obtain ⟨w, p, d1, d2, d3, d4, d5, d6, d7, d8⟩ := hd a ha
    refine ⟨w, p, d1, d2, d3, ?_, d5, d6, d7.imp (fun z => by omega) id, d8⟩
    rcases d4 with d4 | ⟨d4, d9, d10⟩
    · exact Or.inl d4
    · exact Or.inr ⟨d4, by omega, d10⟩
theorem sm_a.mono {T na na' h mt n : Nat} {M : ax_M} (hn : na ≤ na') (g : sm_a T na h mt M n) : sm_a T na' h mt M n := by
  obtain ⟨kd, un, le, sp, sh, en, tl, kp, td, bw, u, p, wn, is, h1, h2, h3, h4, h5⟩ := g
  refine ⟨kd, un, le, sp, sh, en, tl, kp, td, bw, u, p, wn, is, h1, fun a ha => ?_, h3, fun z => ?_, h5⟩
  · obtain ⟨d1, d2, d3, d4, d5, d6, d7, d8, d9, d10, d11, d12⟩ := h2 a ha
    exact ⟨d1, d2, d3, d4, d5, d6, d7, d8, d9, d10, fun z => ⟨by have := (d11 z).1; omega, (d11 z).2⟩, d12⟩
  · rcases h4 z with h4 | ⟨b, hb, h4⟩
    · exact Or.inl h4
    · exact Or.inr ⟨b, by omega, h4⟩
theorem px_t3 (a b k : Nat) (hb : b < 6) (h : 60 ≤ k) : (10 * a + k = 10 * b) ↔ False := ⟨fun z => by omega, False.elim⟩
theorem px_t4 (a b k : Nat) (ha : a < 6) (h : 60 ≤ k) : (10 * a = 10 * b + k) ↔ False := ⟨fun z => by omega, False.elim⟩
theorem Q_isHidden (nq nu : Nat) {M : ax_M} (h : px_W nq nu M.2.2) {n : Nat} (hn : n < nq) : f_Q_isHidden M (some (10 * n + 1000)) = some (if ax_i M (10 * n + 1000) 3 ≤ ax_i M (10 * n + 1000) 2 then 0 else 1, M) := by
  unfold f_Q_isHidden G_Q_isHidden_16
  simp only [e_Q_gi nq nu h hn, Option.bind_some]
  split <;> simp [px_bo0, px_bo1]
theorem M_isHidden (nq nu : Nat) {M : ax_M} (h : px_W nq nu M.2.2) {n : Nat} (hn : n < 6) : f_M_isHidden M (some 100) (nI n) = some (if ax_i M 108 n ≤ ax_i M 107 n then 0 else 1, M) := by
  unfold f_M_isHidden G_M_isHidden_20
  simp only [e_M_r12 nq nu h, e_M_r11 nq nu h, e_M_rd108 nq nu h hn, e_M_rd107 nq nu h hn, Option.bind_some]
  split <;> simp [px_bo0, px_bo1]
