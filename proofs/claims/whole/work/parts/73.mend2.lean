theorem gr_VM {cd ca : Nat → Bool} {p bw td : Nat → Nat} {na : Nat} (h8 : na ≤ 8) (h1 : ∀ a, a < na → cd a = ca a) (h2 : ∀ a, na ≤ a → a < 8 → ca a = false) (h3 : ∀ a b, a < na → b < na → ca a = true → ca b = true → (bw a < bw b ↔ td a < td b)) : gr_f cd p bw na 0 none = gr_f ca p td 8 0 none := by
  rw [gr_cg (cd := ca) (P := p) (W := td) (N := na) h1 (fun _ _ _ => rfl) h3 na 0 none (by omega) (fun c z => by cases z)]
  have := gr_ad (cd := ca) (P := p) (W := td) na (8 - na) 0 none
  rw [show na + (8 - na) = 8 by omega] at this
  rw [this, gr_non (8 - na) (0 + na) _ (fun x z1 z2 => h2 x (by omega) (by omega))]
theorem gr_nn {cd : Nat → Bool} {P W : Nat → Nat} : ∀ k a b, gr_f cd P W k a b = none → b = none ∧ ∀ x, a ≤ x → x < a + k → cd x = false := by
  intro k
  induction k with
  | zero => intro a b h; exact ⟨h, fun x h1 h2 => by omega⟩
  | succ k ih =>
    intro a b h
    obtain ⟨h1, h2⟩ := ih (a + 1) _ h
    cases b with
    | none =>
      refine ⟨rfl, fun x z1 z2 => ?_⟩
      by_cases e : x = a
      · subst e
        cases ec : cd x
        · rfl
        · simp [gr_up, ec] at h1
      · exact h2 x (by omega) (by omega)
    | some b =>
      simp only [gr_up] at h1
      split at h1 <;> cases h1
theorem mo_r.self {x y z w : Nat} {M M' : ax_M} {F A : Nat → Int64} {P : Int64} (g : mo_r x y z w M M' F A P) : mo_r x y z w M' M' F A P := ⟨rfl, fun _ _ => rfl, fun _ _ _ _ _ => rfl, g.2.2.2⟩
def me_r (n kd : Nat) (M M' : ax_M) (F A : Nat → Int64) (P : Int64) (wn : Nat → Nat) (kp : Nat) : Prop := M'.2.2 = M.2.2 ∧ (∀ id k, ¬ (id = 135 ∧ 8 * n ≤ k ∧ k < 8 * n + 8) → ax_i M' id k = ax_i M id k) ∧ (∀ id k, ¬ (id = 102 ∧ k < 8) → ¬ (id = 103 ∧ k < 8) → ¬ (id = 100 ∧ k = 2) → ¬ (id = 127 ∧ k = n) → ax_l M' id k = ax_l M id k) ∧ (∀ a, a < 8 → ax_l M' 102 a = F a) ∧ (∀ a, a < 8 → ax_l M' 103 a = A a) ∧ ax_l M' 100 2 = P ∧ (∀ a, a < 8 → ax_i M' 135 (8 * n + a) = nI (wn a)) ∧ (kd ≠ 0 → ax_l M' 127 n = if kp = 0 then -3 else lN kp)
theorem sh_1 {u p td wn : Nat → Nat} {kp : Nat} (hu : ∀ a, a < 8 → u a ≠ 0 → u a = 1) : sh_f u p td 8 1 wn kp = match gr_f (gr_ca u wn) p td 8 0 none with
    | none => (wn, kp)
    | some b => (px_up wn b 1, p b) := by
  cases hc : gr_f (gr_ca u wn) p td 8 0 none with
  | none => simp only [sh_f, hc]; rfl
  | some b =>
    obtain ⟨b1, b2, b3⟩ := sh_in hc
    have := hu b b1 b2
    simp only [sh_f, hc, this]
    rfl
section
variable {nq nu n : Nat} {M : ax_M}
theorem M_end {na kd un le kp : Nat} {is op : Nat → Bool} {u p td bw wn : Nat → Nat} (h : px_W nq nu M.2.2) (gM : gr_M M n na kd is op wn p bw) (hw0 : ∀ a, a < 8 → wn a = 0) (hw1 : ∀ a, a < 8 → ax_i M 135 (8 * n + a) = nI (wn a)) (k3 : kd ≠ 3) (hun : ax_i M 122 n = nI un) (hun2 : un ≤ 20) (hun1 : kd ≠ 4 → un = 1) (hle : ax_i M 123 n = nI le) (hle2 : le ≤ 10000) (hle1 : 1 ≤ le) (hkp : kp ≤ 1000000) (hL : kd = 0 → ∀ a b, a < 8 → b < 8 → u a ≠ 0 → u b ≠ 0 → a = b) (hap : kd ≠ 0 → ax_l M 127 n = if kp = 0 then -3 else lN kp) (hk0 : kd ≠ 0 → kp = 0)
  (hia : ∀ a, a < 8 → is a = true → a < na) (hU : ∀ a, a < 8 → u a ≠ 0 → is a = true ∧ ax_i M 131 (8 * n + a) = nI (p a) ∧ p a ≠ 0 ∧ le ≤ p a ∧ p a ≤ 1000000 ∧ u a ≤ un) (hU4 : kd = 0 ∨ kd = 4 → ∀ a, a < 8 → (is a = true ↔ u a ≠ 0) ∧ (u a ≠ 0 → ax_i M 130 (8 * n + a) = nI (u a))) (hU12 : kd = 1 ∨ kd = 2 → ∀ a, a < 8 → (is a = true ↔ td a ≠ 0) ∧ (op a = true ↔ p a ≠ 0) ∧ u a = if p a ≠ 0 then 1 else 0)
  (h3 : ∀ a b, a < 8 → b < 8 → is a = true → is b = true → (td a < td b ↔ bw a < bw b))
  {uo cs pd : Nat → Int64} (huo : ∀ a, uo a = if (kd = 1 ∨ kd = 2) ∧ td a ≠ 0 ∧ p a = 0 then lN le else 0) (hcs : ∀ a, cs a = (nI (u a)).toInt64 * (nI (p a)).toInt64) (hpd : ∀ a, pd a = (nI ((sh_f u p td 8 un wn kp).1 a)).toInt64 * (nI (ve_kp u p td kd le (sh_f u p td 8 un wn kp))).toInt64) :
  ∃ M', f_M_end M (some 100) (nI n) = some M' ∧ me_r n kd M M' (fun a => ax_l M 102 a + (cs a - pd a)) (fun a => ax_l M 103 a - uo a - pd a - (cs a - pd a)) (ax_l M 100 2 + px_sl uo 8 + px_sl pd 8) (sh_f u p td 8 un wn kp).1 (ve_kp u p td kd le (sh_f u p td 8 un wn kp)) ∧ (∀ a, a < 8 → (sh_f u p td 8 un wn kp).1 a ≤ 20) ∧ ve_kp u p td kd le (sh_f u p td 8 un wn kp) ≤ 1000000 := by
  obtain ⟨g1, g2, g3, g4, g5, g6⟩ := id gM
  have k3' : ¬ nI kd = 3 := fun z => k3 ((nI_eq (b := 3) (by omega) (by decide)).mp z)
  have k4' : nI kd = 4 ↔ kd = 4 := nI_eq (b := 4) (by omega) (by decide)
  have k2' : nI kd = 2 ↔ kd = 2 := nI_eq (b := 2) (by omega) (by decide)
  have hu0 : ∀ a, a < 8 → na ≤ a → u a = 0 := by
    intro a ha hz
    cases Nat.eq_zero_or_pos (u a) with
    | inl z => exact z
    | inr z => exact absurd (hia a ha (hU a ha (by omega)).1) (by omega)
  by_cases k4 : kd = 4
  · -- many units
    have hcd : ∀ wn', gr_f (gr_cd is op wn' 4 none) p bw na 0 none = gr_f (gr_ca u wn') p td 8 0 none := by
      intro wn'
      refine gr_VM g2 (fun a ha => ?_) (fun a h1 h2 => ?_) (fun a b ha hb c1 c2 => ?_)
      · have := (hU4 (Or.inr k4) a (by omega)).1
        cases e : is a
        · have : u a = 0 := by
            cases Nat.eq_zero_or_pos (u a) with
            | inl z => exact z
            | inr z => rw [e] at this; exact absurd (this.mpr (by omega)) (by decide)
          simp [gr_cd, gr_ca, e, this]
        · have : u a ≠ 0 := this.mp e
          simp [gr_cd, gr_ca, e, this]
      · simp [gr_ca, hu0 a h2 h1]
      · have c1' : u a ≠ 0 := by
          intro z; simp [gr_ca, z] at c1
        have c2' : u b ≠ 0 := by
          intro z; simp [gr_ca, z] at c2
        exact (h3 a b (by omega) (by omega) (hU a (by omega) c1').1 (hU b (by omega) c2').1).symm
    have kp0 : kp = 0 := hk0 (by omega)
    have k12 : ¬ (kd = 1 ∨ kd = 2) := by omega
    have uo0 : ∀ a, uo a = 0 := fun a => by rw [huo, if_neg (fun w => k12 w.1)]
    have hvk : ∀ s, ve_kp u p td kd le s = s.2 := fun s => by rw [ve_kp, if_neg (fun w => k12 (Or.inr w.1))]
    have gM4 : gr_M M n na 4 is op wn p bw := by rw [← k4]; exact gM
    have m0 : ms_r n M M wn kp := ⟨rfl, fun _ _ _ => rfl, fun _ _ _ => rfl, hw1, hap (by omega)⟩
    obtain ⟨M1, e1, m1, mw, mk1, mk2, mk3⟩ := M_share_l (td := td) (u := u) h gM4 (fun a ha z => ⟨(hU4 (Or.inr k4) a ha).2 z, by have := (hU a ha z).2.2.2.2.2; omega, (hU a ha z).2.1, (hU a ha z).2.2.1, (hU a ha z).2.2.2.2.1⟩) hcd 8 55 M un wn kp (px_cn_8 _ 8) hun2 (fun a ha => by rw [hw0 a ha]; decide) ⟨by omega, fun _ => hw0, fun a ha _ => hw0 a ha⟩ m0
    simp only [hvk] at hpd ⊢
    obtain ⟨s, hs⟩ : ∃ s, s = sh_f u p td 8 un wn kp := ⟨_, rfl⟩
    simp only [← hs] at m1 mw mk1 mk2 mk3 hpd ⊢
    have hW1 : px_W nq nu M1.2.2 := by rw [m1.1]; exact h
    have mi := m1.2.2.1
    have ml := m1.2.1
    have g0 : mo_r 102 103 100 2 M1 M1 (px_cut 0 (fun a => ax_l M 102 a + (cs a - pd a)) (ax_l M 102)) (px_cut 0 (fun a => ax_l M 103 a - pd a - (cs a - pd a)) (ax_l M 103)) (ax_l M 100 2 + px_sl pd 0) :=
      mo_r.refl.cg (fun a ha => by rw [ml _ _ (by omega)]; exact px_cut_0 a) (fun a ha => by rw [ml _ _ (by omega)]; exact px_cut_0 a) (by rw [px_sl, Int64.add_zero, ml _ _ (by omega)])
    have hpz : ∀ a, a < 8 → u a = 0 → cs a = 0 ∧ pd a = 0 := fun a ha z => ⟨by rw [hcs, z, nI_0, i64_z], by rw [hpd, mk3 a ha z, nI_0, i64_z]⟩
    obtain ⟨M2, e2, q2⟩ := M_units_l (P := ax_l M 100 2) (is := is) (u := u) (p := p) (wn := s.1) hW1 g3 g2 (by rw [mi _ _ (by omega)]; exact g1) m1.2.2.2.2 mk1 mk2 (fun a ha => ⟨by rw [mi _ _ (by omega)]; exact (g6 a ha).1, ⟨m1.2.2.2.1 a (by omega), mw a (by omega)⟩, fun z => by
        have z' := (hU4 (Or.inr k4) a (by omega)).1.mp z
        rw [mi _ _ (by omega), mi _ _ (by omega)]
        exact ⟨(hU4 (Or.inr k4) a (by omega)).2 z', (hU a (by omega) z').2.1⟩, fun z => by
        have : u a = 0 := by
          cases Nat.eq_zero_or_pos (u a) with
          | inl w => exact w
          | inr w => exact absurd ((hU4 (Or.inr k4) a (by omega)).1.mpr (by omega)) (by rw [z]; decide)
        exact ⟨this, mk3 a (by omega) this⟩⟩) hcs hpd na 0 (63 - na) M1 (by omega) g0
    refine ⟨M2, ?_, ⟨q2.1.trans m1.1, fun id k z => ?_, fun id k z1 z2 z3 z4 => ?_, fun a ha => ?_, fun a ha => ?_, ?_, fun a ha => ?_, fun _ => ?_⟩, mw, mk1⟩
    · rw [show 63 - na + na + 1 = 64 by omega] at e2
      have e2' : G_M_endUnits_93 M1 (some 100) (nI n) = some M2 := e2
      have hmg : f_M_greatest M (some 100) (nI n) (-1) = some (gr_ob (gr_f (gr_cd is op wn kd none) p bw na 0 none), M) := M_greatest h gM none (fun c z => by cases z)
      rw [k4, hcd] at hmg
      simp only [f_M_end, f_M_endUnits, e_M_r27 nq nu h, e_M_rd121 nq nu h g3, g4, Option.bind_some, if_neg k3', k4', if_pos k4, e_M_ob nq nu h, e_M_r28 nq nu h, e_M_rd122 nq nu h g3, hun, hmg]
      rw [show F_M_endUnits_14 64 M (some 100) (nI n) (nI un) _ = _ from e1, e2']
      rfl
    · rw [q2.2.1, mi id k z]
    · rw [q2.2.2.1 id k z1 z2 z3, ml id k z4]
    · rw [q2.2.2.2.1 a ha]
      by_cases e : a < na
      · exact if_pos e
      · obtain ⟨y1, y2⟩ := hpz a ha (hu0 a ha (by omega))
        simp [px_cut, e, y1, y2]
    · rw [q2.2.2.2.2.1 a ha]
      by_cases e : a < na
      · simp [px_cut, e, uo0]
      · obtain ⟨y1, y2⟩ := hpz a ha (hu0 a ha (by omega))
        simp [px_cut, e, y1, y2, uo0]
    · rw [q2.2.2.2.2.2, px_sl_0 8 (fun a _ => uo0 a), Int64.add_zero]
      have := px_sl_cut (f := pd) (n := na) (8 - na) (fun a z1 z2 => (hpz a (by omega) (hu0 a (by omega) z1)).2)
      rw [show na + (8 - na) = 8 by omega] at this
      rw [this]
    · rw [q2.2.1]; exact m1.2.2.2.1 a ha
    · rw [q2.2.2.1 _ _ (by omega) (by omega) (by omega)]; exact m1.2.2.2.2
  · -- one price
    have hu1 := hun1 k4
    subst hu1
    have hone : ∀ a, a < 8 → u a ≠ 0 → u a = 1 := fun a ha z => by have := (hU a ha z).2.2.2.2.2; omega
    have hca : ∀ (wn' : Nat → Nat) (but : Option Nat), (∀ a, a < 8 → (wn' a = 0 ↔ but ≠ some a)) → gr_f (gr_cd is op wn kd but) p bw na 0 none = gr_f (gr_ca u wn') p td 8 0 none := by
      intro wn' but hb
      refine gr_VM g2 (fun a ha => ?_) (fun a h1 h2 => ?_) (fun a b ha hb c1 c2 => ?_)
      · have ha8 : a < 8 := by omega
        have hb' := hb a ha8
        have w0 := hw0 a ha8
        have hbb : (!(but == some a)) = (wn' a == 0) := by
          by_cases e : but = some a
          · have : ¬ wn' a = 0 := fun z => hb'.mp z e
            simp [e, this]
          · have : wn' a = 0 := hb'.mpr e
            simp [e, this]
        by_cases k0 : kd = 0
        · have := (hU4 (Or.inl k0) a ha8).1
          have hiu : is a = !(u a == 0) := by
            by_cases e : u a = 0
            · have : is a = false := by
                cases e1 : is a
                · rfl
                · exact absurd e (this.mp e1)
              simp [this, e]
            · rw [this.mpr e]; simp [e]
          simp only [gr_cd, gr_ca, k0, true_or, if_true, w0, hbb, hiu]
          simp
        · have k12 : kd = 1 ∨ kd = 2 := by omega
          obtain ⟨y1, y2, y3⟩ := hU12 k12 a ha8
          have hou : (is a && op a) = !(u a == 0) := by
            by_cases e : p a = 0
            · have : op a = false := by
                cases e1 : op a
                · rfl
                · exact absurd e (y2.mp e1)
              rw [if_neg (fun w => w e)] at y3
              simp [this, y3]
            · rw [if_pos e] at y3
              have := (hU a ha8 (by omega)).1
              simp [this, y2.mpr e, y3]
          have k04 : ¬ (kd = 0 ∨ kd = 4) := by omega
          simp only [gr_cd, gr_ca, if_neg k04, hbb, ← hou]
          cases is a <;> cases op a <;> cases (wn' a == 0) <;> rfl
      · simp [gr_ca, hu0 a h2 h1]
      · have c1' : u a ≠ 0 := by
          intro z; simp [gr_ca, z] at c1
        have c2' : u b ≠ 0 := by
          intro z; simp [gr_ca, z] at c2
        exact (h3 a b (by omega) (by omega) (hU a (by omega) c1').1 (hU b (by omega) c2').1).symm
    have hc0 := hca wn none (fun a ha => by simp [hw0 a ha])
    have hmg : f_M_greatest M (some 100) (nI n) (-1) = some (gr_ob (gr_f (gr_cd is op wn kd none) p bw na 0 none), M) := M_greatest h gM none (fun c z => by cases z)
    rw [hc0] at hmg
    have hsh := sh_1 (p := p) (td := td) (wn := wn) (kp := kp) hone
    -- the loop over those who are left
    have lp : ∀ (best : Option Nat) (M1 : ax_M) (F0 A0 F' A' : Nat → Int64) (P : Int64), (∀ c, best = some c → c < 8 ∧ u c ≠ 0) → (kd = 0 → ∀ a, a < 8 → best ≠ some a → u a = 0) → px_W nq nu M1.2.2 → (∀ id k, ¬ (id = 135 ∧ 8 * n ≤ k ∧ k < 8 * n + 8) → ax_i M1 id k = ax_i M id k) → mo_r 102 103 100 2 M1 M1 F0 A0 P → (∀ a, a < 8 → best = some a → F0 a = F' a ∧ A0 a = A' a) → (∀ a, a < 8 → best ≠ some a → F' a = F0 a + cs a ∧ A' a = A0 a - uo a - cs a) → ∃ M2, G_M_end_183 M1 (some 100) (nI n) (gr_ob best) = some M2 ∧ mo_r 102 103 100 2 M1 M2 F' A' (P + px_sl uo 8) := by
      intro best M1 F0 A0 F' A' P hb hbz hW1 hi g0 hF1 hF2
      have hcz : ∀ a, a < 8 → u a = 0 → cs a = 0 := fun a ha z => by rw [hcs, z, nI_0, i64_z]
      have hc1 : ∀ a, a < 8 → u a ≠ 0 → cs a = lN (p a) := fun a ha z => by
        rw [hcs, hone a ha z, nI_l (by decide), nI_l (by have := (hU a ha z).2.2.2.2.1; omega), lN_mul, Nat.one_mul]
      by_cases k0 : kd = 0
      · have uo0 : ∀ a, uo a = 0 := fun a => by rw [huo, if_neg (by omega)]
        have hk0' : ax_i M1 121 n = 0 := by rw [hi _ _ (by omega), g4, k0]; rfl
        have hna' : ax_i M1 100 3 = nI na := by rw [hi _ _ (by omega), g1]
        refine ⟨M1, ?_, g0.cg (fun a ha => ?_) (fun a ha => ?_) (by rw [px_sl_0 8 (fun a _ => uo0 a), Int64.add_zero])⟩
        · show G_M_end_185 _ M1 _ _ _ _ = _
          simp only [G_M_end_185, G_M_end_270, e_M_gi nq nu hW1, Option.bind_some, e_M_r27 nq nu hW1, e_M_rd121 nq nu hW1 g3, hk0', if_pos (Int32.le_refl _)]
          split <;> rfl
        · by_cases e : best = some a
          · exact (hF1 a ha e).1
          · rw [(hF2 a ha e).1, hcz a ha (hbz k0 a ha e), Int64.add_zero]
        · by_cases e : best = some a
          · exact (hF1 a ha e).2
          · rw [(hF2 a ha e).2, hcz a ha (hbz k0 a ha e), uo0, Int64.sub_zero, Int64.sub_zero]
      · have k12 : kd = 1 ∨ kd = 2 := by omega
        have tf : ∀ a, a < 8 → best = some a ∨ is a = false → F0 a = F' a ∧ A0 a = A' a ∧ uo a = 0 := by
          intro a ha z
          by_cases e : best = some a
          · obtain ⟨y1, y2⟩ := hF1 a ha e
            refine ⟨y1, y2, ?_⟩
            have := (hU a ha (hb a e).2).2.2.1
            rw [huo, if_neg (fun w => this w.2.2)]
          · have e1 : is a = false := z.resolve_left e
            have u0 : u a = 0 := by
              cases Nat.eq_zero_or_pos (u a) with
              | inl w => exact w
              | inr w => exact absurd (hU a ha (by omega)).1 (by rw [e1]; decide)
            have uo0 : uo a = 0 := by
              rw [huo, if_neg (fun w => absurd ((hU12 k12 a ha).1.mpr w.2.1) (by rw [e1]; decide))]
            obtain ⟨y1, y2⟩ := hF2 a ha e
            refine ⟨?_, ?_, uo0⟩
            · rw [y1, hcz a ha u0, Int64.add_zero]
            · rw [y2, hcz a ha u0, uo0, Int64.sub_zero, Int64.sub_zero]
        obtain ⟨M2, e2, q2⟩ := M_end_l (P := P) (F' := F') (A' := A') (F0 := F0) (A0 := A0) (uo := uo) (p := p) (is := is) (op := op) (le := le) hW1 g3 g2 (by rw [hi _ _ (by omega)]; exact g1) (by rw [hi _ _ (by omega)]; exact g4) k0 g5 (by rw [hi _ _ (by omega)]; exact hle) (by omega) (fun c z => (hb c z).1)
          (fun a ha => ⟨by rw [hi _ _ (by omega)]; exact (g6 a ha).1, by rw [hi _ _ (by omega)]; exact (g6 a ha).2.1, fun z1 z2 => by
            have z3 := (hU12 k12 a (by omega)).2.1.mp z2
            have z4 := (hU12 k12 a (by omega)).2.2
            rw [if_pos z3] at z4
            have z5 := hU a (by omega) (by omega)
            rw [hi _ _ (by omega)]
            exact ⟨z5.2.1, by omega⟩⟩)
          (fun a ha z => tf a (by omega) z)
          (fun a ha z1 z2 z3 => by
            have ha8 : a < 8 := by omega
            have y3 := (hU12 k12 a ha8).2.1.mp z3
            have y4 := (hU12 k12 a ha8).2.2
            rw [if_pos y3] at y4
            have uo0 : uo a = 0 := by rw [huo, if_neg (fun w => y3 w.2.2)]
            obtain ⟨y1, y2⟩ := hF2 a ha8 z1
            rw [hc1 a ha8 (by omega)] at y1 y2
            exact ⟨y1, by rw [y2, uo0, Int64.sub_zero], uo0⟩)
          (fun a ha z1 z2 z3 => by
            have ha8 : a < 8 := by omega
            have y3 : p a = 0 := by
              cases Nat.eq_zero_or_pos (p a) with
              | inl w => exact w
              | inr w => exact absurd ((hU12 k12 a ha8).2.1.mpr (by omega)) (by rw [z3]; decide)
            have y4 := (hU12 k12 a ha8).2.2
            rw [if_neg (fun w => w y3)] at y4
            have uo1 : uo a = lN le := by rw [huo, if_pos ⟨k12, (hU12 k12 a ha8).1.mp z2, y3⟩]
            obtain ⟨y1, y2⟩ := hF2 a ha8 z1
            rw [hcz a ha8 y4] at y1 y2
            exact ⟨by rw [y1, Int64.add_zero], by rw [y2, uo1, Int64.sub_zero], uo1⟩)
          na 0 (63 - na) M1 (by omega) (g0.cg (fun a _ => px_cut_0 a) (fun a _ => px_cut_0 a) (by rw [px_sl, Int64.add_zero]))
        have tz : ∀ a, na ≤ a → a < 8 → F0 a = F' a ∧ A0 a = A' a ∧ uo a = 0 := by
          intro a z1 z2
          refine tf a z2 (Or.inr ?_)
          cases e1 : is a
          · rfl
          · exact absurd (hia a z2 e1) (by omega)
        refine ⟨M2, ?_, q2.cg (fun a ha => ?_) (fun a ha => ?_) ?_⟩
        · rw [show 63 - na + na + 1 = 64 by omega] at e2
          exact e2
        · by_cases e : a < na
          · exact if_pos e
          · rw [px_cut, if_neg e]; exact (tz a (by omega) ha).1
        · by_cases e : a < na
          · exact if_pos e
          · rw [px_cut, if_neg e]; exact (tz a (by omega) ha).2.1
        · have := px_sl_cut (f := uo) (n := na) (8 - na) (fun a z1 z2 => (tz a z1 (by omega)).2.2)
          rw [show na + (8 - na) = 8 by omega] at this
          rw [this]
    cases hc : gr_f (gr_ca u wn) p td 8 0 none with
    | none =>
      rw [hc] at hsh hmg
      simp only at hsh
      have hvk : ve_kp u p td kd le (wn, kp) = kp := by
        rw [ve_kp]
        by_cases e : kd = 2
        · rw [if_neg (fun w => w.2 (hk0 (by omega)))]
        · rw [if_neg (fun w => e w.1)]
      simp only [hsh, hvk] at hpd ⊢
      have pd0 : ∀ a, a < 8 → pd a = 0 := fun a ha => by rw [hpd, hw0 a ha, nI_0, i64_z]
      have un0 : ∀ a, a < 8 → u a = 0 := by
        intro a ha
        have := (gr_nn 8 0 none hc).2 a (by omega) (by omega)
        cases Nat.eq_zero_or_pos (u a) with
        | inl w => exact w
        | inr w =>
          have z : ¬ u a = 0 := by omega
          rw [gr_ca, hw0 a ha] at this
          simp [z] at this
      obtain ⟨M2, e2, q2⟩ := lp none M (ax_l M 102) (ax_l M 103) (fun a => ax_l M 102 a + (cs a - pd a)) (fun a => ax_l M 103 a - uo a - pd a - (cs a - pd a)) (ax_l M 100 2) (fun c z => by cases z) (fun _ a ha _ => un0 a ha) h (fun _ _ _ => rfl) mo_r.refl (fun a _ z => by cases z) (fun a ha _ => by simp [pd0 a ha])
      refine ⟨M2, ?_, ⟨q2.1, fun id k z => q2.2.1 id k, fun id k z1 z2 z3 z4 => q2.2.2.1 id k z1 z2 z3, q2.2.2.2.1, q2.2.2.2.2.1, ?_, fun a ha => ?_, fun z => ?_⟩, fun a ha => by rw [hw0 a ha]; decide, hkp⟩
      · simp only [gr_ob] at e2 hmg
        simp only [f_M_end, e_M_r27 nq nu h, e_M_rd121 nq nu h g3, g4, Option.bind_some, if_neg k3', k4', if_neg k4, e_M_ob nq nu h, hmg, show ((-1 : Int32) < 0) from by decide, if_true, e2]
      · rw [q2.2.2.2.2.2, px_sl_0 8 pd0, Int64.add_zero]
      · rw [q2.2.1]; exact hw1 a ha
      · rw [q2.2.2.1 _ _ (by omega) (by omega) (by omega)]; exact hap z
    | some b =>
      rw [hc] at hsh hmg
      simp only at hsh
      obtain ⟨b1, b2, b3⟩ := sh_in hc
      obtain ⟨_, u2, u3, u4, u5, u6⟩ := hU b b1 b2
      have h48 : 8 * n + b < 48 := by omega
      have x5 : ¬ nI b < 0 := nI_pos (by omega)
      obtain ⟨pr, hpr⟩ : ∃ pr, pr = ve_kp u p td kd le (px_up wn b 1, p b) := ⟨_, rfl⟩
      simp only [hsh, ← hpr] at hpd ⊢
      have hprv : pr = p b ∨ pr = le ∨ ∃ c, c < 8 ∧ u c ≠ 0 ∧ pr = p c := by
        rw [hpr, ve_kp]
        by_cases e : kd = 2
        · rw [if_pos ⟨e, u3⟩]
          simp only
          cases hc2 : gr_f (gr_ca u (px_up wn b 1)) p td 8 0 none with
          | none => exact Or.inr (Or.inl rfl)
          | some c =>
            obtain ⟨c1, c2, _⟩ := sh_in hc2
            exact Or.inr (Or.inr ⟨c, c1, c2, rfl⟩)
        · rw [if_neg (fun w => e w.1)]; exact Or.inl rfl
      have hprb : pr ≠ 0 ∧ pr ≤ 1000000 := by
        rcases hprv with z | z | ⟨c, c1, c2, z⟩
        · rw [z]; exact ⟨u3, u5⟩
        · omega
        · have := hU c c1 c2
          rw [z]; exact ⟨this.2.2.1, this.2.2.2.2.1⟩
      have hprl : (nI pr).toInt64 = lN pr := nI_l (by omega)
      have pd1 : pd b = lN pr ∧ ∀ a, a < 8 → a ≠ b → pd a = 0 := by
        refine ⟨?_, fun a ha z => ?_⟩
        · rw [hpd, px_up, if_pos rfl, hprl, nI_l (by decide), lN_mul, Nat.one_mul]
        · rw [hpd, px_up, if_neg z, hw0 a ha, nI_0, i64_z]
      have csb : cs b = lN (p b) := by
        rw [hcs, hone b b1 b2, nI_l (by decide), nI_l (by omega), lN_mul, Nat.one_mul]
      have uob : uo b = 0 := by rw [huo, if_neg (fun w => u3 w.2.2)]
      have hpbl : (nI (p b)).toInt64 = lN (p b) := nI_l (by omega)
      have hE : f_M_end M (some 100) (nI n) = G_M_end_135 M (some 100) (nI n) (nI b) (lN pr) (nI n) (some 127) := by
        simp only [gr_ob] at hmg
        by_cases e : kd = 2
        · have hmg2 : f_M_greatest M (some 100) (nI n) (nI b) = some (gr_ob (gr_f (gr_cd is op wn kd (some b)) p bw na 0 none), M) := M_greatest h gM (some b) (fun c z => by cases z; exact b1)
          rw [hca (px_up wn b 1) (some b) (fun a ha => by
            unfold px_up
            by_cases z : a = b
            · simp [z]
            · simp [z, hw0 a ha]; exact fun w => z w.symm)] at hmg2
          rw [hpr, ve_kp, if_pos ⟨e, u3⟩]
          simp only
          have e2 : (2 : Int32) ≤ nI kd := by rw [e]; decide
          cases hc2 : gr_f (gr_ca u (px_up wn b 1)) p td 8 0 none with
          | none =>
            rw [hc2] at hmg2
            simp only [gr_ob] at hmg2
            simp only [f_M_end, G_M_end_58, G_M_end_132, e_M_r27 nq nu h, e_M_rd121 nq nu h g3, g4, Option.bind_some, if_neg k3', k4', if_neg k4, e_M_ob nq nu h, hmg, if_neg x5, k2', if_pos e, hmg2, e_M_r29 nq nu h, e_M_rd123 nq nu h g3, hle, e_M_r33 nq nu h, if_pos e2, show ((-1 : Int32) < 0) from by decide, if_true, nI_l (show le < 2 ^ 31 by omega)]
          | some c =>
            rw [hc2] at hmg2
            simp only [gr_ob] at hmg2
            obtain ⟨c1, c2, _⟩ := sh_in hc2
            obtain ⟨_, v2, v3, v4, v5, v6⟩ := hU c c1 c2
            have c48 : 8 * n + c < 48 := by omega
            have x6 : ¬ nI c < 0 := nI_pos (by omega)
            have x7 : nI (p c) ≤ nI le ↔ p c ≤ le := nI_leI (by omega) (by omega)
            simp only [f_M_end, G_M_end_58, G_M_end_132, e_M_r27 nq nu h, e_M_rd121 nq nu h g3, g4, Option.bind_some, if_neg k3', k4', if_neg k4, e_M_ob nq nu h, hmg, if_neg x5, k2', if_pos e, hmg2, e_M_r29 nq nu h, e_M_rd123 nq nu h g3, hle, e_M_r33 nq nu h, if_pos e2, if_neg x6, px_8, e_M_r37 nq nu h, e_M_rd131 nq nu h c48, v2, x7, nI_l (show le < 2 ^ 31 by omega), nI_l (show p c < 2 ^ 31 by omega)]
            by_cases z : p c ≤ le
            · rw [if_pos z, show le = p c by omega]
            · rw [if_neg z]
        · rw [hpr, ve_kp, if_neg (fun w => e w.1)]
          simp only
          have e2 : ¬ (2 : Int32) ≤ nI kd := by
            rw [show (2 : Int32) = nI 2 from rfl, nI_leI (by decide) (by omega)]; omega
          simp only [f_M_end, G_M_end_58, e_M_r27 nq nu h, e_M_rd121 nq nu h g3, g4, Option.bind_some, if_neg k3', k4', if_neg k4, e_M_ob nq nu h, hmg, if_neg x5, k2', if_neg e, e_M_r29 nq nu h, e_M_rd123 nq nu h g3, e_M_r33 nq nu h, if_neg e2, px_8, e_M_r37 nq nu h, e_M_rd131 nq nu h h48, u2, hpbl]
      -- the winner pays
      have hWb : px_W nq nu (ax_wi (ax_wl M 127 n (lN pr)) 135 (8 * n + b) 1).2.2 := h
      obtain ⟨Mb, hMb⟩ : ∃ Mb, Mb = ax_wi (ax_wl M 127 n (lN pr)) 135 (8 * n + b) 1 := ⟨_, rfl⟩
      rw [← hMb] at hWb
      have ib : ∀ id k, ¬ (id = 135 ∧ 8 * n ≤ k ∧ k < 8 * n + 8) → ax_i Mb id k = ax_i M id k := fun id k z => by rw [hMb, px_i_wi, if_neg (by omega), px_i_wl]
      have lb : ∀ id k, ¬ (id = 127 ∧ k = n) → ax_l Mb id k = ax_l M id k := fun id k z => by rw [hMb, px_l_wi, px_l_wl, if_neg z]
      have lb127 : ax_l Mb 127 n = lN pr := by rw [hMb, px_l_wi, px_l_wl, if_pos ⟨rfl, rfl⟩]
      have gb : mo_r 102 103 100 2 Mb Mb (ax_l M 102) (ax_l M 103) (ax_l M 100 2) := mo_r.refl.cg (fun a _ => lb _ _ (by omega)) (fun a _ => lb _ _ (by omega)) (lb _ _ (by omega))
      have gp := gb.pay (by decide) (by decide) (by decide) b1 (lN pr)
      have g5' := gp.give (by decide) (by decide) (by decide) b1 (lN (p b) - lN pr) (lN (p b) - lN pr)
      obtain ⟨Mp, hMp⟩ : ∃ Mp, Mp = ax_wl (ax_wl Mb 103 b (ax_l Mb 103 b - lN pr)) 100 2 (ax_l Mb 100 2 + lN pr) := ⟨_, rfl⟩
      rw [← hMp] at gp g5'
      obtain ⟨M5, hM5⟩ : ∃ M5, M5 = ax_wl (ax_wl Mp 103 b (ax_l Mp 103 b - (lN (p b) - lN pr))) 102 b (ax_l Mp 102 b + (lN (p b) - lN pr)) := ⟨_, rfl⟩
      rw [← hM5] at g5'
      have hE2 : G_M_end_135 M (some 100) (nI n) (nI b) (lN pr) (nI n) (some 127) = G_M_end_183 M5 (some 100) (nI n) (nI b) := by
        have hWa : px_W nq nu (ax_wl M 127 n (lN pr)).2.2 := h
        have hWp : px_W nq nu Mp.2.2 := gp.W hWb
        have w1 : ax_ti (ax_wl M 127 n (lN pr)) 0 (some 135) (nI (8 * n + b)) 1 = some Mb := by rw [hMb]; exact e_M_wr135 nq nu hWa h48
        have w2 : f_M_pay Mb (some 100) (nI b) (lN pr) = some Mp := by rw [hMp]; exact M_pay nq nu hWb b1 (lN pr)
        have l2 : ax_l Mp 127 n = lN pr := by rw [gp.2.2.1 _ _ (by omega) (by omega) (by omega)]; exact lb127
        have i2 : ax_i Mp 131 (8 * n + b) = nI (p b) := by rw [gp.2.1, ib _ _ (by omega)]; exact u2
        have w3 : f_M_setAside Mp (some 100) (nI b) (lN pr - lN (p b)) = some M5 := by rw [hM5]; exact M_setAside_n hWp b1 (i64_7 _ _)
        simp only [G_M_end_135, e_M_wr127 nq nu h g3, Option.bind_some, e_M_r41 nq nu hWa, px_8, w1, e_M_r33 nq nu hWb, e_M_rd127 nq nu hWb g3, lb127, e_M_ob nq nu hWb, w2, e_M_r33 nq nu hWp, e_M_rd127 nq nu hWp g3, l2, e_M_r37 nq nu hWp, e_M_rd131 nq nu hWp h48, i2, hpbl, e_M_ob nq nu hWp, w3]
      have hW5 : px_W nq nu M5.2.2 := g5'.W hWb
      obtain ⟨M2, e2, q2⟩ := lp (some b) M5 _ _ (fun a => ax_l M 102 a + (cs a - pd a)) (fun a => ax_l M 103 a - uo a - pd a - (cs a - pd a)) _ (fun c z => by cases z; exact ⟨b1, b2⟩) (fun k0 a ha z => by
          cases Nat.eq_zero_or_pos (u a) with
          | inl w => exact w
          | inr w => exact absurd (by rw [hL k0 a b ha b1 (by omega) b2]) z) hW5 (fun id k z => by rw [g5'.2.1, ib id k z]) g5'.self
        (fun a ha z => by
          cases z
          simp [px_up, csb, pd1.1, uob]) (fun a ha z => by
          have z' : a ≠ b := fun w => z (by rw [w])
          simp [px_up, z', pd1.2 a ha z'])
      refine ⟨M2, ?_, ⟨q2.1.trans (g5'.1.trans (by rw [hMb]; rfl)), fun id k z => ?_, fun id k z1 z2 z3 z4 => ?_, q2.2.2.2.1, q2.2.2.2.2.1, ?_, fun a ha => ?_, fun z => ?_⟩, fun a ha => ?_, hprb.2⟩
      · rw [hE, hE2]; exact e2
      · rw [q2.2.1, g5'.2.1, ib id k z]
      · rw [q2.2.2.1 id k z1 z2 z3, g5'.2.2.1 id k z1 z2 z3, lb id k z4]
      · rw [q2.2.2.2.2.2, px_sl_1 (f := pd) 8 b1 pd1.2, pd1.1, i64_5, i64_5, Int64.add_comm (lN pr)]
      · rw [q2.2.1, g5'.2.1, hMb, px_i_wi]
        unfold px_up
        by_cases z : a = b
        · rw [if_pos ⟨rfl, by omega⟩, if_pos z]; rfl
        · rw [if_neg (by omega), if_neg z, px_i_wl]; exact hw1 a ha
      · rw [q2.2.2.1 _ _ (by omega) (by omega) (by omega), g5'.2.2.1 _ _ (by omega) (by omega) (by omega), lb127, if_neg hprb.1]
      · show px_up wn b 1 a ≤ 20
        unfold px_up
        by_cases z : a = b
        · rw [if_pos z]; decide
        · rw [if_neg z, hw0 a ha]; decide
end
