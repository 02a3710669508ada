/-! TWO MEMORIES: the class's cells of one, the reference's of the other -/
def ov (M N : ax_M) : ax_M := (fun id k => if 100 ≤ id ∧ id < 1000 then N.1 id k else M.1 id k, fun id k => if 100 ≤ id ∧ id < 1000 then N.2.1 id k else M.2.1 id k, M.2.2)
theorem ov_iV {M N : ax_M} (id k : Nat) (h : ¬ (100 ≤ id ∧ id < 1000)) : ax_i (ov M N) id k = ax_i M id k := if_neg h
theorem ov_iM {M N : ax_M} (id k : Nat) (h : 100 ≤ id ∧ id < 1000) : ax_i (ov M N) id k = ax_i N id k := if_pos h
theorem ov_lV {M N : ax_M} (id k : Nat) (h : ¬ (100 ≤ id ∧ id < 1000)) : ax_l (ov M N) id k = ax_l M id k := if_neg h
theorem ov_lM {M N : ax_M} (id k : Nat) (h : 100 ≤ id ∧ id < 1000) : ax_l (ov M N) id k = ax_l N id k := if_pos h
/-- a step of the class, of the reference -/
def fr_V (M M' : ax_M) : Prop := M'.2.2 = M.2.2 ∧ ∀ id k, 100 ≤ id ∧ id < 1000 → ax_i M' id k = ax_i M id k ∧ ax_l M' id k = ax_l M id k
def fr_M (M M' : ax_M) : Prop := M'.2.2 = M.2.2 ∧ ∀ id k, ¬ (100 ≤ id ∧ id < 1000) → ax_i M' id k = ax_i M id k ∧ ax_l M' id k = ax_l M id k
theorem fr_V.refl (M : ax_M) : fr_V M M := ⟨rfl, fun _ _ _ => ⟨rfl, rfl⟩⟩
theorem fr_M.refl (M : ax_M) : fr_M M M := ⟨rfl, fun _ _ _ => ⟨rfl, rfl⟩⟩
theorem fr_V.trans {M M' M'' : ax_M} (f : fr_V M M') (g : fr_V M' M'') : fr_V M M'' := ⟨g.1.trans f.1, fun id k z => ⟨(g.2 id k z).1.trans (f.2 id k z).1, (g.2 id k z).2.trans (f.2 id k z).2⟩⟩
theorem fr_M.trans {M M' M'' : ax_M} (f : fr_M M M') (g : fr_M M' M'') : fr_M M M'' := ⟨g.1.trans f.1, fun id k z => ⟨(g.2 id k z).1.trans (f.2 id k z).1, (g.2 id k z).2.trans (f.2 id k z).2⟩⟩
theorem ov_self (M : ax_M) : ov M M = M := by
  unfold ov
  refine Prod.ext (funext fun id => funext fun k => ?_) (Prod.ext (funext fun id => funext fun k => ?_) rfl)
  · show (if _ then _ else _) = _
    split <;> rfl
  · show (if _ then _ else _) = _
    split <;> rfl
theorem ov_cg {M N N' : ax_M} (h : ∀ id k, 100 ≤ id ∧ id < 1000 → ax_i N' id k = ax_i N id k ∧ ax_l N' id k = ax_l N id k) : ov M N' = ov M N := by
  unfold ov
  refine Prod.ext (funext fun id => funext fun k => ?_) (Prod.ext (funext fun id => funext fun k => ?_) rfl)
  · show (if _ then _ else _) = (if _ then _ else _)
    by_cases z : 100 ≤ id ∧ id < 1000
    · rw [if_pos z, if_pos z]; exact (h id k z).1
    · rw [if_neg z, if_neg z]
  · show (if _ then _ else _) = (if _ then _ else _)
    by_cases z : 100 ≤ id ∧ id < 1000
    · rw [if_pos z, if_pos z]; exact (h id k z).2
    · rw [if_neg z, if_neg z]
theorem ov_cg2 {M M' N : ax_M} (h : fr_M M M') : ov M' N = ov M N := by
  unfold ov
  refine Prod.ext (funext fun id => funext fun k => ?_) (Prod.ext (funext fun id => funext fun k => ?_) h.1)
  · show (if _ then _ else _) = (if _ then _ else _)
    by_cases z : 100 ≤ id ∧ id < 1000
    · rw [if_pos z, if_pos z]
    · rw [if_neg z, if_neg z]; exact (h.2 id k z).1
  · show (if _ then _ else _) = (if _ then _ else _)
    by_cases z : 100 ≤ id ∧ id < 1000
    · rw [if_pos z, if_pos z]
    · rw [if_neg z, if_neg z]; exact (h.2 id k z).2
/-- what is known while heights go by: auctions below i are through -/
def RA (T na nq nu h mt i : Nat) (M N : ax_M) : Prop := N.2.2 = M.2.2 ∧ sm_g T na nq nu (h + 1) mt (ov M N) ∧ (∀ a, a < 8 → sm_c na (ov M N) a) ∧ (∀ n, n < nq → sm_q na (ov M N) n) ∧ (∀ n, n < nu → n < i → sm_a T na (h + 1) mt (ov M N) n) ∧ (∀ n, n < nu → i ≤ n → sm_a T na h mt (ov M N) n)
theorem sm_a.hh {T na h mt n : Nat} {M : ax_M} (g : sm_a T na h mt M n) : sm_a T na (h + 1) mt M n := by
  obtain ⟨kd, un, le, sp, sh, en, tl, kp, td, bw, u, p, wn, is, ⟨a1, a2, a3, a4, a5, a6, a7, a8, a9, a10⟩, h2, h3, l1, l2, l3, l4⟩ := g
  refine ⟨kd, un, le, sp, sh, en, tl, kp, td, bw, u, p, wn, is, ⟨a1, a2, a3, a4, a5, a6, a7, a8, by omega, a10⟩, h2, h3, l1, fun z => ⟨(l2 z).1, fun w => (l2 z).2 (by omega)⟩, fun z w => l3 z (by omega), l4⟩
def S_en (n id k : Nat) : Prop := (id = 2 ∧ k < 8) ∨ (id = 3 ∧ k < 8) ∨ (id = 0 ∧ k = 1) ∨ (id = 10 * n + 2005 ∧ k < 8) ∨ (id = 10 * n + 2000 ∧ k = 13) ∨ (id = 102 ∧ k < 8) ∨ (id = 103 ∧ k < 8) ∨ (id = 100 ∧ k = 2) ∨ (id = 127 ∧ k = n) ∨ (id = 135 ∧ 8 * n ≤ k ∧ k < 8 * n + 8)
theorem en_fr {n kd : Nat} {M M' N N' : ax_M} {F A F2 A2 : Nat → Int64} {P P2 : Int64} {wn wn2 : Nat → Nat} {kp kp2 : Nat} (g1 : ve_r n M M' F A P wn kp) (g2 : me_r n kd N N' F2 A2 P2 wn2 kp2) : px_fr (S_en n) (ov M N) (ov M' N') := by
  refine ⟨g1.1, fun id k z => ?_, fun id k z => ?_⟩
  · unfold S_en at z
    by_cases w : 100 ≤ id ∧ id < 1000
    · rw [ov_iM id k w, ov_iM id k w, g2.2.1 id k (by omega)]
    · rw [ov_iV id k w, ov_iV id k w, g1.2.1 id k (by omega) (by omega)]
  · unfold S_en at z
    by_cases w : 100 ≤ id ∧ id < 1000
    · rw [ov_lM id k w, ov_lM id k w, g2.2.2.1 id k (by omega) (by omega) (by omega) (by omega)]
    · rw [ov_lV id k w, ov_lV id k w, g1.2.2.1 id k (by omega) (by omega) (by omega)]
theorem ve_fr {n : Nat} {M M' : ax_M} {F A : Nat → Int64} {P : Int64} {wn : Nat → Nat} {kp : Nat} (g1 : ve_r n M M' F A P wn kp) : fr_V M M' :=
  ⟨g1.1, fun id k z => ⟨g1.2.1 id k (by omega) (by omega), g1.2.2.1 id k (by omega) (by omega) (by omega)⟩⟩
theorem me_fr {n kd : Nat} {M M' : ax_M} {F A : Nat → Int64} {P : Int64} {wn : Nat → Nat} {kp : Nat} (g1 : me_r n kd M M' F A P wn kp) : fr_M M M' :=
  ⟨g1.1, fun id k z => ⟨g1.2.1 id k (by omega), g1.2.2.1 id k (by omega) (by omega) (by omega) (by omega)⟩⟩
theorem sh_b {u p td : Nat → Nat} (hp : ∀ a, a < 8 → p a ≤ 1000000) : ∀ k l wn kp, kp ≤ 1000000 → (sh_f u p td k l wn kp).2 ≤ 1000000 := by
  intro k
  induction k with
  | zero => intro l wn kp h; exact h
  | succ k ih =>
    intro l wn kp h
    by_cases hl : l = 0
    · simp only [sh_f, if_pos hl]; exact h
    · cases hc : gr_f (gr_ca u wn) p td 8 0 none with
      | none => simp only [sh_f, if_neg hl, hc]; exact h
      | some b => simp only [sh_f, if_neg hl, hc]; exact ih _ _ _ (hp b (sh_in hc).1)
theorem sh_z {u p td : Nat → Nat} : ∀ k l wn kp, (∀ a, a < 8 → wn a = 0) → ∀ a, a < 8 → u a = 0 → (sh_f u p td k l wn kp).1 a = 0 := by
  have : ∀ k l wn kp a, wn a = 0 → u a = 0 → (sh_f u p td k l wn kp).1 a = 0 := by
    intro k
    induction k with
    | zero => intro l wn kp a h _; exact h
    | succ k ih =>
      intro l wn kp a h hu
      by_cases hl : l = 0
      · simp only [sh_f, if_pos hl]; exact h
      · cases hc : gr_f (gr_ca u wn) p td 8 0 none with
        | none => simp only [sh_f, if_neg hl, hc]; exact h
        | some b =>
          simp only [sh_f, if_neg hl, hc]
          refine ih _ _ _ a ?_ hu
          unfold px_up
          rw [if_neg (fun w => (sh_in hc).2.1 (by rw [← w]; exact hu))]
          exact h
  intro k l wn kp h a ha hu
  exact this k l wn kp a (h a ha) hu
/-- an auction ends, on both sides -/
theorem en_step {T na nq nu h mt n : Nat} {M N : ax_M} (g : RA T na nq nu h mt n M N) (hn : n < nu) (hen : ax_i M (10 * n + 2000) 5 = nI (h + 1)) : ∃ M' N', f_V_endAuction M (some 0) (some (10 * n + 2000)) = some M' ∧ f_M_end N (some 100) (nI n) = some N' ∧ fr_V M M' ∧ fr_M N N' ∧ RA T na nq nu h mt (n + 1) M' N' := by
  obtain ⟨gW, hg, hc, hq, ha1, ha2⟩ := g
  obtain ⟨kd, un, le, sp, sh, en, tl, kp, td, bw, u, p, wn, is, h1, h2, h3, h4⟩ := ha2 n hn (Nat.le_refl _)
  obtain ⟨W, g2, g3, g4, g5, g6, g7, i1, i2, i3, i4, i5, i6, i7, i8, i9, i10⟩ := id hg
  obtain ⟨a1, a2, a3, a4, a5, a6, a7, a8, a9, a10, a11, b1, b2, b3, b4, b5, b6, b7, b8, b9, b10, b11, b12, b13, b14, b15⟩ := id h1
  have hWM : px_W nq nu M.2.2 := W
  have hWN : px_W nq nu N.2.2 := by rw [gW]; exact W
  have hn6 : n < 6 := by omega
  have oV : ∀ id k v, 1000 ≤ id → ax_i (ov M N) id k = v → ax_i M id k = v := fun id k v z w => by rw [← w, ov_iV id k (by omega)]
  have oM : ∀ id k v, 100 ≤ id ∧ id < 1000 → ax_i (ov M N) id k = v → ax_i N id k = v := fun id k v z w => by rw [← w, ov_iM id k z]
  have enh : en = h + 1 := by
    have := oV _ _ _ (by omega) b11
    rw [hen] at this
    exact ((nI_eq (by omega) (by omega)).mp this).symm
  by_cases k3 : kd = 3
  · have k3' : nI kd = 3 := by rw [k3]; rfl
    refine ⟨M, N, ?_, ?_, fr_V.refl M, fr_M.refl N, gW, hg, hc, hq, fun m hm hm2 => ?_, fun m hm hm2 => ha2 m hm (by omega)⟩
    · simp only [f_V_endAuction, e_A_gi nq nu hWM hn, oV _ _ _ (by omega) b1, Option.bind_some, if_pos k3']
    · simp only [f_M_end, e_M_r27 nq nu hWN, e_M_rd121 nq nu hWN hn6, oM _ _ _ (by omega) b2, Option.bind_some, if_pos k3']
    · by_cases e : m = n
      · subst e; exact (ha2 m hm (Nat.le_refl _)).hh
      · exact ha1 m hm (by omega)
  · have k124 : kd ≠ 0 → kd = 1 ∨ kd = 2 ∨ kd = 4 := fun z => by omega
    have k12of : ¬ (kd = 0 ∨ kd = 4) → kd = 1 ∨ kd = 2 := fun z => by omega
    have hlt : h < en := by omega
    have w0 := (h4.2.1 k3).2 hlt
    have kp0 : kd ≠ 0 → kp = 0 := fun z => h4.2.2.1 (k124 z) hlt
    obtain ⟨cs, hcs⟩ : ∃ cs : Nat → Int64, ∀ a, cs a = (nI (u a)).toInt64 * (nI (p a)).toInt64 := ⟨_, fun _ => rfl⟩
    obtain ⟨uo, huo⟩ : ∃ uo : Nat → Int64, ∀ a, uo a = if (kd = 1 ∨ kd = 2) ∧ td a ≠ 0 ∧ p a = 0 then lN le else 0 := ⟨_, fun _ => rfl⟩
    obtain ⟨pd, hpd⟩ : ∃ pd : Nat → Int64, ∀ a, pd a = (nI ((sh_f u p td 8 un wn kp).1 a)).toInt64 * (nI (ve_kp u p td kd le (sh_f u p td 8 un wn kp))).toInt64 := ⟨_, fun _ => rfl⟩
    have hp8 : ∀ a, a < 8 → p a ≤ 1000000 := fun a ha => (h2 a ha).2.2.2.2.2.1
    obtain ⟨M', eV, gV⟩ := V_endAuction (uo := uo) (cs := cs) (pd := pd) hWM hn (u := u) (p := p) (td := td) (wn := wn) (kp := kp) (fun a ha => by
        obtain ⟨d1, d2, d3, d4, d5, d6, _⟩ := h2 a ha
        exact ⟨⟨oV _ _ _ (by omega) d3, by omega⟩, ⟨oV _ _ _ (by omega) d5, by omega⟩, oV _ _ _ (by omega) d1, by omega⟩) (fun a ha => by
        obtain ⟨d1, d2, d3, d4, d5, d6, d7, d8, d9, _⟩ := h2 a ha
        exact ⟨oV _ _ _ (by omega) d7, d9⟩) a1 k3 (oV _ _ _ (by omega) b1) (oV _ _ _ (by omega) b3) a3 (oV _ _ _ (by omega) b5) (by omega) (oV _ _ _ (by omega) b9) (oV _ _ _ (by omega) b11) (by omega) a8 (oV _ _ _ (by omega) b14) (Nat.lt_of_le_of_lt (sh_b hp8 8 un wn kp a11) (by decide)) huo hcs hpd
    obtain ⟨op, hop⟩ : ∃ op : Nat → Bool, ∀ a, op a = decide ((kd = 1 ∨ kd = 2) ∧ p a ≠ 0) := ⟨_, fun _ => rfl⟩
    have gM : gr_M N n na kd is op wn p bw := by
      refine ⟨oM _ _ _ (by omega) i5, g2, hn6, oM _ _ _ (by omega) b2, a1, fun a ha => ?_⟩
      obtain ⟨d1, d2, d3, d4, d5, d6, d7, d8, d9, d10, d11, d12, d13, d14, d15, d16⟩ := h2 a (by omega)
      refine ⟨oM _ _ _ (by omega) d10, oM _ _ _ (by omega) (d12.trans ?_), ⟨oM _ _ _ (by omega) d8, by omega⟩, fun z => ⟨oM _ _ _ (by omega) (d11 z).2.1, ?_, fun w => ⟨oM _ _ _ (by omega) (d13 ?_).2.2, by omega⟩⟩⟩
      · rw [hop]
        by_cases e : (kd = 1 ∨ kd = 2) ∧ p a ≠ 0
        · rw [if_pos e, if_pos (decide_eq_true e)]
        · rw [if_neg e, if_neg (by rw [decide_eq_false e]; decide)]
      · have := (d11 z).2.2.1; omega
      · rcases w with w | w
        · exact (d14 w).2.1.mp ((d14 w).1.mp z)
        · rw [hop] at w
          exact (of_decide_eq_true w).2
    obtain ⟨N', eM, gN, hw20, hk6⟩ := M_end (uo := uo) (cs := cs) (pd := pd) (un := un) (le := le) (kp := kp) (u := u) (td := td) hWN gM w0 (fun a ha => oM _ _ _ (by omega) (h2 a ha).2.2.2.2.2.2.2.1) k3 (oM _ _ _ (by omega) b4) a3 (fun z => a4 z) (oM _ _ _ (by omega) b6) a6 a5 a11 (fun k0 a b ha' hb' z1 z2 => by
        rcases h4.1 k0 with ⟨_, _, y⟩ | ⟨c, _, _, _, _, _, y⟩
        · exact absurd (y a ha') z1
        · have e1 : a = c := Classical.byContradiction fun w => z1 (y a ha' w)
          have e2 : b = c := Classical.byContradiction fun w => z2 (y b hb' w)
          rw [e1, e2]) (fun z => by rw [← b15 z]; exact (ov_lM 127 n (by omega)).symm) kp0
      (fun a ha z => ((h2 a ha).2.2.2.2.2.2.2.2.2.2.1 z).1) (fun a ha z => by
        obtain ⟨d1, d2, d3, d4, d5, d6, d7, d8, d9, d10, d11, d12, d13, d14, d15, d16⟩ := h2 a ha
        have hp : p a ≠ 0 := by
          intro w
          by_cases e : kd = 0 ∨ kd = 4
          · exact (d14 e).2.1.mp z w
          · have := (d15 (by omega)).2.1
            rw [if_neg (fun q => q w)] at this
            exact z this
        obtain ⟨y1, y2, y3⟩ := d13 hp
        exact ⟨y1, oM _ _ _ (by omega) y3, hp, y2, d6, d4⟩) (fun e a ha => by
        obtain ⟨d1, d2, d3, d4, d5, d6, d7, d8, d9, d10, d11, d12, d13, d14, d15, d16⟩ := h2 a ha
        exact ⟨(d14 e).1, fun z => oM _ _ _ (by omega) ((d14 e).2.2 z)⟩) (fun e a ha => by
        obtain ⟨d1, d2, d3, d4, d5, d6, d7, d8, d9, d10, d11, d12, d13, d14, d15, d16⟩ := h2 a ha
        refine ⟨(d15 e).1, ?_, (d15 e).2.1⟩
        rw [hop]; simp [e]) h3 huo hcs hpd
    obtain ⟨s, hs⟩ : ∃ s, s = sh_f u p td 8 un wn kp := ⟨_, rfl⟩
    obtain ⟨k2, hk2⟩ : ∃ k2, k2 = ve_kp u p td kd le (sh_f u p td 8 un wn kp) := ⟨_, rfl⟩
    rw [← hk2] at gV gN hk6
    rw [← hs] at gV gN hw20
    have F := en_fr gV gN
    refine ⟨M', N', eV, eM, ve_fr gV, me_fr gN, gN.1.trans (gW.trans gV.1.symm), ?_, ?_, ?_, ?_, ?_⟩
    · have fi := F.2.1
      refine ⟨F.W W, g2, g3, g4, g5, g6, g7, ?_, ?_, ?_, ?_, ?_, ?_, ?_, ?_, ?_, ?_⟩
      · rw [fi _ _ (by unfold S_en; omega)]; exact i1
      · rw [fi _ _ (by unfold S_en; omega)]; exact i2
      · rw [ov_lV 0 1 (by omega), ov_lM 100 2 (by omega), gV.2.2.2.2.2.1, gN.2.2.2.2.2.1, ← ov_lV (N := N) 0 1 (by omega), ← ov_lM (M := M) 100 2 (by omega), i3]
      · rw [fi _ _ (by unfold S_en; omega)]; exact i4
      · rw [fi _ _ (by unfold S_en; omega)]; exact i5
      · rw [fi _ _ (by unfold S_en; omega)]; exact i6
      · rw [fi _ _ (by unfold S_en; omega)]; exact i7
      · rw [fi _ _ (by unfold S_en; omega)]; exact i8
      · rw [fi _ _ (by unfold S_en; omega)]; exact i9
      · rw [fi _ _ (by unfold S_en; omega)]; exact i10
    · intro a ha8
      have fi := F.2.1
      obtain ⟨c1, c2⟩ := hc a ha8
      refine ⟨fun z => ?_, fun z => ?_⟩
      · obtain ⟨⟨w, w1, w2, w3⟩, y1, y2, p0, p1, p2, p3⟩ := c1 z
        refine ⟨⟨w, w1, ?_, ?_⟩, ?_, ?_, p0, p1, ?_, ?_⟩
        · rw [fi _ _ (by unfold S_en; omega)]; exact w2
        · rw [fi _ _ (by unfold S_en; omega)]; exact w3
        · rw [ov_lV 2 a (by omega), ov_lM 102 a (by omega), gV.2.2.2.1 a ha8, gN.2.2.2.1 a ha8]; show ax_l M 2 a + (cs a - pd a) = ax_l N 102 a + (cs a - pd a); rw [← ov_lV (N := N) 2 a (by omega), ← ov_lM (M := M) 102 a (by omega), y1]
        · rw [ov_lV 3 a (by omega), ov_lM 103 a (by omega), gV.2.2.2.2.1 a ha8, gN.2.2.2.2.1 a ha8]; show ax_l M 3 a - uo a - pd a - (cs a - pd a) = ax_l N 103 a - uo a - pd a - (cs a - pd a); rw [← ov_lV (N := N) 3 a (by omega), ← ov_lM (M := M) 103 a (by omega), y2]
        · rw [fi _ _ (by unfold S_en; omega)]; exact p2
        · rw [fi _ _ (by unfold S_en; omega)]; exact p3
      · obtain ⟨w1, w2, w3⟩ := c2 z
        refine ⟨?_, ?_, ?_⟩
        · rw [fi _ _ (by unfold S_en; omega)]; exact w1
        · obtain ⟨d1, d2, d3, d4, d5, d6, d7, d8, d9, d10, d11, d12, d13, d14, d15, d16⟩ := h2 a ha8
          have e1 : is a = false := by
            cases e : is a
            · rfl
            · exact absurd (d11 e).1 (by omega)
          have e2 : u a = 0 := by
            by_cases e : kd = 0 ∨ kd = 4
            · cases Nat.eq_zero_or_pos (u a) with
              | inl w => exact w
              | inr w => exact absurd ((d14 e).1.mpr (by omega)) (by rw [e1]; decide)
            · have e4 : p a = 0 := by
                cases Nat.eq_zero_or_pos (p a) with
                | inl w => exact w
                | inr w => exact absurd (d13 (by omega)).1 (by rw [e1]; decide)
              have := (d15 (k12of e)).2.1
              rw [if_neg (fun q => q e4)] at this
              exact this
          have e3 : uo a = 0 := by
            rw [huo, if_neg (fun q => absurd ((d15 q.1).1.mpr q.2.1) (by rw [e1]; decide))]
          have e4 : cs a = 0 := by rw [hcs, e2, nI_0, i64_z]
          have e5 : pd a = 0 := by
            have : s.1 a = 0 := by rw [hs]; exact sh_z 8 un wn kp w0 a ha8 e2
            rw [hpd, ← hs, this, nI_0, i64_z]
          rw [ov_lV 3 a (by omega), gV.2.2.2.2.1 a ha8]; show ax_l M 3 a - uo a - pd a - (cs a - pd a) = 0; rw [← ov_lV (N := N) 3 a (by omega), w2, e3, e4, e5]; rfl
        · rw [fi _ _ (by unfold S_en; omega)]; exact w3
    · intro m hm
      exact (hq m hm).fr F (fun id k z w => by unfold S_en at w; omega)
    · intro m hm hm2
      by_cases e : m = n
      rotate_left
      · exact (ha1 m hm (by omega)).fr F (fun id k z w => by unfold S_en at w; omega)
      subst e
      have fi := F.2.1
      have hk0 : kd = 0 → k2 = kp := by
        intro k0
        have hun1 := a4 (by omega)
        subst hun1
        have hv : k2 = s.2 := by rw [hk2, ve_kp, if_neg (fun w => by omega), hs]
        rw [hv, hs, sh_1 (fun a ha z => by have := (h2 a ha).2.2.2.1; omega)]
        cases hcc : gr_f (gr_ca u wn) p td 8 0 none with
        | none => rfl
        | some c =>
          obtain ⟨c1, c2, _⟩ := sh_in hcc
          rcases h4.1 k0 with ⟨_, _, y⟩ | ⟨b, _, _, _, y2, _, y⟩
          · exact absurd (y c c1) c2
          · have e1 : c = b := Classical.byContradiction fun w => c2 (y c c1 w)
            show p c = kp
            rw [e1, y2]
      refine ⟨kd, un, le, sp, sh, en, tl, k2, td, bw, u, p, s.1, is, ?_, ?_, h3, ?_⟩
      · refine ⟨a1, a2, a3, a4, a5, a6, a7, a8, by omega, a10, hk6, ?_, ?_, ?_, ?_, ?_, ?_, ?_, ?_, ?_, ?_, ?_, ?_, ?_, ?_, ?_⟩
        · rw [fi _ _ (by unfold S_en; omega)]; exact b1
        · rw [fi _ _ (by unfold S_en; omega)]; exact b2
        · rw [fi _ _ (by unfold S_en; omega)]; exact b3
        · rw [fi _ _ (by unfold S_en; omega)]; exact b4
        · rw [fi _ _ (by unfold S_en; omega)]; exact b5
        · rw [fi _ _ (by unfold S_en; omega)]; exact b6
        · rw [fi _ _ (by unfold S_en; omega)]; exact b7
        · rw [fi _ _ (by unfold S_en; omega)]; exact b8
        · rw [fi _ _ (by unfold S_en; omega)]; exact b9
        · rw [fi _ _ (by unfold S_en; omega)]; exact b10
        · rw [fi _ _ (by unfold S_en; omega)]; exact b11
        · rw [fi _ _ (by unfold S_en; omega)]; exact b12
        · rw [fi _ _ (by unfold S_en; omega)]; exact b13
        · rw [ov_iV _ _ (by omega)]; exact gV.2.2.2.2.2.2.2
        · intro z
          rw [ov_lM 127 m (by omega)]; exact gN.2.2.2.2.2.2.2 z
      · intro a ha8
        obtain ⟨d1, d2, d3, d4, d5, d6, d7, d8, d9, d10, d11, d12, d13, d14, d15, d16⟩ := h2 a ha8
        have f1 : ax_i (ov M' N') (10 * m + 2001) a = ax_i (ov M N) (10 * m + 2001) a := fi _ _ (by unfold S_en; omega)
        have f3 : ax_i (ov M' N') (10 * m + 2003) a = ax_i (ov M N) (10 * m + 2003) a := fi _ _ (by unfold S_en; omega)
        have f4 : ax_i (ov M' N') (10 * m + 2004) a = ax_i (ov M N) (10 * m + 2004) a := fi _ _ (by unfold S_en; omega)
        have f9 : ax_i (ov M' N') 129 (8 * m + a) = ax_i (ov M N) 129 (8 * m + a) := fi _ _ (by unfold S_en; omega)
        have f10 : ax_i (ov M' N') 130 (8 * m + a) = ax_i (ov M N) 130 (8 * m + a) := fi _ _ (by unfold S_en; omega)
        have f11 : ax_i (ov M' N') 131 (8 * m + a) = ax_i (ov M N) 131 (8 * m + a) := fi _ _ (by unfold S_en; omega)
        have f12 : ax_i (ov M' N') 132 (8 * m + a) = ax_i (ov M N) 132 (8 * m + a) := fi _ _ (by unfold S_en; omega)
        have f14 : ax_i (ov M' N') 134 (8 * m + a) = ax_i (ov M N) 134 (8 * m + a) := fi _ _ (by unfold S_en; omega)
        have f2 : ax_l (ov M' N') (10 * m + 2002) a = ax_l (ov M N) (10 * m + 2002) a := F.2.2 _ _ (by unfold S_en; omega)
        have f13 : ax_l (ov M' N') 133 (8 * m + a) = ax_l (ov M N) 133 (8 * m + a) := F.2.2 _ _ (by unfold S_en; omega)
        unfold sm_ab
        rw [f1, f3, f4, f9, f10, f11, f12, f14, f2, f13, ov_iV (10 * m + 2005) a (by omega), ov_iM 135 (8 * m + a) (by omega)]
        exact ⟨d1, d2, d3, d4, d5, d6, gV.2.2.2.2.2.2.1 a ha8, gN.2.2.2.2.2.2.1 a ha8, hw20 a ha8, d10, d11, d12, d13, d14, d15, d16⟩
      · refine ⟨fun k0 => ?_, fun z => ⟨?_, fun w => by omega⟩, fun _ w => by omega, fun z => absurd z k3⟩
        · rw [hk0 k0, fi _ _ (by unfold S_en; omega)]; exact h4.1 k0
        · rw [fi _ _ (by unfold S_en; omega)]; exact (h4.2.1 z).1
    · intro m hm hm2
      exact (ha2 m hm (by omega)).fr F (fun id k z w => by unfold S_en at w; omega)
