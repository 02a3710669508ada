/-! THE CLASS: an auction ends -/
def sh_f (u p td : Nat → Nat) : Nat → Nat → (Nat → Nat) → Nat → (Nat → Nat) × Nat
  | 0, _, wn, kp => (wn, kp)
  | k + 1, l, wn, kp => if l = 0 then (wn, kp) else match gr_f (gr_ca u wn) p td 8 0 none with
    | none => (wn, kp)
    | some b => sh_f u p td k (l - if u b < l then u b else l) (px_up wn b (if u b < l then u b else l)) (p b)
theorem sh_in {u wn p td : Nat → Nat} {b : Nat} (h : gr_f (gr_ca u wn) p td 8 0 none = some b) : b < 8 ∧ u b ≠ 0 ∧ wn b = 0 := by
  have := gr_in (N := 8) 8 0 none (by decide) (fun c z => by cases z) b h
  refine ⟨this.1, ?_⟩
  simpa [gr_ca] using this.2
def vs_r (n : Nat) (M M' : ax_M) (wn : Nat → Nat) (kp : Nat) : Prop := M'.2.2 = M.2.2 ∧ (∀ id k, ax_l M' id k = ax_l M id k) ∧ (∀ id k, ¬ (id = 10 * n + 2005 ∧ k < 8) → ¬ (id = 10 * n + 2000 ∧ k = 13) → ax_i M' id k = ax_i M id k) ∧ (∀ a, a < 8 → ax_i M' (10 * n + 2005) a = nI (wn a)) ∧ ax_i M' (10 * n + 2000) 13 = nI kp
section
variable {nq nu n : Nat} {M : ax_M} {u p td : Nat → Nat}
theorem vs_gr {M' : ax_M} {wn : Nat → Nat} {kp : Nat} (hw : ∀ a, a < 8 → wn a ≤ 20) (h1 : ∀ a, a < 8 → (ax_i M (10 * n + 2003) a = nI (u a) ∧ u a < 2 ^ 31) ∧ (ax_i M (10 * n + 2004) a = nI (p a) ∧ p a < 2 ^ 31) ∧ (ax_i M (10 * n + 2001) a = nI (td a) ∧ td a < 2 ^ 31)) (g : vs_r n M M' wn kp) : gr_A M' n u wn p td := by
  intro a ha
  obtain ⟨⟨q1, q2⟩, ⟨q3, q4⟩, q5, q6⟩ := h1 a ha
  have := hw a ha
  refine ⟨⟨?_, q2⟩, ⟨g.2.2.2.1 a ha, by omega⟩, ⟨?_, q4⟩, ?_, q6⟩
  · rw [g.2.2.1 _ _ (by omega) (by omega)]; exact q1
  · rw [g.2.2.1 _ _ (by omega) (by omega)]; exact q3
  · rw [g.2.2.1 _ _ (by omega) (by omega)]; exact q5
theorem V_share_l (h : px_W nq nu M.2.2) (hn : n < nu) (h1 : ∀ a, a < 8 → (ax_i M (10 * n + 2003) a = nI (u a) ∧ u a < 2 ^ 31) ∧ (ax_i M (10 * n + 2004) a = nI (p a) ∧ p a < 2 ^ 31) ∧ (ax_i M (10 * n + 2001) a = nI (td a) ∧ td a < 2 ^ 31)) : ∀ k t f M' l wn kp, t + k = 8 → l ≤ 20 → (∀ a, a < 8 → wn a ≤ 20) → vs_r n M M' wn kp → ∃ M'', F_V_shareUnits_7 (f + k + 1) M' (some (10 * n + 2000)) (nI l) (nI t) = some M'' ∧ vs_r n M M'' (sh_f u p td k l wn kp).1 (sh_f u p td k l wn kp).2 ∧ ∀ a, a < 8 → (sh_f u p td k l wn kp).1 a ≤ 20 := by
  intro k
  induction k with
  | zero =>
    intro t f M' l wn kp e _ hw g
    have : t = 8 := by omega
    subst this
    refine ⟨M', ?_, g, hw⟩
    show G_V_shareUnits_7 _ M' _ _ _ = _
    simp only [G_V_shareUnits_7, G_V_shareUnits_69]
    rw [if_pos (show (8 : Int32) ≤ nI 8 from Int32.le_refl _)]
  | succ k ih =>
    intro t f M' l wn kp e hl hw g
    have x3 : ¬ (8 : Int32) ≤ nI t := nI_ge (b := 8) (by omega) (by decide)
    have x4 : nI l ≤ 0 ↔ l = 0 := by rw [show (0 : Int32) = nI 0 from rfl, nI_leI (by omega) (by decide)]; omega
    have h' : px_W nq nu M'.2.2 := by rw [g.1]; exact h
    have hgr := vs_gr hw h1 g
    have hb := A_bestWithout h' hn hgr
    by_cases hl0 : l = 0
    · refine ⟨M', ?_, ?_⟩
      · show G_V_shareUnits_7 _ M' _ _ _ = _
        simp only [G_V_shareUnits_7, G_V_shareUnits_69, if_neg x3, x4, if_pos hl0]
      · simp only [sh_f, if_pos hl0]; exact ⟨g, hw⟩
    · cases hc : gr_f (gr_ca u wn) p td 8 0 none with
      | none =>
        rw [hc] at hb
        refine ⟨M', ?_, ?_⟩
        · show G_V_shareUnits_7 _ M' _ _ _ = _
          simp only [G_V_shareUnits_7, G_V_shareUnits_69, if_neg x3, x4, if_neg hl0, e_A_ob nq nu h' hn, Option.bind_some, hb, gr_ob, if_true]
        · simp only [sh_f, if_neg hl0, hc]; exact ⟨g, hw⟩
      | some b =>
        rw [hc] at hb
        obtain ⟨b1, b2, b3⟩ := sh_in hc
        obtain ⟨⟨q1, q2⟩, _, ⟨q3, q4⟩, _⟩ := hgr b b1
        have x5 : ¬ nI b = -1 := fun z => absurd (show nI b < 0 by rw [z]; decide) (nI_pos (by omega))
        obtain ⟨gt, hgt⟩ : ∃ gt, gt = if u b < l then u b else l := ⟨_, rfl⟩
        have hgl : gt ≤ l := by rw [hgt]; split <;> omega
        have hmin : (if nI (u b) < nI l then nI (u b) else nI l) = nI gt := by
          rw [hgt]
          by_cases z : u b < l
          · rw [if_pos z, if_pos ((nI_ltI q2 (by omega)).mpr z)]
          · rw [if_neg z, if_neg (fun w => z ((nI_ltI q2 (by omega)).mp w))]
        have g2 : vs_r n M (ax_wi (ax_wi M' (10 * n + 2005) b (nI gt)) (10 * n + 2000) 13 (nI (p b))) (px_up wn b gt) (p b) := by
          refine ⟨g.1, fun id k => ?_, fun id k z1 z2 => ?_, fun a ha => ?_, ?_⟩
          · rw [px_l_wi, px_l_wi]; exact g.2.1 id k
          · rw [px_i_wi, if_neg z2, px_i_wi, if_neg (fun w => z1 ⟨w.1, by omega⟩)]; exact g.2.2.1 id k z1 z2
          · rw [px_i_wi, if_neg (by omega), px_i_wi]
            by_cases z : a = b
            · rw [if_pos ⟨rfl, z⟩, px_up, if_pos z]
            · rw [if_neg (fun w => z w.2), px_up, if_neg z]; exact g.2.2.2.1 a ha
          · rw [px_i_wi, if_pos ⟨rfl, rfl⟩]
        have hw2 : ∀ a, a < 8 → px_up wn b gt a ≤ 20 := by
          intro a ha
          unfold px_up
          split
          · omega
          · exact hw a ha
        obtain ⟨M'', e1, e2⟩ := ih (t + 1) f _ (l - gt) _ _ (by omega) (by omega) hw2 g2
        have hs : sh_f u p td (k + 1) l wn kp = sh_f u p td k (l - gt) (px_up wn b gt) (p b) := by simp only [sh_f, if_neg hl0, hc, ← hgt]
        rw [hs]
        refine ⟨M'', ?_, e2⟩
        rw [← e1]
        show G_V_shareUnits_7 (F_V_shareUnits_7 (f + k + 1)) M' _ _ _ = _
        have hw1 : px_W nq nu (ax_wi M' (10 * n + 2005) b (nI gt)).2.2 := h'
        have q3' : ax_i (ax_wi M' (10 * n + 2005) b (nI gt)) (10 * n + 2004) b = nI (p b) := by rw [px_i_wi, if_neg (by omega)]; exact q3
        simp only [G_V_shareUnits_7, if_neg x3, x4, if_neg hl0, e_A_ob nq nu h' hn, Option.bind_some, hb, gr_ob, if_neg x5, e_A_r8 nq nu h' hn, e_A_rd3 nq nu h' hn b1, q1, hmin, e_A_r10 nq nu h' hn, e_A_wr5 nq nu h' hn b1, e_A_r9 nq nu hw1 hn, e_A_rd4 nq nu hw1 hn b1, q3', e_A_pi nq nu hw1 hn, pk_sub hgl, nI_1]
/-- all of it: funds F, aside A, pot P, won wn, the price kp -/
def ve_r (n : Nat) (M M' : ax_M) (F A : Nat → Int64) (P : Int64) (wn : Nat → Nat) (kp : Nat) : Prop := M'.2.2 = M.2.2 ∧ (∀ id k, ¬ (id = 10 * n + 2005 ∧ k < 8) → ¬ (id = 10 * n + 2000 ∧ k = 13) → ax_i M' id k = ax_i M id k) ∧ (∀ id k, ¬ (id = 2 ∧ k < 8) → ¬ (id = 3 ∧ k < 8) → ¬ (id = 0 ∧ k = 1) → ax_l M' id k = ax_l M id k) ∧ (∀ a, a < 8 → ax_l M' 2 a = F a) ∧ (∀ a, a < 8 → ax_l M' 3 a = A a) ∧ ax_l M' 0 1 = P ∧ (∀ a, a < 8 → ax_i M' (10 * n + 2005) a = nI (wn a)) ∧ ax_i M' (10 * n + 2000) 13 = nI kp
theorem ve_mk {M0 M1 M2 M3 : ax_M} {F A F1 A1 : Nat → Int64} {P P1 : Int64} {wn : Nat → Nat} {kp : Nat} (g1 : mo_r 2 3 0 1 M0 M1 F A P) (g2 : vs_r n M1 M2 wn kp) (g3 : mo_r 2 3 0 1 M2 M3 F1 A1 P1) : ve_r n M0 M3 F1 A1 P1 wn kp := by
  refine ⟨g3.1.trans (g2.1.trans g1.1), fun id k z1 z2 => ?_, fun id k z1 z2 z3 => ?_, g3.2.2.2.1, g3.2.2.2.2.1, g3.2.2.2.2.2, fun a ha => ?_, ?_⟩
  · rw [g3.2.1, g2.2.2.1 id k z1 z2, g1.2.1]
  · rw [g3.2.2.1 id k z1 z2 z3, g2.2.1, g1.2.2.1 id k z1 z2 z3]
  · rw [g3.2.1]; exact g2.2.2.2.1 a ha
  · rw [g3.2.1]; exact g2.2.2.2.2
/-- the price at the end -/
def ve_kp (u p td : Nat → Nat) (kd le : Nat) (s : (Nat → Nat) × Nat) : Nat := if kd = 2 ∧ s.2 ≠ 0 then (match gr_f (gr_ca u s.1) p td 8 0 none with
  | none => le
  | some c => p c) else s.2
theorem V_endAuction {kd un le sh en kp : Nat} {wn : Nat → Nat} (h : px_W nq nu M.2.2) (hn : n < nu) (h1 : ∀ a, a < 8 → (ax_i M (10 * n + 2003) a = nI (u a) ∧ u a < 2 ^ 31) ∧ (ax_i M (10 * n + 2004) a = nI (p a) ∧ p a < 2 ^ 31) ∧ (ax_i M (10 * n + 2001) a = nI (td a) ∧ td a < 2 ^ 31)) (h2 : ∀ a, a < 8 → ax_i M (10 * n + 2005) a = nI (wn a) ∧ wn a ≤ 20)
  (k5 : kd < 5) (k3 : kd ≠ 3) (hkd : ax_i M (10 * n + 2000) 0 = nI kd) (hun : ax_i M (10 * n + 2000) 1 = nI un) (hun2 : un ≤ 20) (hle : ax_i M (10 * n + 2000) 2 = nI le) (hle2 : le < 2 ^ 31) (hsh : ax_i M (10 * n + 2000) 4 = nI sh) (hen : ax_i M (10 * n + 2000) 5 = nI en) (hen2 : en < 2 ^ 31) (a8 : en = if kd = 1 ∨ kd = 2 then sh + 5 else sh) (hkp : ax_i M (10 * n + 2000) 13 = nI kp) (hs2 : (sh_f u p td 8 un wn kp).2 < 2 ^ 31)
  {uo cs pd : Nat → Int64} (huo : ∀ a, uo a = if (kd = 1 ∨ kd = 2) ∧ td a ≠ 0 ∧ p a = 0 then lN le else 0) (hcs : ∀ a, cs a = (nI (u a)).toInt64 * (nI (p a)).toInt64) (hpd : ∀ a, pd a = (nI ((sh_f u p td 8 un wn kp).1 a)).toInt64 * (nI (ve_kp u p td kd le (sh_f u p td 8 un wn kp))).toInt64) :
  ∃ M', f_V_endAuction M (some 0) (some (10 * n + 2000)) = some M' ∧ ve_r n M M' (fun a => ax_l M 2 a + (cs a - pd a)) (fun a => ax_l M 3 a - uo a - pd a - (cs a - pd a)) (ax_l M 0 1 + px_sl uo 8 + px_sl pd 8) (sh_f u p td 8 un wn kp).1 (ve_kp u p td kd le (sh_f u p td 8 un wn kp)) := by
  have sl := A_isSealed_k nq nu h hn hsh hen a8 hen2
  have k3' : ¬ nI kd = 3 := fun z => k3 ((nI_eq (b := 3) (by omega) (by decide)).mp z)
  have k2' : nI kd = 2 ↔ kd = 2 := nI_eq (b := 2) (by omega) (by decide)
  -- the marks
  obtain ⟨M1, e1, g1⟩ : ∃ M1, f_V_endAuction M (some 0) (some (10 * n + 2000)) = G_V_endAuction_21 M1 (some 0) (some (10 * n + 2000)) ∧ mo_r 2 3 0 1 M M1 (ax_l M 2) (fun a => ax_l M 3 a - uo a) (ax_l M 0 1 + px_sl uo 8) := by
    by_cases k12 : kd = 1 ∨ kd = 2
    · rw [if_pos k12] at sl
      have g0 : mo_r 2 3 0 1 M M (ax_l M 2) (px_cut 0 (fun a => ax_l M 3 a - uo a) (ax_l M 3)) (ax_l M 0 1 + px_sl uo 0) := mo_r.refl.cg (fun _ _ => rfl) (fun a _ => px_cut_0 a) (by rw [px_sl, Int64.add_zero])
      obtain ⟨M1, e1, e2⟩ := V_payUnopened_l h hn (fun a ha => ⟨(h1 a ha).2.2.1, (h1 a ha).2.2.2, (h1 a ha).2.1.1, (h1 a ha).2.1.2⟩) hle hle2 (un := uo) (fun a => by rw [huo]; simp only [k12, true_and]) 8 0 55 M rfl g0
      refine ⟨M1, ?_, e2⟩
      have e1' : f_V_payUnopened M (some 0) (some (10 * n + 2000)) = some M1 := e1
      simp only [f_V_endAuction, e_A_gi nq nu h hn, Option.bind_some, hkd, if_neg k3', e_A_ob nq nu h hn, sl, e_V_ob nq nu h, e1', if_neg (show ¬ (1 : Int32) = 0 by decide)]
    · rw [if_neg k12] at sl
      have z : ∀ a, uo a = 0 := fun a => by rw [huo, if_neg (fun w => k12 w.1)]
      refine ⟨M, ?_, mo_r.refl.cg (fun _ _ => rfl) (fun a _ => by rw [z, Int64.sub_zero]) (by rw [px_sl_0 8 (fun a _ => z a), Int64.add_zero])⟩
      simp only [f_V_endAuction, e_A_gi nq nu h hn, Option.bind_some, hkd, if_neg k3', e_A_ob nq nu h hn, sl, if_true]
  have hW1 := g1.W h
  -- the units
  have h1' : ∀ a, a < 8 → (ax_i M1 (10 * n + 2003) a = nI (u a) ∧ u a < 2 ^ 31) ∧ (ax_i M1 (10 * n + 2004) a = nI (p a) ∧ p a < 2 ^ 31) ∧ (ax_i M1 (10 * n + 2001) a = nI (td a) ∧ td a < 2 ^ 31) := by
    intro a ha
    rw [g1.2.1, g1.2.1, g1.2.1]; exact h1 a ha
  have g0 : vs_r n M1 M1 wn kp := ⟨rfl, fun _ _ => rfl, fun _ _ _ _ => rfl, fun a ha => by rw [g1.2.1]; exact (h2 a ha).1, by rw [g1.2.1]; exact hkp⟩
  obtain ⟨M2, e2, g2, hw2⟩ := V_share_l hW1 hn h1' 8 0 55 M1 un wn kp rfl hun2 (fun a ha => (h2 a ha).2) g0
  obtain ⟨s, hs⟩ : ∃ s, s = sh_f u p td 8 un wn kp := ⟨_, rfl⟩
  simp only [← hs] at hs2 hpd g2 hw2 ⊢
  have hW2 : px_W nq nu M2.2.2 := by rw [g2.1]; exact hW1
  have e2' : f_V_shareUnits M1 (some (10 * n + 2000)) = some M2 := by
    simp only [f_V_shareUnits, e_A_gi nq nu hW1 hn, Option.bind_some, g1.2.1, hun]
    exact e2
  -- the second price
  obtain ⟨M3, e3, g3⟩ : ∃ M3, G_V_endAuction_21 M1 (some 0) (some (10 * n + 2000)) = G_V_endAuction_67 M3 (some 0) (some (10 * n + 2000)) ∧ vs_r n M1 M3 s.1 (ve_kp u p td kd le s) := by
    have hk0 : ax_i M2 (10 * n + 2000) 0 = nI kd := by rw [g2.2.2.1 _ _ (by omega) (by omega), g1.2.1]; exact hkd
    have hk2 : ax_i M2 (10 * n + 2000) 2 = nI le := by rw [g2.2.2.1 _ _ (by omega) (by omega), g1.2.1]; exact hle
    have hk13 := g2.2.2.2.2
    have s20 : nI s.2 = 0 ↔ s.2 = 0 := nI_eq (b := 0) (by omega) (by decide)
    by_cases c1 : kd = 2
    · by_cases c2 : s.2 = 0
      · refine ⟨M2, ?_, ?_⟩
        · simp only [G_V_endAuction_21, e2', Option.bind_some, e_A_gi nq nu hW2 hn, hk0, k2', if_pos c1, hk13, s20, if_pos c2]
        · rw [ve_kp, if_neg (fun w => w.2 c2)]; exact g2
      · have hb := A_bestWithout hW2 hn (vs_gr hw2 h1' g2)
        have gg : ∀ v : Nat, vs_r n M1 (ax_wi M2 (10 * n + 2000) 13 (nI v)) s.1 v := by
          intro v
          refine ⟨g2.1, fun id k => ?_, fun id k z1 z2 => ?_, fun a ha => ?_, ?_⟩
          · rw [px_l_wi]; exact g2.2.1 id k
          · rw [px_i_wi, if_neg z2]; exact g2.2.2.1 id k z1 z2
          · rw [px_i_wi, if_neg (by omega)]; exact g2.2.2.2.1 a ha
          · rw [px_i_wi, if_pos ⟨rfl, rfl⟩]
        cases hc : gr_f (gr_ca u s.1) p td 8 0 none with
        | none =>
          rw [hc] at hb
          refine ⟨ax_wi M2 (10 * n + 2000) 13 (nI le), ?_, ?_⟩
          · simp only [G_V_endAuction_21, G_V_endAuction_64, e2', Option.bind_some, e_A_gi nq nu hW2 hn, hk0, k2', if_pos c1, hk13, s20, if_neg c2, e_A_ob nq nu hW2 hn, hb, gr_ob, if_true, hk2, e_A_pi nq nu hW2 hn]
          · rw [ve_kp, if_pos ⟨c1, c2⟩, hc]; exact gg le
        | some c =>
          rw [hc] at hb
          obtain ⟨b1, _⟩ := sh_in hc
          have x5 : ¬ nI c = -1 := fun z => absurd (show nI c < 0 by rw [z]; decide) (nI_pos (by omega))
          have hpc : ax_i M2 (10 * n + 2004) c = nI (p c) := by rw [g2.2.2.1 _ _ (by omega) (by omega)]; exact (h1' c b1).2.1.1
          refine ⟨ax_wi M2 (10 * n + 2000) 13 (nI (p c)), ?_, ?_⟩
          · simp only [G_V_endAuction_21, G_V_endAuction_64, e2', Option.bind_some, e_A_gi nq nu hW2 hn, hk0, k2', if_pos c1, hk13, s20, if_neg c2, e_A_ob nq nu hW2 hn, hb, gr_ob, if_neg x5, e_A_r9 nq nu hW2 hn, e_A_rd4 nq nu hW2 hn b1, hpc, e_A_pi nq nu hW2 hn]
          · rw [ve_kp, if_pos ⟨c1, c2⟩, hc]; exact gg (p c)
    · refine ⟨M2, ?_, ?_⟩
      · simp only [G_V_endAuction_21, e2', Option.bind_some, e_A_gi nq nu hW2 hn, hk0, k2', if_neg c1]
      · rw [ve_kp, if_neg (fun w => c1 w.1)]; exact g2
  have hW3 : px_W nq nu M3.2.2 := by rw [g3.1]; exact hW1
  -- the bids
  have g30 : mo_r 2 3 0 1 M3 M3 (px_cut 0 (fun a => ax_l M 2 a + (cs a - pd a)) (ax_l M 2)) (px_cut 0 (fun a => ax_l M 3 a - uo a - pd a - (cs a - pd a)) (fun a => ax_l M 3 a - uo a)) (ax_l M 0 1 + px_sl uo 8 + px_sl pd 0) :=
    mo_r.refl.cg (fun a ha => by rw [g3.2.1, g1.2.2.2.1 a ha]; exact px_cut_0 a) (fun a ha => by rw [g3.2.1, g1.2.2.2.2.1 a ha]; exact px_cut_0 (g := fun a => ax_l M 3 a - uo a) a) (by rw [px_sl, Int64.add_zero, g3.2.1, g1.2.2.2.2.2])
  obtain ⟨M4, e4, g4⟩ := V_settle_l (P := ax_l M 0 1 + px_sl uo 8) hW3 hn (u := u) (p := p) (wn := s.1) (kp := ve_kp u p td kd le s) (fun a ha => ⟨by rw [g3.2.2.1 _ _ (by omega) (by omega)]; exact (h1' a ha).1.1, by rw [g3.2.2.1 _ _ (by omega) (by omega)]; exact (h1' a ha).2.1.1, g3.2.2.2.1 a ha⟩) g3.2.2.2.2 hcs hpd 8 0 55 M3 rfl g30
  refine ⟨M4, ?_, ve_mk g1 g3 g4⟩
  have e4' : f_V_settleBids M3 (some 0) (some (10 * n + 2000)) = some M4 := e4
  rw [e1, e3]
  simp only [G_V_endAuction_67, e_V_ob nq nu hW3, e4', Option.bind_some]
end
