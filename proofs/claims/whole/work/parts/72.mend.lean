/-! THE REFERENCE: an auction ends -/
theorem i64_neg {p : Nat} (h : p < 2 ^ 31) : (-(nI p)).toInt64 = -(lN p) := by
  apply Int64.toInt_inj.mp
  rw [Int32.toInt_toInt64, Int32.toInt_neg, nI_toInt h, Int64.toInt_neg, lN_toInt h, Int.bmod_eq_of_le (by omega) (by omega), Int.bmod_eq_of_le (by omega) (by omega)]
theorem i64_7 (x y : Int64) : x - y = -(y - x) := by grind
theorem lN_cmp0 {m : Nat} (h : m < 2 ^ 31) : (lg_cmp (lN m) 0 ≤ 0) ↔ m = 0 := by
  rw [lg_cmp_le, show (0 : Int64) = lN 0 from rfl, lN_le h (by decide)]; omega
section
variable {nq nu n : Nat} {M : ax_M}
theorem M_setAside_n (h : px_W nq nu M.2.2) {j : Nat} (hj : j < 8) {s t : Int64} (hs : s = -t) : f_M_setAside M (some 100) (nI j) s = some (ax_wl (ax_wl M 103 j (ax_l M 103 j - t)) 102 j (ax_l M 102 j + t)) := by
  rw [M_setAside nq nu h hj, hs, i64_3, i64_4]
/-- those who are left when one price was paid -/
theorem M_end_l {na kd le : Nat} {is op : Nat → Bool} {p : Nat → Nat} {best : Option Nat} {F0 A0 F' A' uo : Nat → Int64} {P : Int64} (h : px_W nq nu M.2.2) (hn : n < 6) (h8 : na ≤ 8) (hna : ax_i M 100 3 = nI na) (hkd : ax_i M 121 n = nI kd) (k0 : kd ≠ 0) (k5 : kd < 5) (hle : ax_i M 123 n = nI le) (hle2 : le < 2 ^ 31) (hb : ∀ c, best = some c → c < 8)
  (h1 : ∀ a, a < na → ax_i M 129 (8 * n + a) = (if is a = true then 1 else 0) ∧ ax_i M 134 (8 * n + a) = (if op a = true then 1 else 0) ∧ (is a = true → op a = true → ax_i M 131 (8 * n + a) = nI (p a) ∧ p a < 2 ^ 31))
  (t1 : ∀ a, a < na → best = some a ∨ is a = false → F0 a = F' a ∧ A0 a = A' a ∧ uo a = 0)
  (t2 : ∀ a, a < na → best ≠ some a → is a = true → op a = true → F' a = F0 a + lN (p a) ∧ A' a = A0 a - lN (p a) ∧ uo a = 0)
  (t3 : ∀ a, a < na → best ≠ some a → is a = true → op a = false → F' a = F0 a ∧ A' a = A0 a - lN le ∧ uo a = lN le) :
  ∀ k a f M', a + k = na → mo_r 102 103 100 2 M M' (px_cut a F' F0) (px_cut a A' A0) (P + px_sl uo a) → ∃ M'', F_M_end_185 (f + k + 1) M' (some 100) (nI n) (gr_ob best) (nI a) = some M'' ∧ mo_r 102 103 100 2 M M'' (px_cut na F' F0) (px_cut na A' A0) (P + px_sl uo na) := by
  intro k
  induction k with
  | zero =>
    intro a f M' e g
    have : a = na := by omega
    subst this
    refine ⟨M', ?_, g⟩
    show G_M_end_185 _ M' _ _ _ _ = _
    simp only [G_M_end_185, G_M_end_270, e_M_gi nq nu (g.W h), Option.bind_some, g.2.1, hna, if_pos (Int32.le_refl _)]
  | succ k ih =>
    intro a f M' e g
    have ha : a < na := by omega
    have ha8 : a < 8 := by omega
    have h48 : 8 * n + a < 48 := by omega
    obtain ⟨q1, q2, q3⟩ := h1 a ha
    have h' := g.W h
    have x1 : ¬ nI na ≤ nI a := nI_ge ha (by omega)
    have x2 : ¬ nI kd ≤ 0 := by
      rw [show (0 : Int32) = nI 0 from rfl, nI_leI (by omega) (by decide)]; omega
    have x3 := gr_obn best ha8 hb
    cases e1 : is a
    · obtain ⟨t4, t5, t6⟩ := t1 a ha (Or.inr e1)
      obtain ⟨M'', e1', e2⟩ := ih (a + 1) f M' (by omega) (g.cg (fun b hb => px_cut_s a t4 b) (fun b hb => px_cut_s a t5 b) (by rw [px_sl, t6, Int64.add_zero]))
      refine ⟨M'', ?_, e2⟩
      rw [← e1']
      show G_M_end_185 (F_M_end_185 (f + k + 1)) M' _ _ _ _ = _
      rw [e1] at q1
      simp only [G_M_end_185, G_M_end_264, e_M_gi nq nu h', Option.bind_some, g.2.1, hna, if_neg x1, e_M_r27 nq nu h', e_M_rd121 nq nu h' hn, hkd, if_neg x2, px_8, e_M_r35 nq nu h', e_M_rd129 nq nu h' h48, q1, Bool.false_eq_true, if_false, if_true, nI_1]
    · rw [e1] at q1
      simp only [if_true] at q1
      by_cases e2 : best = some a
      · obtain ⟨t4, t5, t6⟩ := t1 a ha (Or.inl e2)
        obtain ⟨M'', e1', e2'⟩ := ih (a + 1) f M' (by omega) (g.cg (fun b hb => px_cut_s a t4 b) (fun b hb => px_cut_s a t5 b) (by rw [px_sl, t6, Int64.add_zero]))
        refine ⟨M'', ?_, e2'⟩
        rw [← e1']
        show G_M_end_185 (F_M_end_185 (f + k + 1)) M' _ _ _ _ = _
        simp only [G_M_end_185, G_M_end_264, e_M_gi nq nu h', Option.bind_some, g.2.1, hna, if_neg x1, e_M_r27 nq nu h', e_M_rd121 nq nu h' hn, hkd, if_neg x2, px_8, e_M_r35 nq nu h', e_M_rd129 nq nu h' h48, q1, if_neg (show ¬ (1 : Int32) = 0 by decide), x3, if_pos e2, nI_1]
      · cases e3 : op a
        · rw [e3] at q2
          simp only [Bool.false_eq_true, if_false] at q2
          obtain ⟨t4, t5, t6⟩ := t3 a ha e2 e1 e3
          obtain ⟨M'', e1', e2'⟩ := ih (a + 1) f _ (by omega) ((g.pay (by decide) (by decide) (by decide) ha8 (lN le)).cg (fun b hb => px_cut_s a t4.symm b) (fun b hb => px_cut_up a _ (by rw [px_cut_k, t5]) b) (by rw [px_sl, t6, i64_5]))
          refine ⟨M'', ?_, e2'⟩
          rw [← e1']
          show G_M_end_185 (F_M_end_185 (f + k + 1)) M' _ _ _ _ = _
          simp only [G_M_end_185, G_M_end_264, e_M_gi nq nu h', Option.bind_some, g.2.1, hna, if_neg x1, e_M_r27 nq nu h', e_M_rd121 nq nu h' hn, hkd, if_neg x2, px_8, e_M_r35 nq nu h', e_M_rd129 nq nu h' h48, q1, if_neg (show ¬ (1 : Int32) = 0 by decide), x3, if_neg e2, e_M_r40 nq nu h', e_M_rd134 nq nu h' h48, q2, if_true, e_M_r29 nq nu h', e_M_rd123 nq nu h' hn, hle, nI_l hle2, e_M_ob nq nu h', M_pay nq nu h' ha8, nI_1]
        · rw [e3] at q2
          simp only [if_true] at q2
          obtain ⟨q4, q5⟩ := q3 e1 e3
          obtain ⟨t4, t5, t6⟩ := t2 a ha e2 e1 e3
          obtain ⟨M'', e1', e2'⟩ := ih (a + 1) f _ (by omega) ((g.give (by decide) (by decide) (by decide) ha8 (lN (p a)) (lN (p a))).cg (fun b hb => px_cut_up a _ (by rw [px_cut_k, t4]) b) (fun b hb => px_cut_up a _ (by rw [px_cut_k, t5]) b) (by rw [px_sl, t6, Int64.add_zero]))
          refine ⟨M'', ?_, e2'⟩
          rw [← e1']
          show G_M_end_185 (F_M_end_185 (f + k + 1)) M' _ _ _ _ = _
          simp only [G_M_end_185, G_M_end_264, e_M_gi nq nu h', Option.bind_some, g.2.1, hna, if_neg x1, e_M_r27 nq nu h', e_M_rd121 nq nu h' hn, hkd, if_neg x2, px_8, e_M_r35 nq nu h', e_M_rd129 nq nu h' h48, q1, if_neg (show ¬ (1 : Int32) = 0 by decide), x3, if_neg e2, e_M_r40 nq nu h', e_M_rd134 nq nu h' h48, q2, e_M_r37 nq nu h', e_M_rd131 nq nu h' h48, q4, e_M_ob nq nu h', M_setAside_n h' ha8 (i64_neg q5), nI_1]
/-- all bids of many units -/
theorem M_units_l {na kp : Nat} {is : Nat → Bool} {u p wn : Nat → Nat} {F A cs pd : Nat → Int64} {P : Int64} (h : px_W nq nu M.2.2) (hn : n < 6) (h8 : na ≤ 8) (hna : ax_i M 100 3 = nI na) (hap : ax_l M 127 n = if kp = 0 then -3 else lN kp) (hkp : kp ≤ 1000000) (hkw : kp = 0 → ∀ a, a < 8 → wn a = 0)
  (h1 : ∀ a, a < na → ax_i M 129 (8 * n + a) = (if is a = true then 1 else 0) ∧ (ax_i M 135 (8 * n + a) = nI (wn a) ∧ wn a ≤ 20) ∧ (is a = true → ax_i M 130 (8 * n + a) = nI (u a) ∧ ax_i M 131 (8 * n + a) = nI (p a)) ∧ (is a = false → u a = 0 ∧ wn a = 0))
  (hcs : ∀ a, cs a = (nI (u a)).toInt64 * (nI (p a)).toInt64) (hpd : ∀ a, pd a = (nI (wn a)).toInt64 * (nI kp).toInt64) :
  ∀ k a f M', a + k = na → mo_r 102 103 100 2 M M' (px_cut a (fun a => F a + (cs a - pd a)) F) (px_cut a (fun a => A a - pd a - (cs a - pd a)) A) (P + px_sl pd a) → ∃ M'', F_M_endUnits_96 (f + k + 1) M' (some 100) (nI n) (nI a) = some M'' ∧ mo_r 102 103 100 2 M M'' (px_cut na (fun a => F a + (cs a - pd a)) F) (px_cut na (fun a => A a - pd a - (cs a - pd a)) A) (P + px_sl pd na) := by
  intro k
  induction k with
  | zero =>
    intro a f M' e g
    have : a = na := by omega
    subst this
    refine ⟨M', ?_, g⟩
    show G_M_endUnits_96 _ M' _ _ _ = _
    simp only [G_M_endUnits_96, e_M_gi nq nu (g.W h), Option.bind_some, g.2.1, hna, if_pos (Int32.le_refl _)]
  | succ k ih =>
    intro a f M' e g
    have ha : a < na := by omega
    have ha8 : a < 8 := by omega
    have h48 : 8 * n + a < 48 := by omega
    obtain ⟨q1, ⟨q2, q3⟩, q4, q5⟩ := h1 a ha
    have h' := g.W h
    have x1 : ¬ nI na ≤ nI a := nI_ge ha (by omega)
    cases e1 : is a
    · obtain ⟨z1, z2⟩ := q5 e1
      have c0 : cs a = 0 := by rw [hcs, z1, nI_0, i64_z]
      have p0 : pd a = 0 := by rw [hpd, z2, nI_0, i64_z]
      obtain ⟨M'', e1', e2⟩ := ih (a + 1) f M' (by omega) (g.cg (fun b hb => px_cut_s a (by simp [c0, p0]) b) (fun b hb => px_cut_s a (by simp [c0, p0]) b) (by rw [px_sl, p0, Int64.add_zero]))
      refine ⟨M'', ?_, e2⟩
      rw [← e1']
      show G_M_endUnits_96 (F_M_endUnits_96 (f + k + 1)) M' _ _ _ = _
      rw [e1] at q1
      simp only [G_M_endUnits_96, G_M_endUnits_190, e_M_gi nq nu h', Option.bind_some, g.2.1, hna, if_neg x1, px_8, e_M_r35 nq nu h', e_M_rd129 nq nu h' h48, q1, Bool.false_eq_true, if_false, if_true, nI_1]
    · rw [e1] at q1
      simp only [if_true] at q1
      obtain ⟨z1, z2⟩ := q4 e1
      have hl : ax_l M' 127 n = ax_l M 127 n := g.2.2.1 _ _ (by omega) (by omega) (by omega)
      obtain ⟨m, hm, hpm⟩ : ∃ m, m < 2 ^ 31 ∧ pd a = lN m := by
        refine ⟨wn a * kp, ?_, ?_⟩
        · have : wn a * kp ≤ 20 * 1000000 := Nat.mul_le_mul q3 hkp
          omega
        · rw [hpd, nI_l (by omega), nI_l (by omega), lN_mul]
      have y9 : (nI (wn a)).toInt64 * ax_l M' 127 n = pd a := by
        rw [hl, hap, hpd]
        by_cases e : kp = 0
        · rw [hkw e a ha8, nI_0, i64_z, show (0 : Int32).toInt64 = 0 from rfl]; exact Int64.zero_mul
        · rw [if_neg e, nI_l (n := kp) (by omega)]
      have cc : (if ax_i M' 129 (8 * n + a) = 0 then 0 else (ax_i M' 130 (8 * n + a)).toInt64 * (ax_i M' 131 (8 * n + a)).toInt64) = cs a := by
        rw [g.2.1, g.2.1, g.2.1, q1, z1, z2, if_neg (by decide), hcs]
      have g1 := (g.pay (by decide) (by decide) (by decide) ha8 (pd a)).give (by decide) (by decide) (by decide) ha8 (cs a - pd a) (cs a - pd a)
      obtain ⟨M'', e1', e2⟩ := ih (a + 1) f _ (by omega) (g1.cg (F' := px_cut (a + 1) (fun a => F a + (cs a - pd a)) F) (A' := px_cut (a + 1) (fun a => A a - pd a - (cs a - pd a)) A) (P' := P + px_sl pd (a + 1)) (fun b hb => px_cut_up a _ (by rw [px_cut_k]) b) (fun b hb => by
        unfold px_up px_cut
        by_cases e : b = a
        · subst e
          simp
        · by_cases e2 : b < a
          · rw [if_neg e, if_neg e, if_pos e2, if_pos (by omega)]
          · rw [if_neg e, if_neg e, if_neg e2, if_neg (by omega)]) (by rw [px_sl, i64_5]))
      refine ⟨M'', ?_, e2⟩
      rw [← e1']
      show G_M_endUnits_96 (F_M_endUnits_96 (f + k + 1)) M' _ _ _ = _
      have h2 : px_W nq nu (ax_wl (ax_wl M' 103 a (ax_l M' 103 a - pd a)) 100 2 (ax_l M' 100 2 + pd a)).2.2 := h'
      have s1 : (if lg_cmp (pd a) 0 ≤ 0 then G_M_endUnits_165 (F_M_endUnits_96 (f + k + 1)) M' (some 100) (nI n) (nI a) (pd a) (cs a) 0 (nI a) (some 100) else G_M_endUnits_165 (F_M_endUnits_96 (f + k + 1)) M' (some 100) (nI n) (nI a) (pd a) (cs a) (pd a) (nI a) (some 100)) = G_M_endUnits_165 (F_M_endUnits_96 (f + k + 1)) M' (some 100) (nI n) (nI a) (pd a) (cs a) (pd a) (nI a) (some 100) := by
        rw [hpm]
        by_cases e : m = 0
        · rw [if_pos ((lN_cmp0 hm).mpr e), e]; rfl
        · rw [if_neg (fun w => e ((lN_cmp0 hm).mp w))]
      have s2 : ∀ M1, (if lg_cmp (pd a) 0 ≤ 0 then G_M_endUnits_184 (F_M_endUnits_96 (f + k + 1)) M1 (some 100) (nI n) (nI a) (cs a) 0 (nI a) (some 100) else G_M_endUnits_184 (F_M_endUnits_96 (f + k + 1)) M1 (some 100) (nI n) (nI a) (cs a) (pd a) (nI a) (some 100)) = G_M_endUnits_184 (F_M_endUnits_96 (f + k + 1)) M1 (some 100) (nI n) (nI a) (cs a) (pd a) (nI a) (some 100) := by
        intro M1
        rw [hpm]
        by_cases e : m = 0
        · rw [if_pos ((lN_cmp0 hm).mpr e), e]; rfl
        · rw [if_neg (fun w => e ((lN_cmp0 hm).mp w))]
      simp only [G_M_endUnits_96, e_M_gi nq nu h', Option.bind_some, if_neg x1, g.2.1 100 3, hna, px_8, e_M_r35 nq nu h', e_M_rd129 nq nu h' h48, g.2.1 129, q1, if_neg (show ¬ (1 : Int32) = 0 by decide), e_M_r41 nq nu h', e_M_rd135 nq nu h' h48, g.2.1 135, q2, e_M_r33 nq nu h', e_M_rd127 nq nu h' hn, y9, e_M_ob nq nu h', M_costOf nq nu h' h48]
      rw [g.2.1 130, g.2.1 131, z1, z2, ← hcs, s1]
      simp only [G_M_endUnits_165, e_M_ob nq nu h', Option.bind_some, M_pay nq nu h' ha8, s2]
      simp only [G_M_endUnits_184, G_M_endUnits_190, e_M_ob nq nu h2, Option.bind_some, M_setAside_n h2 ha8 (i64_7 (pd a) (cs a)), nI_1]
/-- how many may be chosen -/
def px_cn (f : Nat → Bool) : Nat → Nat
  | 0 => 0
  | k + 1 => px_cn f k + if f k = true then 1 else 0
theorem px_cn_le {f f' : Nat → Bool} (h : ∀ a, f' a = true → f a = true) : ∀ k, px_cn f' k ≤ px_cn f k := by
  intro k
  induction k with
  | zero => exact Nat.le_refl _
  | succ k ih =>
    simp only [px_cn]
    cases e1 : f' k
    · simp; omega
    · simp [h k e1]; omega
theorem px_cn_lt {f f' : Nat → Bool} (h : ∀ a, f' a = true → f a = true) {b : Nat} (h1 : f b = true) (h2 : f' b = false) : ∀ k, b < k → px_cn f' k < px_cn f k := by
  intro k
  induction k with
  | zero => intro z; omega
  | succ k ih =>
    intro hb
    simp only [px_cn]
    by_cases e : b = k
    · subst e
      have := px_cn_le h b
      simp [h1, h2]; omega
    · have := ih (by omega)
      cases e1 : f' k
      · simp; omega
      · simp [h k e1]; omega
theorem px_cn_8 (f : Nat → Bool) : ∀ k, px_cn f k ≤ k := by
  intro k
  induction k with
  | zero => exact Nat.le_refl _
  | succ k ih => simp only [px_cn]; split <;> omega
theorem px_cn_0 {f : Nat → Bool} {b : Nat} : ∀ k, px_cn f k = 0 → b < k → f b = false := by
  intro k
  induction k with
  | zero => intro _ h; omega
  | succ k ih =>
    intro h hb
    simp only [px_cn] at h
    by_cases e : b = k
    · subst e
      cases e1 : f b
      · rfl
      · rw [e1] at h; simp at h
    · exact ih (by omega) (by omega)
def ms_r (n : Nat) (M M' : ax_M) (wn : Nat → Nat) (kp : Nat) : Prop := M'.2.2 = M.2.2 ∧ (∀ id k, ¬ (id = 127 ∧ k = n) → ax_l M' id k = ax_l M id k) ∧ (∀ id k, ¬ (id = 135 ∧ 8 * n ≤ k ∧ k < 8 * n + 8) → ax_i M' id k = ax_i M id k) ∧ (∀ a, a < 8 → ax_i M' 135 (8 * n + a) = nI (wn a)) ∧ ax_l M' 127 n = if kp = 0 then -3 else lN kp
theorem ms_gr {na kd : Nat} {M' : ax_M} {is op : Nat → Bool} {wn0 wn p bw : Nat → Nat} {kp : Nat} (g : gr_M M n na kd is op wn0 p bw) (hw : ∀ a, a < 8 → wn a ≤ 20) (m : ms_r n M M' wn kp) : gr_M M' n na kd is op wn p bw := by
  obtain ⟨g1, g2, g3, g4, g5, g6⟩ := g
  have hi := m.2.2.1
  refine ⟨by rw [hi _ _ (by omega)]; exact g1, g2, g3, by rw [hi _ _ (by omega)]; exact g4, g5, fun a ha => ?_⟩
  obtain ⟨q1, q2, q3, q4⟩ := g6 a ha
  have := hw a (by omega)
  refine ⟨by rw [hi _ _ (by omega)]; exact q1, by rw [hi _ _ (by omega)]; exact q2, ⟨m.2.2.2.1 a (by omega), by omega⟩, ?_⟩
  rw [hi _ _ (by omega), hi _ _ (by omega)]; exact q4
theorem M_share_l {na : Nat} {is op : Nat → Bool} {u p bw td wn0 : Nat → Nat} (h : px_W nq nu M.2.2) (gM : gr_M M n na 4 is op wn0 p bw) (hu : ∀ a, a < 8 → u a ≠ 0 → ax_i M 130 (8 * n + a) = nI (u a) ∧ u a ≤ 20 ∧ ax_i M 131 (8 * n + a) = nI (p a) ∧ p a ≠ 0 ∧ p a ≤ 1000000)
  (hcd : ∀ wn, gr_f (gr_cd is op wn 4 none) p bw na 0 none = gr_f (gr_ca u wn) p td 8 0 none) : ∀ k f M' l wn kp, px_cn (gr_ca u wn) 8 ≤ k → l ≤ 20 → (∀ a, a < 8 → wn a ≤ 20) → (kp ≤ 1000000 ∧ (kp = 0 → ∀ a, a < 8 → wn a = 0) ∧ ∀ a, a < 8 → u a = 0 → wn a = 0) → ms_r n M M' wn kp → ∃ M'', F_M_endUnits_14 (f + k + 1) M' (some 100) (nI n) (nI l) (gr_ob (gr_f (gr_ca u wn) p td 8 0 none)) = G_M_endUnits_93 M'' (some 100) (nI n) ∧ ms_r n M M'' (sh_f u p td k l wn kp).1 (sh_f u p td k l wn kp).2 ∧ (∀ a, a < 8 → (sh_f u p td k l wn kp).1 a ≤ 20) ∧ ((sh_f u p td k l wn kp).2 ≤ 1000000 ∧ ((sh_f u p td k l wn kp).2 = 0 → ∀ a, a < 8 → (sh_f u p td k l wn kp).1 a = 0) ∧ ∀ a, a < 8 → u a = 0 → (sh_f u p td k l wn kp).1 a = 0) := by
  intro k
  induction k with
  | zero =>
    intro f M' l wn kp e _ hw hk g
    refine ⟨M', ?_, g, hw, hk⟩
    have : gr_f (gr_ca u wn) p td 8 0 none = none := gr_non 8 0 none (fun x _ hx => px_cn_0 8 (by omega) hx)
    rw [this]
    show G_M_endUnits_14 _ M' _ _ _ _ = _
    simp only [G_M_endUnits_14, gr_ob, show ((-1 : Int32) < 0) from by decide, if_true]
    split <;> rfl
  | succ k ih =>
    intro f M' l wn kp e hl hw hk g
    have x4 : nI l ≤ 0 ↔ l = 0 := by rw [show (0 : Int32) = nI 0 from rfl, nI_leI (by omega) (by decide)]; omega
    have h' : px_W nq nu M'.2.2 := by rw [g.1]; exact h
    have hn6 := gM.2.2.1
    by_cases hl0 : l = 0
    · refine ⟨M', ?_, ?_⟩
      · show G_M_endUnits_14 _ M' _ _ _ _ = _
        simp only [G_M_endUnits_14, x4, if_pos hl0]
      · simp only [sh_f, if_pos hl0]; exact ⟨g, hw, hk⟩
    · cases hc : gr_f (gr_ca u wn) p td 8 0 none with
      | none =>
        refine ⟨M', ?_, ?_⟩
        · show G_M_endUnits_14 _ M' _ _ _ _ = _
          simp only [G_M_endUnits_14, x4, if_neg hl0, gr_ob, show ((-1 : Int32) < 0) from by decide, if_true]
        · simp only [sh_f, if_neg hl0, hc]; exact ⟨g, hw, hk⟩
      | some b =>
        obtain ⟨b1, b2, b3⟩ := sh_in hc
        obtain ⟨q1, q2, q3, q4, q5⟩ := hu b b1 b2
        have h48 : 8 * n + b < 48 := by omega
        have x5 : ¬ nI b < 0 := nI_pos (by omega)
        obtain ⟨gt, hgt⟩ : ∃ gt, gt = if u b < l then u b else l := ⟨_, rfl⟩
        have hgl : gt ≤ l := by rw [hgt]; split <;> omega
        have hg0 : gt ≠ 0 := by rw [hgt]; split <;> omega
        have g2 : ms_r n M (ax_wl (ax_wi M' 135 (8 * n + b) (nI gt)) 127 n (lN (p b))) (px_up wn b gt) (p b) := by
          refine ⟨g.1, fun id k z => ?_, fun id k z => ?_, fun a ha => ?_, ?_⟩
          · rw [px_l_wl, if_neg z, px_l_wi]; exact g.2.1 id k z
          · rw [px_i_wl, px_i_wi, if_neg (by omega)]; exact g.2.2.1 id k z
          · rw [px_i_wl, px_i_wi]
            by_cases z : a = b
            · rw [if_pos ⟨rfl, by omega⟩, px_up, if_pos z]
            · rw [if_neg (by omega), px_up, if_neg z]; exact g.2.2.2.1 a ha
          · rw [px_l_wl, if_pos ⟨rfl, rfl⟩, if_neg q4]
        have hw2 : ∀ a, a < 8 → px_up wn b gt a ≤ 20 := by
          intro a ha
          unfold px_up
          split
          · omega
          · exact hw a ha
        have hcn : px_cn (gr_ca u (px_up wn b gt)) 8 ≤ k := by
          have := px_cn_lt (f := gr_ca u wn) (f' := gr_ca u (px_up wn b gt)) (fun a ha => by
            simp only [gr_ca, px_up] at ha ⊢
            by_cases z : a = b
            · subst z; simp [b2, b3]
            · simpa [z] using ha) (b := b) (by simp [gr_ca, b2, b3]) (by simp [gr_ca, px_up, hg0]) 8 b1
          omega
        obtain ⟨M'', e1, e2⟩ := ih f _ (l - gt) _ _ hcn (by omega) hw2 ⟨q5, fun z => absurd z q4, fun a ha z => by
          unfold px_up
          rw [if_neg (fun w => b2 (by rw [← w]; exact z))]
          exact hk.2.2 a ha z⟩ g2
        have hs : sh_f u p td (k + 1) l wn kp = sh_f u p td k (l - gt) (px_up wn b gt) (p b) := by simp only [sh_f, if_neg hl0, hc, ← hgt]
        rw [hs]
        refine ⟨M'', ?_, e2⟩
        rw [← e1]
        have hmg := M_greatest (M := ax_wl (ax_wi M' 135 (8 * n + b) (nI gt)) 127 n (lN (p b))) (by exact h') (ms_gr gM hw2 g2) none (fun c z => by cases z)
        rw [hcd] at hmg
        simp only [gr_ob] at hmg
        have q1' : ax_i M' 130 (8 * n + b) = nI (u b) := by rw [g.2.2.1 _ _ (by omega)]; exact q1
        have q3' : ax_i M' 131 (8 * n + b) = nI (p b) := by rw [g.2.2.1 _ _ (by omega)]; exact q3
        have s58 : G_M_endUnits_58 (F_M_endUnits_14 (f + k + 1)) M' (some 100) (nI n) (nI l) (nI (8 * n + b)) (nI gt) (nI (8 * n + b)) (some 135) = F_M_endUnits_14 (f + k + 1) (ax_wl (ax_wi M' 135 (8 * n + b) (nI gt)) 127 n (lN (p b))) (some 100) (nI n) (nI (l - gt)) (gr_ob (gr_f (gr_ca u (px_up wn b gt)) p td 8 0 none)) := by
          have hw1 : px_W nq nu (ax_wi M' 135 (8 * n + b) (nI gt)).2.2 := h'
          have hw3 : px_W nq nu (ax_wl (ax_wi M' 135 (8 * n + b) (nI gt)) 127 n (lN (p b))).2.2 := h'
          have r1 : ax_i (ax_wi M' 135 (8 * n + b) (nI gt)) 135 (8 * n + b) = nI gt := by rw [px_i_wi, if_pos ⟨rfl, rfl⟩]
          have r2 : ax_i (ax_wi M' 135 (8 * n + b) (nI gt)) 131 (8 * n + b) = nI (p b) := by rw [px_i_wi, if_neg (by omega)]; exact q3'
          simp only [G_M_endUnits_58, e_M_wr135 nq nu h' h48, Option.bind_some, e_M_r41 nq nu hw1, e_M_rd135 nq nu hw1 h48, r1, pk_sub hgl, e_M_r33 nq nu hw1, e_M_r37 nq nu hw1, e_M_rd131 nq nu hw1 h48, r2, nI_l (show p b < 2 ^ 31 by omega), e_M_wr127 nq nu hw1 hn6, e_M_ob nq nu hw3, hmg]
          rfl
        show G_M_endUnits_14 (F_M_endUnits_14 (f + k + 1)) M' _ _ _ _ = _
        have x6 : nI l ≤ nI (u b) ↔ l ≤ u b := nI_leI (by omega) (by omega)
        simp only [G_M_endUnits_14, x4, if_neg hl0, gr_ob, if_neg x5, Option.bind_some, px_8, e_M_r41 nq nu h', e_M_r36 nq nu h', e_M_rd130 nq nu h' h48, q1', x6]
        by_cases z : l ≤ u b
        · rw [if_pos z]
          rw [if_neg (by omega)] at hgt
          rw [hgt] at s58
          rw [hgt]; exact s58
        · rw [if_neg z]
          rw [if_pos (by omega)] at hgt
          rw [hgt] at s58
          rw [hgt]; exact s58
end
