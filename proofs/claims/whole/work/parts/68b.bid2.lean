/-! reads behind a bid -/
theorem i64_3 (x c : Int64) : x - -c = x + c := by grind
theorem i64_4 (x c : Int64) : x + -c = x - c := by grind
theorem i64_z (x : Int32) : (0 : Int32).toInt64 * x.toInt64 = 0 := by
  rw [show (0 : Int32).toInt64 = 0 from rfl]; exact Int64.zero_mul
def S_bv (n id : Nat) : Prop := id = 2 ∨ id = 3 ∨ id = 0 ∨ (10 * n + 2000 ≤ id ∧ id ≤ 10 * n + 2005)
section
variable {M : ax_M} {n j : Nat} {c : Int64} {U P t : Int32}
theorem vbd_i (id k : Nat) : ax_i (vb_drop M n j c) id k = if (id = 10 * n + 2003 ∨ id = 10 * n + 2004) ∧ k = j then 0 else ax_i M id k := by
  simp only [vb_drop, px_i_wi, px_l_wi, px_r_wi, px_s_wi, px_i_wl, px_l_wl, px_r_wl, px_s_wl, px_i_wc, px_l_wc, px_r_wc, px_s_wc]
  by_cases e : k = j
  · by_cases e1 : id = 10 * n + 2003
    · simp [e, e1]
    · by_cases e2 : id = 10 * n + 2004
      · simp [e, e2]
      · simp [e1, e2]
  · simp [e]
theorem vbd_l (id k : Nat) : ax_l (vb_drop M n j c) id k = if id = 2 ∧ k = j then ax_l M 2 j + c else if id = 3 ∧ k = j then ax_l M 3 j - c else ax_l M id k := by
  simp only [vb_drop, px_i_wi, px_l_wi, px_r_wi, px_s_wi, px_i_wl, px_l_wl, px_r_wl, px_s_wl, px_i_wc, px_l_wc, px_r_wc, px_s_wc]
theorem vbp_i (id k : Nat) : ax_i (vb_put M n j c U P t) id k = if id = 10 * n + 2004 ∧ k = j then P else if id = 10 * n + 2003 ∧ k = j then U else if id = 10 * n + 2001 ∧ k = j then t else if id = 10 * n + 2000 ∧ k = 11 then t else ax_i M id k := by
  simp only [vb_put, vb_drop, px_i_wi, px_l_wi, px_r_wi, px_s_wi, px_i_wl, px_l_wl, px_r_wl, px_s_wl, px_i_wc, px_l_wc, px_r_wc, px_s_wc]
  by_cases e : k = j
  · by_cases e1 : id = 10 * n + 2003
    · simp [e, e1]
    · by_cases e2 : id = 10 * n + 2004
      · simp [e, e2]
      · simp [e1, e2]
  · simp [e]
theorem vbp_l (id k : Nat) : ax_l (vb_put M n j c U P t) id k = if id = 3 ∧ k = j then ax_l M 3 j - c + U.toInt64 * P.toInt64 else if id = 2 ∧ k = j then ax_l M 2 j + c - U.toInt64 * P.toInt64 else ax_l M id k := by
  simp only [vb_put, vb_drop, px_i_wi, px_l_wi, px_r_wi, px_s_wi, px_i_wl, px_l_wl, px_r_wl, px_s_wl, px_i_wc, px_l_wc, px_r_wc, px_s_wc]
  by_cases e : k = j
  · by_cases e1 : id = 3
    · simp [e, e1]
    · by_cases e2 : id = 2
      · simp [e, e2]
      · simp [e1, e2]
  · simp [e]
theorem mbd_i (id k : Nat) : ax_i (mb_drop M n j c) id k = if id = 129 ∧ k = 8 * n + j then 0 else ax_i M id k := by
  simp only [mb_drop, px_i_wi, px_l_wi, px_r_wi, px_s_wi, px_i_wl, px_l_wl, px_r_wl, px_s_wl, px_i_wc, px_l_wc, px_r_wc, px_s_wc]
theorem mbd_l (id k : Nat) : ax_l (mb_drop M n j c) id k = if id = 102 ∧ k = j then ax_l M 102 j + c else if id = 103 ∧ k = j then ax_l M 103 j - c else ax_l M id k := by
  simp only [mb_drop, px_i_wi, px_l_wi, px_r_wi, px_s_wi, px_i_wl, px_l_wl, px_r_wl, px_s_wl, px_i_wc, px_l_wc, px_r_wc, px_s_wc, i64_3, i64_4]
theorem mbp_i (id k : Nat) : ax_i (mb_put M n j c U P t) id k = if id = 100 ∧ k = 26 then t + 1 else if id = 132 ∧ k = 8 * n + j then t else if id = 131 ∧ k = 8 * n + j then P else if id = 130 ∧ k = 8 * n + j then U else if id = 129 ∧ k = 8 * n + j then 1 else ax_i M id k := by
  simp only [mb_put, px_i_wi, px_l_wi, px_r_wi, px_s_wi, px_i_wl, px_l_wl, px_r_wl, px_s_wl, px_i_wc, px_l_wc, px_r_wc, px_s_wc]
theorem mbp_l (id k : Nat) : ax_l (mb_put M n j c U P t) id k = if id = 102 ∧ k = j then ax_l M 102 j + c - U.toInt64 * P.toInt64 else if id = 103 ∧ k = j then ax_l M 103 j - c + U.toInt64 * P.toInt64 else ax_l M id k := by
  simp only [mb_put, px_i_wi, px_l_wi, px_r_wi, px_s_wi, px_i_wl, px_l_wl, px_r_wl, px_s_wl, px_i_wc, px_l_wc, px_r_wc, px_s_wc, i64_3, i64_4]
  by_cases e : k = j
  · by_cases e1 : id = 103
    · simp [e, e1]
    · by_cases e2 : id = 102
      · simp [e, e2]
      · simp [e1, e2]
  · simp [e]
theorem vbd_fr : px_fr (S_bid n) M (vb_drop M n j c) := by
  unfold vb_drop
  repeat' (first | with_reducible exact px_fr.refl _ _ | with_reducible refine px_fr.wi ?_ ?_ | with_reducible refine px_fr.wl ?_ ?_)
  all_goals (unfold S_bid; omega)
theorem vbp_fr : px_fr (S_bid n) M (vb_put M n j c U P t) := by
  unfold vb_put vb_drop
  repeat' (first | with_reducible exact px_fr.refl _ _ | with_reducible refine px_fr.wi ?_ ?_ | with_reducible refine px_fr.wl ?_ ?_)
  all_goals (unfold S_bid; omega)
theorem mbd_fr (hj : j < 8) : px_fr (S_bid n) M (mb_drop M n j c) := by
  unfold mb_drop
  repeat' (first | with_reducible exact px_fr.refl _ _ | with_reducible refine px_fr.wi ?_ ?_ | with_reducible refine px_fr.wl ?_ ?_)
  all_goals (unfold S_bid; omega)
theorem mbp_fr (hj : j < 8) : px_fr (S_bid n) M (mb_put M n j c U P t) := by
  unfold mb_put
  repeat' (first | with_reducible exact px_fr.refl _ _ | with_reducible refine px_fr.wi ?_ ?_ | with_reducible refine px_fr.wl ?_ ?_)
  all_goals (unfold S_bid; omega)
theorem vld_fr (v : Int32) {k : Nat} (hk : 11 ≤ k ∧ k ≤ 13) : px_fr (S_bid n) M (ax_wi M (10 * n + 2000) k v) := (px_fr.refl _ _).wi (by unfold S_bid; omega)
theorem vbd_bv : px_fr (fun id _ => S_bv n id) M (vb_drop M n j c) := by
  unfold vb_drop
  repeat' (first | with_reducible exact px_fr.refl _ _ | with_reducible refine px_fr.wi ?_ ?_ | with_reducible refine px_fr.wl ?_ ?_)
  all_goals (show S_bv _ _; unfold S_bv; omega)
theorem vbp_bv : px_fr (fun id _ => S_bv n id) M (vb_put M n j c U P t) := by
  unfold vb_put vb_drop
  repeat' (first | with_reducible exact px_fr.refl _ _ | with_reducible refine px_fr.wi ?_ ?_ | with_reducible refine px_fr.wl ?_ ?_)
  all_goals (show S_bv _ _; unfold S_bv; omega)
theorem vld_bv (v : Int32) (k : Nat) : px_fr (fun id _ => S_bv n id) M (ax_wi M (10 * n + 2000) k v) := (px_fr.refl _ _).wi (by show S_bv _ _; unfold S_bv; omega)
end
def vb_ld (M : ax_M) (n j P : Nat) : ax_M := ax_wi (ax_wi M (10 * n + 2000) 12 (nI j)) (10 * n + 2000) 13 (nI P)
theorem vld_i {M : ax_M} {n j P : Nat} (id k : Nat) : ax_i (vb_ld M n j P) id k = if id = 10 * n + 2000 ∧ k = 13 then nI P else if id = 10 * n + 2000 ∧ k = 12 then nI j else ax_i M id k := by
  simp only [vb_ld, px_i_wi, px_l_wi, px_r_wi, px_s_wi, px_i_wl, px_l_wl, px_r_wl, px_s_wl, px_i_wc, px_l_wc, px_r_wc, px_s_wc]
theorem vld_l {M : ax_M} {n j P : Nat} (id k : Nat) : ax_l (vb_ld M n j P) id k = ax_l M id k := by
  simp only [vb_ld, px_i_wi, px_l_wi, px_r_wi, px_s_wi, px_i_wl, px_l_wl, px_r_wl, px_s_wl, px_i_wc, px_l_wc, px_r_wc, px_s_wc]
section
variable {T na nq nu hh mt n j U P kd un le sp sh en tl kp : Nat} {M : ax_M} {td bw u p wn : Nat → Nat} {is : Nat → Bool} {c cb : Int64}
theorem bid_f4 (hT : T < 1000) (hg : sm_g T na nq nu hh mt M) (hc : ∀ a, a < 8 → sm_c na M a) (hq : ∀ n, n < nq → sm_q na M n) (ha : ∀ n, n < nu → sm_a T na hh mt M n) (hn : n < nu) (hj : j < na)
  (h1 : sm_an T hh M n kd un le sp sh en tl kp) (h2 : ∀ a, a < 8 → sm_ab na mt M n kd un le tl a (td a) (bw a) (u a) (p a) (wn a) (is a)) (h3 : ∀ a b, a < 8 → b < 8 → is a = true → is b = true → (td a < td b ↔ bw a < bw b)) (h4 : sm_al na hh M n kd en kp u p wn) (k4 : kd = 4)
  (hU : 1 ≤ U ∧ U ≤ un) (hP : le ≤ P ∧ P ≤ 1000000) : Sim (T + 1) (mb_put (vb_put M n j c (nI U) (nI P) (nI (tl + 1))) n j c (nI U) (nI P) (nI mt)) := by
  have hj8 : j < 8 := Nat.lt_of_lt_of_le hj hg.2.1
  have hmt : nI mt + 1 = nI (mt + 1) := nI_1 mt
  have b14 : ax_i M (10 * n + 2000) 13 = nI kp := h1.2.2.2.2.2.2.2.2.2.2.2.2.2.2.2.2.2.2.2.2.2.2.2.2.1
  refine bid_end (D := fun _ => false) hT hg hc hq ha hn hj h1 h2 h3 h4 (Or.inr k4) hU hP (fun z => absurd (k4.symm.trans z) (by decide)) (vbp_fr.trans (mbp_fr hj8)) ?_ ?_ ?_ (fun z => absurd (k4.symm.trans z) (by decide)) (fun z => ?_) ⟨?_, ?_, ?_, ?_, ?_, ?_, ?_⟩ ?_
  · intro a ha8
    by_cases e : a = j
    · subst e
      obtain ⟨_, y1, y2, _⟩ := (hc a ha8).1 hj
      exact ⟨fun z => by simp [mbp_l, vbp_l, y1, y2], fun z => absurd hj (by omega)⟩
    · refine ⟨fun z => ?_, fun z => by simp [mbp_l, vbp_l, e]⟩
      obtain ⟨_, y1, y2, _⟩ := (hc a ha8).1 z
      simp [mbp_l, vbp_l, e, y1, y2]
  all_goals try simp [mbp_i, vbp_i, hmt, b14]
  intro a ha8 e
  simp [e]
theorem bid_f0n (hT : T < 1000) (hg : sm_g T na nq nu hh mt M) (hc : ∀ a, a < 8 → sm_c na M a) (hq : ∀ n, n < nq → sm_q na M n) (ha : ∀ n, n < nu → sm_a T na hh mt M n) (hn : n < nu) (hj : j < na)
  (h1 : sm_an T hh M n kd un le sp sh en tl kp) (h2 : ∀ a, a < 8 → sm_ab na mt M n kd un le tl a (td a) (bw a) (u a) (p a) (wn a) (is a)) (h3 : ∀ a b, a < 8 → b < 8 → is a = true → is b = true → (td a < td b ↔ bw a < bw b)) (h4 : sm_al na hh M n kd en kp u p wn) (k0 : kd = 0) (hz : ∀ a, a < 8 → u a = 0)
  (hU : 1 ≤ U ∧ U ≤ un) (hP : le ≤ P ∧ P ≤ 1000000) : Sim (T + 1) (mb_put (vb_put (vb_ld M n j P) n j c (nI U) (nI P) (nI (tl + 1))) n j c (nI U) (nI P) (nI mt)) := by
  have hj8 : j < 8 := Nat.lt_of_lt_of_le hj hg.2.1
  have hmt : nI mt + 1 = nI (mt + 1) := nI_1 mt
  refine bid_end (D := fun _ => false) hT hg hc hq ha hn hj h1 h2 h3 h4 (Or.inl k0) hU hP (fun _ a ha8 _ _ => hz a ha8) ((((vld_fr _ (by decide)).trans (vld_fr _ (by decide))).trans vbp_fr).trans (mbp_fr hj8)) ?_ ?_ ?_ (fun _ => ⟨?_, ?_⟩) (fun z => absurd (k0.symm.trans z) (by decide)) ⟨?_, ?_, ?_, ?_, ?_, ?_, ?_⟩ ?_
  · intro a ha8
    by_cases e : a = j
    · subst e
      obtain ⟨_, y1, y2, _⟩ := (hc a ha8).1 hj
      exact ⟨fun z => by simp [mbp_l, vbp_l, vld_l, y1, y2], fun z => absurd hj (by omega)⟩
    · refine ⟨fun z => ?_, fun z => by simp [mbp_l, vbp_l, vld_l, e]⟩
      obtain ⟨_, y1, y2, _⟩ := (hc a ha8).1 z
      simp [mbp_l, vbp_l, vld_l, e, y1, y2]
  all_goals try simp [mbp_i, vbp_i, vld_i, hmt]
  intro a ha8 e
  simp [e]
theorem bid_f0s {b : Nat} (hT : T < 1000) (hg : sm_g T na nq nu hh mt M) (hc : ∀ a, a < 8 → sm_c na M a) (hq : ∀ n, n < nq → sm_q na M n) (ha : ∀ n, n < nu → sm_a T na hh mt M n) (hn : n < nu) (hj : j < na) (hb : b < na)
  (h1 : sm_an T hh M n kd un le sp sh en tl kp) (h2 : ∀ a, a < 8 → sm_ab na mt M n kd un le tl a (td a) (bw a) (u a) (p a) (wn a) (is a)) (h3 : ∀ a b, a < 8 → b < 8 → is a = true → is b = true → (td a < td b ↔ bw a < bw b)) (h4 : sm_al na hh M n kd en kp u p wn) (k0 : kd = 0) (hz : ∀ a, a < 8 → a ≠ b → u a = 0)
  (hU : 1 ≤ U ∧ U ≤ un) (hP : le ≤ P ∧ P ≤ 1000000) : Sim (T + 1) (mb_put (mb_drop (vb_put (vb_ld (vb_drop M n b cb) n j P) n j c (nI U) (nI P) (nI (tl + 1))) n b cb) n j c (nI U) (nI P) (nI mt)) := by
  have hj8 : j < 8 := Nat.lt_of_lt_of_le hj hg.2.1
  have hb8 : b < 8 := Nat.lt_of_lt_of_le hb hg.2.1
  have hmt : nI mt + 1 = nI (mt + 1) := nI_1 mt
  refine bid_end (D := fun a => decide (a = b)) hT hg hc hq ha hn hj h1 h2 h3 h4 (Or.inl k0) hU hP (fun _ a ha8 _ z => hz a ha8 (by simpa using z)) ((((vbd_fr.trans ((vld_fr _ (by decide)).trans (vld_fr _ (by decide)))).trans vbp_fr).trans (mbd_fr hb8)).trans (mbp_fr hj8)) ?_ ?_ ?_ (fun _ => ⟨?_, ?_⟩) (fun z => absurd (k0.symm.trans z) (by decide)) ⟨?_, ?_, ?_, ?_, ?_, ?_, ?_⟩ ?_
  · intro a ha8
    by_cases e : a = j
    · subst e
      obtain ⟨_, y1, y2, _⟩ := (hc a ha8).1 hj
      refine ⟨fun z => ?_, fun z => absurd hj (by omega)⟩
      by_cases e2 : a = b
      · subst e2
        simp [mbp_l, mbd_l, vbp_l, vld_l, vbd_l, y1, y2]
      · simp [mbp_l, mbd_l, vbp_l, vld_l, vbd_l, e2, y1, y2]
    · by_cases e2 : a = b
      · subst e2
        obtain ⟨_, y1, y2, _⟩ := (hc a ha8).1 hb
        exact ⟨fun z => by simp [mbp_l, mbd_l, vbp_l, vld_l, vbd_l, e, y1, y2], fun z => absurd hb (by omega)⟩
      · refine ⟨fun z => ?_, fun z => by simp [mbp_l, mbd_l, vbp_l, vld_l, vbd_l, e, e2]⟩
        obtain ⟨_, y1, y2, _⟩ := (hc a ha8).1 z
        simp [mbp_l, mbd_l, vbp_l, vld_l, vbd_l, e, e2, y1, y2]
  all_goals try simp [mbp_i, mbd_i, vbp_i, vld_i, vbd_i, hmt]
  intro a ha8 e
  simp [e]
end
