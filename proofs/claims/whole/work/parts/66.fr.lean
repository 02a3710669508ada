/-! TWO MEMORIES THAT DIFFER AT PLACES OF S ALONE -/
def px_fr (S : Nat → Nat → Prop) (M M' : ax_M) : Prop := M'.2.2 = M.2.2 ∧ (∀ id k, ¬ S id k → ax_i M' id k = ax_i M id k) ∧ (∀ id k, ¬ S id k → ax_l M' id k = ax_l M id k)
theorem px_fr.refl (S : Nat → Nat → Prop) (M : ax_M) : px_fr S M M := ⟨rfl, fun _ _ _ => rfl, fun _ _ _ => rfl⟩
theorem px_fr.trans {S : Nat → Nat → Prop} {M M' M'' : ax_M} (f : px_fr S M M') (g : px_fr S M' M'') : px_fr S M M'' := ⟨g.1.trans f.1, fun id k z => (g.2.1 id k z).trans (f.2.1 id k z), fun id k z => (g.2.2 id k z).trans (f.2.2 id k z)⟩
theorem px_fr.mono {S S' : Nat → Nat → Prop} {M M' : ax_M} (f : px_fr S M M') (h : ∀ id k, S id k → S' id k) : px_fr S' M M' := ⟨f.1, fun id k z => f.2.1 id k (fun w => z (h id k w)), fun id k z => f.2.2 id k (fun w => z (h id k w))⟩
theorem px_fr.wi {S : Nat → Nat → Prop} {M M' : ax_M} {id k : Nat} {v : Int32} (f : px_fr S M M') (h : S id k) : px_fr S M (ax_wi M' id k v) := ⟨f.1, fun i j z => by rw [px_i_wi, if_neg (fun w => z (by rw [w.1, w.2]; exact h))]; exact f.2.1 i j z, fun i j z => by rw [px_l_wi]; exact f.2.2 i j z⟩
theorem px_fr.wl {S : Nat → Nat → Prop} {M M' : ax_M} {id k : Nat} {v : Int64} (f : px_fr S M M') (h : S id k) : px_fr S M (ax_wl M' id k v) := ⟨f.1, fun i j z => by rw [px_i_wl]; exact f.2.1 i j z, fun i j z => by rw [px_l_wl, if_neg (fun w => z (by rw [w.1, w.2]; exact h))]; exact f.2.2 i j z⟩
theorem px_fr.W {S : Nat → Nat → Prop} {M M' : ax_M} {nq nu : Nat} (f : px_fr S M M') (h : px_W nq nu M.2.2) : px_W nq nu M'.2.2 := by rw [f.1]; exact h
theorem sm_c.fr {na a : Nat} {S : Nat → Nat → Prop} {M M1 : ax_M} (f : px_fr S M M1) (g : sm_c na M a) (hr : ∀ id k, (id = 1 ∨ id = 2 ∨ id = 3 ∨ id = 4 ∨ id = 101 ∨ id = 102 ∨ id = 103 ∨ id = 104) ∧ k = a → ¬ S id k) : sm_c na M1 a := by
  have e0 : ax_i M1 1 a = ax_i M 1 a := f.2.1 _ _ (hr _ _ (by omega))
  have e1 : ax_i M1 101 a = ax_i M 101 a := f.2.1 _ _ (hr _ _ (by omega))
  have e2 : ax_l M1 2 a = ax_l M 2 a := f.2.2 _ _ (hr _ _ (by omega))
  have e3 : ax_l M1 102 a = ax_l M 102 a := f.2.2 _ _ (hr _ _ (by omega))
  have e4 : ax_l M1 3 a = ax_l M 3 a := f.2.2 _ _ (hr _ _ (by omega))
  have e5 : ax_l M1 103 a = ax_l M 103 a := f.2.2 _ _ (hr _ _ (by omega))
  have e6 : ax_i M1 104 a = ax_i M 104 a := f.2.1 _ _ (hr _ _ (by omega))
  have e7 : ax_i M1 4 a = ax_i M 4 a := f.2.1 _ _ (hr _ _ (by omega))
  unfold sm_c
  simp only [e0, e1, e2, e3, e4, e5, e6, e7]
  exact g
theorem sm_qa.fr {na kd ch n a : Nat} {S : Nat → Nat → Prop} {M M1 : ax_M} (f : px_fr S M M1) (g : sm_qa na kd ch M n a) (hr : ∀ id k, (10 * n + 1001 ≤ id ∧ id ≤ 10 * n + 1005 ∧ k = a) ∨ (115 ≤ id ∧ id ≤ 120 ∧ k = 8 * n + a) → ¬ S id k) : sm_qa na kd ch M1 n a := by
  have e0 : ax_i M1 (10 * n + 1001) a = ax_i M (10 * n + 1001) a := f.2.1 _ _ (hr _ _ (by omega))
  have e1 : ax_i M1 115 (8 * n + a) = ax_i M 115 (8 * n + a) := f.2.1 _ _ (hr _ _ (by omega))
  have e2 : ax_i M1 116 (8 * n + a) = ax_i M 116 (8 * n + a) := f.2.1 _ _ (hr _ _ (by omega))
  have e3 : ax_i M1 (10 * n + 1002) a = ax_i M (10 * n + 1002) a := f.2.1 _ _ (hr _ _ (by omega))
  have e4 : ax_i M1 117 (8 * n + a) = ax_i M 117 (8 * n + a) := f.2.1 _ _ (hr _ _ (by omega))
  have e5 : ax_i M1 (10 * n + 1003) a = ax_i M (10 * n + 1003) a := f.2.1 _ _ (hr _ _ (by omega))
  have e6 : ax_i M1 118 (8 * n + a) = ax_i M 118 (8 * n + a) := f.2.1 _ _ (hr _ _ (by omega))
  have e7 : ax_l M1 (10 * n + 1004) a = ax_l M (10 * n + 1004) a := f.2.2 _ _ (hr _ _ (by omega))
  have e8 : ax_l M1 119 (8 * n + a) = ax_l M 119 (8 * n + a) := f.2.2 _ _ (hr _ _ (by omega))
  have e9 : ax_i M1 120 (8 * n + a) = ax_i M 120 (8 * n + a) := f.2.1 _ _ (hr _ _ (by omega))
  have e10 : ax_i M1 (10 * n + 1005) a = ax_i M (10 * n + 1005) a := f.2.1 _ _ (hr _ _ (by omega))
  unfold sm_qa
  simp only [e0, e1, e2, e3, e4, e5, e6, e7, e8, e9, e10]
  exact g
theorem sm_qc.fr {na en n : Nat} {S : Nat → Nat → Prop} {M M1 : ax_M} (f : px_fr S M M1) (g : sm_qc na en M n) (hr : ∀ id k, (id = 10 * n + 1000 ∧ 10 ≤ k ∧ k ≤ 13) ∨ (110 ≤ id ∧ id ≤ 114 ∧ k = n) → ¬ S id k) : sm_qc na en M1 n := by
  have e0 : ax_i M1 (10 * n + 1000) 13 = ax_i M (10 * n + 1000) 13 := f.2.1 _ _ (hr _ _ (by omega))
  have e1 : ax_i M1 111 n = ax_i M 111 n := f.2.1 _ _ (hr _ _ (by omega))
  have e2 : ax_i M1 110 n = ax_i M 110 n := f.2.1 _ _ (hr _ _ (by omega))
  have e3 : ax_i M1 (10 * n + 1000) 10 = ax_i M (10 * n + 1000) 10 := f.2.1 _ _ (hr _ _ (by omega))
  have e4 : ax_i M1 112 n = ax_i M 112 n := f.2.1 _ _ (hr _ _ (by omega))
  have e5 : ax_i M1 (10 * n + 1000) 11 = ax_i M (10 * n + 1000) 11 := f.2.1 _ _ (hr _ _ (by omega))
  have e6 : ax_i M1 113 n = ax_i M 113 n := f.2.1 _ _ (hr _ _ (by omega))
  have e7 : ax_i M1 114 n = ax_i M 114 n := f.2.1 _ _ (hr _ _ (by omega))
  have e8 : ax_i M1 (10 * n + 1000) 12 = ax_i M (10 * n + 1000) 12 := f.2.1 _ _ (hr _ _ (by omega))
  unfold sm_qc
  simp only [e0, e1, e2, e3, e4, e5, e6, e7, e8]
  exact g
theorem sm_q.fr {na n : Nat} {S : Nat → Nat → Prop} {M M1 : ax_M} (f : px_fr S M M1) (g : sm_q na M n) (hr : ∀ id k, (10 * n + 1000 ≤ id ∧ id ≤ 10 * n + 1005) ∨ (105 ≤ id ∧ id ≤ 114 ∧ k = n) ∨ (115 ≤ id ∧ id ≤ 120 ∧ 8 * n ≤ k ∧ k < 8 * n + 8) → ¬ S id k) : sm_q na M1 n := by
  obtain ⟨kd, ch, sh, en, a1, a2, a3, a4, a5, b1, b2, b3, b4, b5, b6, b7, b8, b9, hcq, hd⟩ := g
  exact ⟨kd, ch, sh, en, a1, a2, a3, a4, a5, (by rw [f.2.1 _ _ (hr _ _ (by omega))]; exact b1), (by rw [f.2.1 _ _ (hr _ _ (by omega))]; exact b2), (by rw [f.2.1 _ _ (hr _ _ (by omega))]; exact b3), (by rw [f.2.1 _ _ (hr _ _ (by omega))]; exact b4), (by rw [f.2.1 _ _ (hr _ _ (by omega))]; exact b5), (by rw [f.2.1 _ _ (hr _ _ (by omega))]; exact b6), (by rw [f.2.1 _ _ (hr _ _ (by omega))]; exact b7), (by rw [f.2.1 _ _ (hr _ _ (by omega))]; exact b8), (by rw [f.2.1 _ _ (hr _ _ (by omega)), f.2.1 _ _ (hr _ _ (by omega))]; exact b9), hcq.fr f (fun id k z => hr id k (by omega)), fun a ha => (hd a ha).fr f (fun id k z => hr id k (by omega))⟩
theorem sm_an.fr {T h n kd un le sp sh en tl kp : Nat} {S : Nat → Nat → Prop} {M M1 : ax_M} (f : px_fr S M M1) (g : sm_an T h M n kd un le sp sh en tl kp) (hr : ∀ id k, (id = 10 * n + 2000 ∧ k ≠ 12) ∨ (121 ≤ id ∧ id ≤ 127 ∧ k = n) → ¬ S id k) : sm_an T h M1 n kd un le sp sh en tl kp := by
  have e0 : ax_i M1 (10 * n + 2000) 0 = ax_i M (10 * n + 2000) 0 := f.2.1 _ _ (hr _ _ (by omega))
  have e1 : ax_i M1 121 n = ax_i M 121 n := f.2.1 _ _ (hr _ _ (by omega))
  have e2 : ax_i M1 (10 * n + 2000) 1 = ax_i M (10 * n + 2000) 1 := f.2.1 _ _ (hr _ _ (by omega))
  have e3 : ax_i M1 122 n = ax_i M 122 n := f.2.1 _ _ (hr _ _ (by omega))
  have e4 : ax_i M1 (10 * n + 2000) 2 = ax_i M (10 * n + 2000) 2 := f.2.1 _ _ (hr _ _ (by omega))
  have e5 : ax_i M1 123 n = ax_i M 123 n := f.2.1 _ _ (hr _ _ (by omega))
  have e6 : ax_i M1 (10 * n + 2000) 3 = ax_i M (10 * n + 2000) 3 := f.2.1 _ _ (hr _ _ (by omega))
  have e7 : ax_i M1 124 n = ax_i M 124 n := f.2.1 _ _ (hr _ _ (by omega))
  have e8 : ax_i M1 (10 * n + 2000) 4 = ax_i M (10 * n + 2000) 4 := f.2.1 _ _ (hr _ _ (by omega))
  have e9 : ax_i M1 125 n = ax_i M 125 n := f.2.1 _ _ (hr _ _ (by omega))
  have e10 : ax_i M1 (10 * n + 2000) 5 = ax_i M (10 * n + 2000) 5 := f.2.1 _ _ (hr _ _ (by omega))
  have e11 : ax_i M1 126 n = ax_i M 126 n := f.2.1 _ _ (hr _ _ (by omega))
  have e12 : ax_i M1 (10 * n + 2000) 11 = ax_i M (10 * n + 2000) 11 := f.2.1 _ _ (hr _ _ (by omega))
  have e13 : ax_i M1 (10 * n + 2000) 13 = ax_i M (10 * n + 2000) 13 := f.2.1 _ _ (hr _ _ (by omega))
  have e14 : ax_l M1 127 n = ax_l M 127 n := f.2.2 _ _ (hr _ _ (by omega))
  unfold sm_an
  simp only [e0, e1, e2, e3, e4, e5, e6, e7, e8, e9, e10, e11, e12, e13, e14]
  exact g
theorem sm_ab.fr {na mt n kd un le tl a td bw u p wn : Nat} {is : Bool} {S : Nat → Nat → Prop} {M M1 : ax_M} (f : px_fr S M M1) (g : sm_ab na mt M n kd un le tl a td bw u p wn is) (hr : ∀ id k, (10 * n + 2001 ≤ id ∧ id ≤ 10 * n + 2005 ∧ k = a) ∨ (129 ≤ id ∧ id ≤ 135 ∧ k = 8 * n + a) → ¬ S id k) : sm_ab na mt M1 n kd un le tl a td bw u p wn is := by
  have e0 : ax_i M1 (10 * n + 2001) a = ax_i M (10 * n + 2001) a := f.2.1 _ _ (hr _ _ (by omega))
  have e1 : ax_i M1 (10 * n + 2003) a = ax_i M (10 * n + 2003) a := f.2.1 _ _ (hr _ _ (by omega))
  have e2 : ax_i M1 (10 * n + 2004) a = ax_i M (10 * n + 2004) a := f.2.1 _ _ (hr _ _ (by omega))
  have e3 : ax_i M1 (10 * n + 2005) a = ax_i M (10 * n + 2005) a := f.2.1 _ _ (hr _ _ (by omega))
  have e4 : ax_i M1 135 (8 * n + a) = ax_i M 135 (8 * n + a) := f.2.1 _ _ (hr _ _ (by omega))
  have e5 : ax_i M1 129 (8 * n + a) = ax_i M 129 (8 * n + a) := f.2.1 _ _ (hr _ _ (by omega))
  have e6 : ax_i M1 132 (8 * n + a) = ax_i M 132 (8 * n + a) := f.2.1 _ _ (hr _ _ (by omega))
  have e7 : ax_i M1 134 (8 * n + a) = ax_i M 134 (8 * n + a) := f.2.1 _ _ (hr _ _ (by omega))
  have e8 : ax_i M1 131 (8 * n + a) = ax_i M 131 (8 * n + a) := f.2.1 _ _ (hr _ _ (by omega))
  have e9 : ax_i M1 130 (8 * n + a) = ax_i M 130 (8 * n + a) := f.2.1 _ _ (hr _ _ (by omega))
  have e10 : ax_l M1 (10 * n + 2002) a = ax_l M (10 * n + 2002) a := f.2.2 _ _ (hr _ _ (by omega))
  have e11 : ax_l M1 133 (8 * n + a) = ax_l M 133 (8 * n + a) := f.2.2 _ _ (hr _ _ (by omega))
  unfold sm_ab
  simp only [e0, e1, e2, e3, e4, e5, e6, e7, e8, e9, e10, e11]
  exact g
theorem sm_al.fr {na h n kd en kp : Nat} {u p wn : Nat → Nat} {S : Nat → Nat → Prop} {M M1 : ax_M} (f : px_fr S M M1) (g : sm_al na h M n kd en kp u p wn) (hr : ∀ id k, (id = 10 * n + 2000 ∧ k = 12) ∨ (id = 128 ∧ k = n) → ¬ S id k) : sm_al na h M1 n kd en kp u p wn := by
  have e0 : ax_i M1 (10 * n + 2000) 12 = ax_i M (10 * n + 2000) 12 := f.2.1 _ _ (hr _ _ (by omega))
  have e1 : ax_i M1 128 n = ax_i M 128 n := f.2.1 _ _ (hr _ _ (by omega))
  unfold sm_al
  simp only [e0, e1]
  exact g
theorem sm_a.fr {T na h mt n : Nat} {S : Nat → Nat → Prop} {M M1 : ax_M} (f : px_fr S M M1) (g : sm_a T na h mt M n) (hr : ∀ id k, (10 * n + 2000 ≤ id ∧ id ≤ 10 * n + 2005) ∨ (121 ≤ id ∧ id ≤ 128 ∧ k = n) ∨ (129 ≤ id ∧ id ≤ 135 ∧ 8 * n ≤ k ∧ k < 8 * n + 8) → ¬ S id k) : sm_a T na h mt M1 n := by
  obtain ⟨kd, un, le, sp, sh, en, tl, kp, td, bw, u, p, wn, is, h1, h2, h3, h4⟩ := g
  exact ⟨kd, un, le, sp, sh, en, tl, kp, td, bw, u, p, wn, is, h1.fr f (fun id k z => hr id k (by omega)), fun a ha => (h2 a ha).fr f (fun id k z => hr id k (by omega)), h3, h4.fr f (fun id k z => hr id k (by omega))⟩
