theorem sm_c.wi {na a : Nat} {M : ax_M} {id k : Nat} {v : Int32} (g : sm_c na M a) (hr : ¬ ((id = 1 ∨ id = 2 ∨ id = 3 ∨ id = 4 ∨ id = 101 ∨ id = 102 ∨ id = 103 ∨ id = 104) ∧ k = a)) : sm_c na (ax_wi M id k v) a := by
  have e0 : ax_i (ax_wi M id k v) 1 a = ax_i M 1 a := by rw [px_i_wi, if_neg (by omega)]
  have e1 : ax_i (ax_wi M id k v) 101 a = ax_i M 101 a := by rw [px_i_wi, if_neg (by omega)]
  have e2 : ax_l (ax_wi M id k v) 2 a = ax_l M 2 a := px_l_wi _ _ _ _ _ _
  have e3 : ax_l (ax_wi M id k v) 102 a = ax_l M 102 a := px_l_wi _ _ _ _ _ _
  have e4 : ax_l (ax_wi M id k v) 3 a = ax_l M 3 a := px_l_wi _ _ _ _ _ _
  have e5 : ax_l (ax_wi M id k v) 103 a = ax_l M 103 a := px_l_wi _ _ _ _ _ _
  have e6 : ax_i (ax_wi M id k v) 104 a = ax_i M 104 a := by rw [px_i_wi, if_neg (by omega)]
  have e7 : ax_i (ax_wi M id k v) 4 a = ax_i M 4 a := by rw [px_i_wi, if_neg (by omega)]
  unfold sm_c
  simp only [e0, e1, e2, e3, e4, e5, e6, e7]
  exact g
theorem sm_c.wl {na a : Nat} {M : ax_M} {id k : Nat} {v : Int64} (g : sm_c na M a) (hr : ¬ ((id = 1 ∨ id = 2 ∨ id = 3 ∨ id = 4 ∨ id = 101 ∨ id = 102 ∨ id = 103 ∨ id = 104) ∧ k = a)) : sm_c na (ax_wl M id k v) a := by
  have e0 : ax_i (ax_wl M id k v) 1 a = ax_i M 1 a := px_i_wl _ _ _ _ _ _
  have e1 : ax_i (ax_wl M id k v) 101 a = ax_i M 101 a := px_i_wl _ _ _ _ _ _
  have e2 : ax_l (ax_wl M id k v) 2 a = ax_l M 2 a := by rw [px_l_wl, if_neg (by omega)]
  have e3 : ax_l (ax_wl M id k v) 102 a = ax_l M 102 a := by rw [px_l_wl, if_neg (by omega)]
  have e4 : ax_l (ax_wl M id k v) 3 a = ax_l M 3 a := by rw [px_l_wl, if_neg (by omega)]
  have e5 : ax_l (ax_wl M id k v) 103 a = ax_l M 103 a := by rw [px_l_wl, if_neg (by omega)]
  have e6 : ax_i (ax_wl M id k v) 104 a = ax_i M 104 a := px_i_wl _ _ _ _ _ _
  have e7 : ax_i (ax_wl M id k v) 4 a = ax_i M 4 a := px_i_wl _ _ _ _ _ _
  unfold sm_c
  simp only [e0, e1, e2, e3, e4, e5, e6, e7]
  exact g
theorem sm_qa.wi {na kd ch n a : Nat} {M : ax_M} {id k : Nat} {v : Int32} (g : sm_qa na kd ch M n a) (hr : ¬ ((10 * n + 1001 ≤ id ∧ id ≤ 10 * n + 1005 ∧ k = a) ∨ (115 ≤ id ∧ id ≤ 120 ∧ k = 8 * n + a))) : sm_qa na kd ch (ax_wi M id k v) n a := by
  have e0 : ax_i (ax_wi M id k v) (10 * n + 1001) a = ax_i M (10 * n + 1001) a := by rw [px_i_wi, if_neg (by omega)]
  have e1 : ax_i (ax_wi M id k v) 115 (8 * n + a) = ax_i M 115 (8 * n + a) := by rw [px_i_wi, if_neg (by omega)]
  have e2 : ax_i (ax_wi M id k v) 116 (8 * n + a) = ax_i M 116 (8 * n + a) := by rw [px_i_wi, if_neg (by omega)]
  have e3 : ax_i (ax_wi M id k v) (10 * n + 1002) a = ax_i M (10 * n + 1002) a := by rw [px_i_wi, if_neg (by omega)]
  have e4 : ax_i (ax_wi M id k v) 117 (8 * n + a) = ax_i M 117 (8 * n + a) := by rw [px_i_wi, if_neg (by omega)]
  have e5 : ax_i (ax_wi M id k v) (10 * n + 1003) a = ax_i M (10 * n + 1003) a := by rw [px_i_wi, if_neg (by omega)]
  have e6 : ax_i (ax_wi M id k v) 118 (8 * n + a) = ax_i M 118 (8 * n + a) := by rw [px_i_wi, if_neg (by omega)]
  have e7 : ax_l (ax_wi M id k v) (10 * n + 1004) a = ax_l M (10 * n + 1004) a := px_l_wi _ _ _ _ _ _
  have e8 : ax_l (ax_wi M id k v) 119 (8 * n + a) = ax_l M 119 (8 * n + a) := px_l_wi _ _ _ _ _ _
  have e9 : ax_i (ax_wi M id k v) 120 (8 * n + a) = ax_i M 120 (8 * n + a) := by rw [px_i_wi, if_neg (by omega)]
  have e10 : ax_i (ax_wi M id k v) (10 * n + 1005) a = ax_i M (10 * n + 1005) a := by rw [px_i_wi, if_neg (by omega)]
  unfold sm_qa
  simp only [e0, e1, e2, e3, e4, e5, e6, e7, e8, e9, e10]
  exact g
theorem sm_qa.wl {na kd ch n a : Nat} {M : ax_M} {id k : Nat} {v : Int64} (g : sm_qa na kd ch M n a) (hr : ¬ ((10 * n + 1001 ≤ id ∧ id ≤ 10 * n + 1005 ∧ k = a) ∨ (115 ≤ id ∧ id ≤ 120 ∧ k = 8 * n + a))) : sm_qa na kd ch (ax_wl M id k v) n a := by
  have e0 : ax_i (ax_wl M id k v) (10 * n + 1001) a = ax_i M (10 * n + 1001) a := px_i_wl _ _ _ _ _ _
  have e1 : ax_i (ax_wl M id k v) 115 (8 * n + a) = ax_i M 115 (8 * n + a) := px_i_wl _ _ _ _ _ _
  have e2 : ax_i (ax_wl M id k v) 116 (8 * n + a) = ax_i M 116 (8 * n + a) := px_i_wl _ _ _ _ _ _
  have e3 : ax_i (ax_wl M id k v) (10 * n + 1002) a = ax_i M (10 * n + 1002) a := px_i_wl _ _ _ _ _ _
  have e4 : ax_i (ax_wl M id k v) 117 (8 * n + a) = ax_i M 117 (8 * n + a) := px_i_wl _ _ _ _ _ _
  have e5 : ax_i (ax_wl M id k v) (10 * n + 1003) a = ax_i M (10 * n + 1003) a := px_i_wl _ _ _ _ _ _
  have e6 : ax_i (ax_wl M id k v) 118 (8 * n + a) = ax_i M 118 (8 * n + a) := px_i_wl _ _ _ _ _ _
  have e7 : ax_l (ax_wl M id k v) (10 * n + 1004) a = ax_l M (10 * n + 1004) a := by rw [px_l_wl, if_neg (by omega)]
  have e8 : ax_l (ax_wl M id k v) 119 (8 * n + a) = ax_l M 119 (8 * n + a) := by rw [px_l_wl, if_neg (by omega)]
  have e9 : ax_i (ax_wl M id k v) 120 (8 * n + a) = ax_i M 120 (8 * n + a) := px_i_wl _ _ _ _ _ _
  have e10 : ax_i (ax_wl M id k v) (10 * n + 1005) a = ax_i M (10 * n + 1005) a := px_i_wl _ _ _ _ _ _
  unfold sm_qa
  simp only [e0, e1, e2, e3, e4, e5, e6, e7, e8, e9, e10]
  exact g
theorem sm_qc.wi {na en n : Nat} {M : ax_M} {id k : Nat} {v : Int32} (g : sm_qc na en M n) (hr : ¬ ((id = 10 * n + 1000 ∧ 10 ≤ k ∧ k ≤ 13) ∨ (110 ≤ id ∧ id ≤ 114 ∧ k = n))) : sm_qc na en (ax_wi M id k v) n := by
  have e0 : ax_i (ax_wi M id k v) (10 * n + 1000) 13 = ax_i M (10 * n + 1000) 13 := by rw [px_i_wi, if_neg (by omega)]
  have e1 : ax_i (ax_wi M id k v) 111 n = ax_i M 111 n := by rw [px_i_wi, if_neg (by omega)]
  have e2 : ax_i (ax_wi M id k v) 110 n = ax_i M 110 n := by rw [px_i_wi, if_neg (by omega)]
  have e3 : ax_i (ax_wi M id k v) (10 * n + 1000) 10 = ax_i M (10 * n + 1000) 10 := by rw [px_i_wi, if_neg (by omega)]
  have e4 : ax_i (ax_wi M id k v) 112 n = ax_i M 112 n := by rw [px_i_wi, if_neg (by omega)]
  have e5 : ax_i (ax_wi M id k v) (10 * n + 1000) 11 = ax_i M (10 * n + 1000) 11 := by rw [px_i_wi, if_neg (by omega)]
  have e6 : ax_i (ax_wi M id k v) 113 n = ax_i M 113 n := by rw [px_i_wi, if_neg (by omega)]
  have e7 : ax_i (ax_wi M id k v) 114 n = ax_i M 114 n := by rw [px_i_wi, if_neg (by omega)]
  have e8 : ax_i (ax_wi M id k v) (10 * n + 1000) 12 = ax_i M (10 * n + 1000) 12 := by rw [px_i_wi, if_neg (by omega)]
  unfold sm_qc
  simp only [e0, e1, e2, e3, e4, e5, e6, e7, e8]
  exact g
theorem sm_qc.wl {na en n : Nat} {M : ax_M} {id k : Nat} {v : Int64} (g : sm_qc na en M n) (hr : ¬ ((id = 10 * n + 1000 ∧ 10 ≤ k ∧ k ≤ 13) ∨ (110 ≤ id ∧ id ≤ 114 ∧ k = n))) : sm_qc na en (ax_wl M id k v) n := by
  have e0 : ax_i (ax_wl M id k v) (10 * n + 1000) 13 = ax_i M (10 * n + 1000) 13 := px_i_wl _ _ _ _ _ _
  have e1 : ax_i (ax_wl M id k v) 111 n = ax_i M 111 n := px_i_wl _ _ _ _ _ _
  have e2 : ax_i (ax_wl M id k v) 110 n = ax_i M 110 n := px_i_wl _ _ _ _ _ _
  have e3 : ax_i (ax_wl M id k v) (10 * n + 1000) 10 = ax_i M (10 * n + 1000) 10 := px_i_wl _ _ _ _ _ _
  have e4 : ax_i (ax_wl M id k v) 112 n = ax_i M 112 n := px_i_wl _ _ _ _ _ _
  have e5 : ax_i (ax_wl M id k v) (10 * n + 1000) 11 = ax_i M (10 * n + 1000) 11 := px_i_wl _ _ _ _ _ _
  have e6 : ax_i (ax_wl M id k v) 113 n = ax_i M 113 n := px_i_wl _ _ _ _ _ _
  have e7 : ax_i (ax_wl M id k v) 114 n = ax_i M 114 n := px_i_wl _ _ _ _ _ _
  have e8 : ax_i (ax_wl M id k v) (10 * n + 1000) 12 = ax_i M (10 * n + 1000) 12 := px_i_wl _ _ _ _ _ _
  unfold sm_qc
  simp only [e0, e1, e2, e3, e4, e5, e6, e7, e8]
  exact g
theorem sm_q.wi {na n : Nat} {M : ax_M} {id k : Nat} {v : Int32} (g : sm_q na M n) (hr : ¬ ((10 * n + 1000 ≤ id ∧ id ≤ 10 * n + 1005) ∨ (105 ≤ id ∧ id ≤ 114 ∧ k = n) ∨ (115 ≤ id ∧ id ≤ 120 ∧ 8 * n ≤ k ∧ k < 8 * n + 8))) : sm_q na (ax_wi M id k v) n := by
  obtain ⟨kd, ch, sh, en, a1, a2, a3, a4, a5, b1, b2, b3, b4, b5, b6, b7, b8, b9, hcq, hd⟩ := g
  exact ⟨kd, ch, sh, en, a1, a2, a3, a4, a5, (by rw [px_i_wi, if_neg (by omega)]; exact b1), (by rw [px_i_wi, if_neg (by omega)]; exact b2), (by rw [px_i_wi, if_neg (by omega)]; exact b3), (by rw [px_i_wi, if_neg (by omega)]; exact b4), (by rw [px_i_wi, if_neg (by omega)]; exact b5), (by rw [px_i_wi, if_neg (by omega)]; exact b6), (by rw [px_i_wi, if_neg (by omega)]; exact b7), (by rw [px_i_wi, if_neg (by omega)]; exact b8), (by rw [px_i_wi, px_i_wi, if_neg (by omega), if_neg (by omega)]; exact b9), hcq.wi (by omega), fun a ha => (hd a ha).wi (by omega)⟩
theorem sm_q.wl {na n : Nat} {M : ax_M} {id k : Nat} {v : Int64} (g : sm_q na M n) (hr : ¬ ((10 * n + 1000 ≤ id ∧ id ≤ 10 * n + 1005) ∨ (105 ≤ id ∧ id ≤ 114 ∧ k = n) ∨ (115 ≤ id ∧ id ≤ 120 ∧ 8 * n ≤ k ∧ k < 8 * n + 8))) : sm_q na (ax_wl M id k v) n := by
  obtain ⟨kd, ch, sh, en, a1, a2, a3, a4, a5, b1, b2, b3, b4, b5, b6, b7, b8, b9, hcq, hd⟩ := g
  exact ⟨kd, ch, sh, en, a1, a2, a3, a4, a5, (by rw [px_i_wl]; exact b1), (by rw [px_i_wl]; exact b2), (by rw [px_i_wl]; exact b3), (by rw [px_i_wl]; exact b4), (by rw [px_i_wl]; exact b5), (by rw [px_i_wl]; exact b6), (by rw [px_i_wl]; exact b7), (by rw [px_i_wl]; exact b8), (by rw [px_i_wl, px_i_wl]; exact b9), hcq.wl (by omega), fun a ha => (hd a ha).wl (by omega)⟩
theorem sm_an.wi {T h n kd un le sp sh en tl kp : Nat} {M : ax_M} {id k : Nat} {v : Int32} (g : sm_an T h M n kd un le sp sh en tl kp) (hr : ¬ ((id = 10 * n + 2000 ∧ k ≠ 12) ∨ (121 ≤ id ∧ id ≤ 127 ∧ k = n))) : sm_an T h (ax_wi M id k v) n kd un le sp sh en tl kp := by
  have e0 : ax_i (ax_wi M id k v) (10 * n + 2000) 0 = ax_i M (10 * n + 2000) 0 := by rw [px_i_wi, if_neg (by omega)]
  have e1 : ax_i (ax_wi M id k v) 121 n = ax_i M 121 n := by rw [px_i_wi, if_neg (by omega)]
  have e2 : ax_i (ax_wi M id k v) (10 * n + 2000) 1 = ax_i M (10 * n + 2000) 1 := by rw [px_i_wi, if_neg (by omega)]
  have e3 : ax_i (ax_wi M id k v) 122 n = ax_i M 122 n := by rw [px_i_wi, if_neg (by omega)]
  have e4 : ax_i (ax_wi M id k v) (10 * n + 2000) 2 = ax_i M (10 * n + 2000) 2 := by rw [px_i_wi, if_neg (by omega)]
  have e5 : ax_i (ax_wi M id k v) 123 n = ax_i M 123 n := by rw [px_i_wi, if_neg (by omega)]
  have e6 : ax_i (ax_wi M id k v) (10 * n + 2000) 3 = ax_i M (10 * n + 2000) 3 := by rw [px_i_wi, if_neg (by omega)]
  have e7 : ax_i (ax_wi M id k v) 124 n = ax_i M 124 n := by rw [px_i_wi, if_neg (by omega)]
  have e8 : ax_i (ax_wi M id k v) (10 * n + 2000) 4 = ax_i M (10 * n + 2000) 4 := by rw [px_i_wi, if_neg (by omega)]
  have e9 : ax_i (ax_wi M id k v) 125 n = ax_i M 125 n := by rw [px_i_wi, if_neg (by omega)]
  have e10 : ax_i (ax_wi M id k v) (10 * n + 2000) 5 = ax_i M (10 * n + 2000) 5 := by rw [px_i_wi, if_neg (by omega)]
  have e11 : ax_i (ax_wi M id k v) 126 n = ax_i M 126 n := by rw [px_i_wi, if_neg (by omega)]
  have e12 : ax_i (ax_wi M id k v) (10 * n + 2000) 11 = ax_i M (10 * n + 2000) 11 := by rw [px_i_wi, if_neg (by omega)]
  have e13 : ax_i (ax_wi M id k v) (10 * n + 2000) 13 = ax_i M (10 * n + 2000) 13 := by rw [px_i_wi, if_neg (by omega)]
  have e14 : ax_l (ax_wi M id k v) 127 n = ax_l M 127 n := px_l_wi _ _ _ _ _ _
  unfold sm_an
  simp only [e0, e1, e2, e3, e4, e5, e6, e7, e8, e9, e10, e11, e12, e13, e14]
  exact g
theorem sm_an.wl {T h n kd un le sp sh en tl kp : Nat} {M : ax_M} {id k : Nat} {v : Int64} (g : sm_an T h M n kd un le sp sh en tl kp) (hr : ¬ ((id = 10 * n + 2000 ∧ k ≠ 12) ∨ (121 ≤ id ∧ id ≤ 127 ∧ k = n))) : sm_an T h (ax_wl M id k v) n kd un le sp sh en tl kp := by
  have e0 : ax_i (ax_wl M id k v) (10 * n + 2000) 0 = ax_i M (10 * n + 2000) 0 := px_i_wl _ _ _ _ _ _
  have e1 : ax_i (ax_wl M id k v) 121 n = ax_i M 121 n := px_i_wl _ _ _ _ _ _
  have e2 : ax_i (ax_wl M id k v) (10 * n + 2000) 1 = ax_i M (10 * n + 2000) 1 := px_i_wl _ _ _ _ _ _
  have e3 : ax_i (ax_wl M id k v) 122 n = ax_i M 122 n := px_i_wl _ _ _ _ _ _
  have e4 : ax_i (ax_wl M id k v) (10 * n + 2000) 2 = ax_i M (10 * n + 2000) 2 := px_i_wl _ _ _ _ _ _
  have e5 : ax_i (ax_wl M id k v) 123 n = ax_i M 123 n := px_i_wl _ _ _ _ _ _
  have e6 : ax_i (ax_wl M id k v) (10 * n + 2000) 3 = ax_i M (10 * n + 2000) 3 := px_i_wl _ _ _ _ _ _
  have e7 : ax_i (ax_wl M id k v) 124 n = ax_i M 124 n := px_i_wl _ _ _ _ _ _
  have e8 : ax_i (ax_wl M id k v) (10 * n + 2000) 4 = ax_i M (10 * n + 2000) 4 := px_i_wl _ _ _ _ _ _
  have e9 : ax_i (ax_wl M id k v) 125 n = ax_i M 125 n := px_i_wl _ _ _ _ _ _
  have e10 : ax_i (ax_wl M id k v) (10 * n + 2000) 5 = ax_i M (10 * n + 2000) 5 := px_i_wl _ _ _ _ _ _
  have e11 : ax_i (ax_wl M id k v) 126 n = ax_i M 126 n := px_i_wl _ _ _ _ _ _
  have e12 : ax_i (ax_wl M id k v) (10 * n + 2000) 11 = ax_i M (10 * n + 2000) 11 := px_i_wl _ _ _ _ _ _
  have e13 : ax_i (ax_wl M id k v) (10 * n + 2000) 13 = ax_i M (10 * n + 2000) 13 := px_i_wl _ _ _ _ _ _
  have e14 : ax_l (ax_wl M id k v) 127 n = ax_l M 127 n := by rw [px_l_wl, if_neg (by omega)]
  unfold sm_an
  simp only [e0, e1, e2, e3, e4, e5, e6, e7, e8, e9, e10, e11, e12, e13, e14]
  exact g
theorem sm_ab.wi {na mt n kd un le tl a td bw u p wn : Nat} {is : Bool} {M : ax_M} {id k : Nat} {v : Int32} (g : sm_ab na mt M n kd un le tl a td bw u p wn is) (hr : ¬ ((10 * n + 2001 ≤ id ∧ id ≤ 10 * n + 2005 ∧ k = a) ∨ (129 ≤ id ∧ id ≤ 135 ∧ k = 8 * n + a))) : sm_ab na mt (ax_wi M id k v) n kd un le tl a td bw u p wn is := by
  have e0 : ax_i (ax_wi M id k v) (10 * n + 2001) a = ax_i M (10 * n + 2001) a := by rw [px_i_wi, if_neg (by omega)]
  have e1 : ax_i (ax_wi M id k v) (10 * n + 2003) a = ax_i M (10 * n + 2003) a := by rw [px_i_wi, if_neg (by omega)]
  have e2 : ax_i (ax_wi M id k v) (10 * n + 2004) a = ax_i M (10 * n + 2004) a := by rw [px_i_wi, if_neg (by omega)]
  have e3 : ax_i (ax_wi M id k v) (10 * n + 2005) a = ax_i M (10 * n + 2005) a := by rw [px_i_wi, if_neg (by omega)]
  have e4 : ax_i (ax_wi M id k v) 135 (8 * n + a) = ax_i M 135 (8 * n + a) := by rw [px_i_wi, if_neg (by omega)]
  have e5 : ax_i (ax_wi M id k v) 129 (8 * n + a) = ax_i M 129 (8 * n + a) := by rw [px_i_wi, if_neg (by omega)]
  have e6 : ax_i (ax_wi M id k v) 132 (8 * n + a) = ax_i M 132 (8 * n + a) := by rw [px_i_wi, if_neg (by omega)]
  have e7 : ax_i (ax_wi M id k v) 134 (8 * n + a) = ax_i M 134 (8 * n + a) := by rw [px_i_wi, if_neg (by omega)]
  have e8 : ax_i (ax_wi M id k v) 131 (8 * n + a) = ax_i M 131 (8 * n + a) := by rw [px_i_wi, if_neg (by omega)]
  have e9 : ax_i (ax_wi M id k v) 130 (8 * n + a) = ax_i M 130 (8 * n + a) := by rw [px_i_wi, if_neg (by omega)]
  have e10 : ax_l (ax_wi M id k v) (10 * n + 2002) a = ax_l M (10 * n + 2002) a := px_l_wi _ _ _ _ _ _
  have e11 : ax_l (ax_wi M id k v) 133 (8 * n + a) = ax_l M 133 (8 * n + a) := px_l_wi _ _ _ _ _ _
  unfold sm_ab
  simp only [e0, e1, e2, e3, e4, e5, e6, e7, e8, e9, e10, e11]
  exact g
theorem sm_ab.wl {na mt n kd un le tl a td bw u p wn : Nat} {is : Bool} {M : ax_M} {id k : Nat} {v : Int64} (g : sm_ab na mt M n kd un le tl a td bw u p wn is) (hr : ¬ ((10 * n + 2001 ≤ id ∧ id ≤ 10 * n + 2005 ∧ k = a) ∨ (129 ≤ id ∧ id ≤ 135 ∧ k = 8 * n + a))) : sm_ab na mt (ax_wl M id k v) n kd un le tl a td bw u p wn is := by
  have e0 : ax_i (ax_wl M id k v) (10 * n + 2001) a = ax_i M (10 * n + 2001) a := px_i_wl _ _ _ _ _ _
  have e1 : ax_i (ax_wl M id k v) (10 * n + 2003) a = ax_i M (10 * n + 2003) a := px_i_wl _ _ _ _ _ _
  have e2 : ax_i (ax_wl M id k v) (10 * n + 2004) a = ax_i M (10 * n + 2004) a := px_i_wl _ _ _ _ _ _
  have e3 : ax_i (ax_wl M id k v) (10 * n + 2005) a = ax_i M (10 * n + 2005) a := px_i_wl _ _ _ _ _ _
  have e4 : ax_i (ax_wl M id k v) 135 (8 * n + a) = ax_i M 135 (8 * n + a) := px_i_wl _ _ _ _ _ _
  have e5 : ax_i (ax_wl M id k v) 129 (8 * n + a) = ax_i M 129 (8 * n + a) := px_i_wl _ _ _ _ _ _
  have e6 : ax_i (ax_wl M id k v) 132 (8 * n + a) = ax_i M 132 (8 * n + a) := px_i_wl _ _ _ _ _ _
  have e7 : ax_i (ax_wl M id k v) 134 (8 * n + a) = ax_i M 134 (8 * n + a) := px_i_wl _ _ _ _ _ _
  have e8 : ax_i (ax_wl M id k v) 131 (8 * n + a) = ax_i M 131 (8 * n + a) := px_i_wl _ _ _ _ _ _
  have e9 : ax_i (ax_wl M id k v) 130 (8 * n + a) = ax_i M 130 (8 * n + a) := px_i_wl _ _ _ _ _ _
  have e10 : ax_l (ax_wl M id k v) (10 * n + 2002) a = ax_l M (10 * n + 2002) a := by rw [px_l_wl, if_neg (by omega)]
  have e11 : ax_l (ax_wl M id k v) 133 (8 * n + a) = ax_l M 133 (8 * n + a) := by rw [px_l_wl, if_neg (by omega)]
  unfold sm_ab
  simp only [e0, e1, e2, e3, e4, e5, e6, e7, e8, e9, e10, e11]
  exact g
theorem sm_al.wi {na h n kd en kp : Nat} {u p wn : Nat → Nat} {M : ax_M} {id k : Nat} {v : Int32} (g : sm_al na h M n kd en kp u p wn) (hr : ¬ ((id = 10 * n + 2000 ∧ k = 12) ∨ (id = 128 ∧ k = n))) : sm_al na h (ax_wi M id k v) n kd en kp u p wn := by
  have e0 : ax_i (ax_wi M id k v) (10 * n + 2000) 12 = ax_i M (10 * n + 2000) 12 := by rw [px_i_wi, if_neg (by omega)]
  have e1 : ax_i (ax_wi M id k v) 128 n = ax_i M 128 n := by rw [px_i_wi, if_neg (by omega)]
  unfold sm_al
  simp only [e0, e1]
  exact g
theorem sm_al.wl {na h n kd en kp : Nat} {u p wn : Nat → Nat} {M : ax_M} {id k : Nat} {v : Int64} (g : sm_al na h M n kd en kp u p wn) (hr : ¬ ((id = 10 * n + 2000 ∧ k = 12) ∨ (id = 128 ∧ k = n))) : sm_al na h (ax_wl M id k v) n kd en kp u p wn := by
  have e0 : ax_i (ax_wl M id k v) (10 * n + 2000) 12 = ax_i M (10 * n + 2000) 12 := px_i_wl _ _ _ _ _ _
  have e1 : ax_i (ax_wl M id k v) 128 n = ax_i M 128 n := px_i_wl _ _ _ _ _ _
  unfold sm_al
  simp only [e0, e1]
  exact g
theorem sm_a.wi {T na h mt n : Nat} {M : ax_M} {id k : Nat} {v : Int32} (g : sm_a T na h mt M n) (hr : ¬ ((10 * n + 2000 ≤ id ∧ id ≤ 10 * n + 2005) ∨ (121 ≤ id ∧ id ≤ 128 ∧ k = n) ∨ (129 ≤ id ∧ id ≤ 135 ∧ 8 * n ≤ k ∧ k < 8 * n + 8))) : sm_a T na h mt (ax_wi M id k v) n := by
  obtain ⟨kd, un, le, sp, sh, en, tl, kp, td, bw, u, p, wn, is, h1, h2, h3, h4⟩ := g
  exact ⟨kd, un, le, sp, sh, en, tl, kp, td, bw, u, p, wn, is, h1.wi (by omega), fun a ha => (h2 a ha).wi (by omega), h3, h4.wi (by omega)⟩
theorem sm_a.wl {T na h mt n : Nat} {M : ax_M} {id k : Nat} {v : Int64} (g : sm_a T na h mt M n) (hr : ¬ ((10 * n + 2000 ≤ id ∧ id ≤ 10 * n + 2005) ∨ (121 ≤ id ∧ id ≤ 128 ∧ k = n) ∨ (129 ≤ id ∧ id ≤ 135 ∧ 8 * n ≤ k ∧ k < 8 * n + 8))) : sm_a T na h mt (ax_wl M id k v) n := by
  obtain ⟨kd, un, le, sp, sh, en, tl, kp, td, bw, u, p, wn, is, h1, h2, h3, h4⟩ := g
  exact ⟨kd, un, le, sp, sh, en, tl, kp, td, bw, u, p, wn, is, h1.wl (by omega), fun a ha => (h2 a ha).wl (by omega), h3, h4.wl (by omega)⟩
theorem sm_g.wi {T na nq nu h mt : Nat} {M : ax_M} {id k : Nat} {v : Int32} (g : sm_g T na nq nu h mt M) (hr : ¬ (id = 0 ∨ id = 100)) : sm_g T na nq nu h mt (ax_wi M id k v) := by
  have e0 : ax_i (ax_wi M id k v) 0 0 = ax_i M 0 0 := by rw [px_i_wi, if_neg (by omega)]
  have e1 : ax_i (ax_wi M id k v) 100 1 = ax_i M 100 1 := by rw [px_i_wi, if_neg (by omega)]
  have e2 : ax_l (ax_wi M id k v) 0 1 = ax_l M 0 1 := px_l_wi _ _ _ _ _ _
  have e3 : ax_l (ax_wi M id k v) 100 2 = ax_l M 100 2 := px_l_wi _ _ _ _ _ _
  have e4 : ax_i (ax_wi M id k v) 0 2 = ax_i M 0 2 := by rw [px_i_wi, if_neg (by omega)]
  have e5 : ax_i (ax_wi M id k v) 100 3 = ax_i M 100 3 := by rw [px_i_wi, if_neg (by omega)]
  have e6 : ax_i (ax_wi M id k v) 0 7 = ax_i M 0 7 := by rw [px_i_wi, if_neg (by omega)]
  have e7 : ax_i (ax_wi M id k v) 100 8 = ax_i M 100 8 := by rw [px_i_wi, if_neg (by omega)]
  have e8 : ax_i (ax_wi M id k v) 0 9 = ax_i M 0 9 := by rw [px_i_wi, if_neg (by omega)]
  have e9 : ax_i (ax_wi M id k v) 100 25 = ax_i M 100 25 := by rw [px_i_wi, if_neg (by omega)]
  have e10 : ax_i (ax_wi M id k v) 100 26 = ax_i M 100 26 := by rw [px_i_wi, if_neg (by omega)]
  unfold sm_g
  simp only [e0, e1, e2, e3, e4, e5, e6, e7, e8, e9, e10, px_wi]
  exact g
theorem sm_g.wl {T na nq nu h mt : Nat} {M : ax_M} {id k : Nat} {v : Int64} (g : sm_g T na nq nu h mt M) (hr : ¬ (id = 0 ∨ id = 100)) : sm_g T na nq nu h mt (ax_wl M id k v) := by
  have e0 : ax_i (ax_wl M id k v) 0 0 = ax_i M 0 0 := px_i_wl _ _ _ _ _ _
  have e1 : ax_i (ax_wl M id k v) 100 1 = ax_i M 100 1 := px_i_wl _ _ _ _ _ _
  have e2 : ax_l (ax_wl M id k v) 0 1 = ax_l M 0 1 := by rw [px_l_wl, if_neg (by omega)]
  have e3 : ax_l (ax_wl M id k v) 100 2 = ax_l M 100 2 := by rw [px_l_wl, if_neg (by omega)]
  have e4 : ax_i (ax_wl M id k v) 0 2 = ax_i M 0 2 := px_i_wl _ _ _ _ _ _
  have e5 : ax_i (ax_wl M id k v) 100 3 = ax_i M 100 3 := px_i_wl _ _ _ _ _ _
  have e6 : ax_i (ax_wl M id k v) 0 7 = ax_i M 0 7 := px_i_wl _ _ _ _ _ _
  have e7 : ax_i (ax_wl M id k v) 100 8 = ax_i M 100 8 := px_i_wl _ _ _ _ _ _
  have e8 : ax_i (ax_wl M id k v) 0 9 = ax_i M 0 9 := px_i_wl _ _ _ _ _ _
  have e9 : ax_i (ax_wl M id k v) 100 25 = ax_i M 100 25 := px_i_wl _ _ _ _ _ _
  have e10 : ax_i (ax_wl M id k v) 100 26 = ax_i M 100 26 := px_i_wl _ _ _ _ _ _
  unfold sm_g
  simp only [e0, e1, e2, e3, e4, e5, e6, e7, e8, e9, e10, px_wl]
  exact g
