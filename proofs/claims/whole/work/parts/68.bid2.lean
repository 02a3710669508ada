theorem gr_non {cd : Nat → Bool} {P W : Nat → Nat} : ∀ k a b, (∀ x, a ≤ x → x < a + k → cd x = false) → gr_f cd P W k a b = b := by
  intro k
  induction k with
  | zero => intro a b _; rfl
  | succ k ih =>
    intro a b hx
    show gr_f cd P W k (a + 1) (gr_up cd P W b a) = b
    have e : gr_up cd P W b a = b := by cases b <;> simp [gr_up, hx a (Nat.le_refl _) (by omega)]
    rw [e]
    exact ih (a + 1) b (fun x h1 h2 => hx x (by omega) (by omega))
theorem gr_one {cd : Nat → Bool} {P W : Nat → Nat} {c : Nat} (hc : cd c = true) : ∀ k a, a ≤ c → c < a + k → (∀ x, a ≤ x → x < a + k → x ≠ c → cd x = false) → gr_f cd P W k a none = some c := by
  intro k
  induction k with
  | zero => intro a h1 h2; omega
  | succ k ih =>
    intro a h1 h2 hx
    show gr_f cd P W k (a + 1) (gr_up cd P W none a) = some c
    by_cases e : a = c
    · subst e
      have e : gr_up cd P W none a = some a := by simp [gr_up, hc]
      rw [e]
      exact gr_non k (a + 1) _ (fun x h1 h2 => hx x (by omega) (by omega) (by omega))
    · have e' : gr_up cd P W none a = none := by simp [gr_up, hx a (Nat.le_refl _) (by omega) e]
      rw [e']
      exact ih (a + 1) (by omega) (by omega) (fun x h1 h2 => hx x (by omega) (by omega))
section
variable {M : ax_M}
def vb_drop (M : ax_M) (n j : Nat) (c : Int64) : ax_M := ax_wi (ax_wi (ax_wl (ax_wl M 3 j (ax_l M 3 j - c)) 2 j (ax_l M 2 j + c)) (10 * n + 2003) j 0) (10 * n + 2004) j 0
def vb_put (M : ax_M) (n j : Nat) (c : Int64) (U P t : Int32) : ax_M := ax_wl (ax_wl (ax_wi (ax_wi (ax_wi (ax_wi (vb_drop M n j c) (10 * n + 2000) 11 t) (10 * n + 2001) j t) (10 * n + 2003) j U) (10 * n + 2004) j P) 2 j (ax_l M 2 j + c - U.toInt64 * P.toInt64)) 3 j (ax_l M 3 j - c + U.toInt64 * P.toInt64)
def mb_drop (M : ax_M) (n j : Nat) (c : Int64) : ax_M := ax_wi (ax_wl (ax_wl M 103 j (ax_l M 103 j + -c)) 102 j (ax_l M 102 j - -c)) 129 (8 * n + j) 0
def mb_put (M : ax_M) (n j : Nat) (c : Int64) (U P t : Int32) : ax_M := ax_wl (ax_wl (ax_wi (ax_wi (ax_wi (ax_wi (ax_wi (ax_wl (ax_wl M 103 j (ax_l M 103 j + -c)) 102 j (ax_l M 102 j - -c)) 129 (8 * n + j) 1) 130 (8 * n + j) U) 131 (8 * n + j) P) 132 (8 * n + j) t) 100 26 (t + 1)) 103 j (ax_l M 103 j + -c + U.toInt64 * P.toInt64)) 102 j (ax_l M 102 j - -c - U.toInt64 * P.toInt64)
theorem V_dropBid (nq nu na : Nat) (h : px_W nq nu M.2.2) {n j : Nat} (hn : n < nu) (hna : ax_i M 0 2 = nI na) (h8 : na ≤ 8) (hj : j < na) {c : Int64} (hc : (ax_i M (10 * n + 2003) j).toInt64 * (ax_i M (10 * n + 2004) j).toInt64 = c) : f_V_dropBid M (some 0) (some (10 * n + 2000)) (nI j) = some (vb_drop M n j c) := by
  have hj8 : j < 8 := by omega
  have hy : ¬ (nI j < 0 ∨ nI na ≤ nI j) := by
    rintro (z | z)
    · exact nI_pos (by omega) z
    · exact nI_ge hj (by omega) z
  simp [f_V_dropBid, vb_drop, V_isNoAccount nq nu na h hna h8, hy, A_costOf nq nu, V_giveBack nq nu, e_V_gi nq nu, e_V_gl nq nu, e_V_pi nq nu, e_V_pl nq nu, e_V_ob nq nu, e_V_r3 nq nu, e_V_s1 nq nu, e_V_rd1 nq nu, e_V_wr1 nq nu, e_V_r4 nq nu, e_V_s2 nq nu, e_V_rd2 nq nu, e_V_wr2 nq nu, e_V_r5 nq nu, e_V_s3 nq nu, e_V_rd3 nq nu, e_V_wr3 nq nu, e_V_r6 nq nu, e_V_s4 nq nu, e_V_rd4 nq nu, e_V_wr4 nq nu, e_V_r8 nq nu, e_V_s5 nq nu, e_V_r10 nq nu, e_V_s6 nq nu, e_V_r11 nq nu, e_V_s7 nq nu, e_V_rd7 nq nu, e_V_wr7 nq nu, e_V_r12 nq nu, e_V_s8 nq nu, e_V_rd8 nq nu, e_V_wr8 nq nu, e_V_r13 nq nu, e_V_s9 nq nu, e_V_rd9 nq nu, e_V_wr9 nq nu, e_V_q nq nu, e_V_a nq nu, e_A_gi nq nu, e_A_gl nq nu, e_A_pi nq nu, e_A_pl nq nu, e_A_ob nq nu, e_A_r6 nq nu, e_A_s1 nq nu, e_A_rd1 nq nu, e_A_wr1 nq nu, e_A_r7 nq nu, e_A_s2 nq nu, e_A_rd2 nq nu, e_A_wr2 nq nu, e_A_r8 nq nu, e_A_s3 nq nu, e_A_rd3 nq nu, e_A_wr3 nq nu, e_A_r9 nq nu, e_A_s4 nq nu, e_A_rd4 nq nu, e_A_wr4 nq nu, e_A_r10 nq nu, e_A_s5 nq nu, e_A_rd5 nq nu, e_A_wr5 nq nu, h, px_wi, px_wl, px_wc, Option.bind_some, hn, hj8, hc]
theorem V_dropBid_no (nq nu na : Nat) (h : px_W nq nu M.2.2) {n : Nat} (hna : ax_i M 0 2 = nI na) (h8 : na ≤ 8) : f_V_dropBid M (some 0) (some (10 * n + 2000)) (-1) = some M := by
  have hy : ((-1 : Int32) < 0 ∨ nI na ≤ -1) := Or.inl (by decide)
  simp only [f_V_dropBid, V_isNoAccount nq nu na h hna h8, hy, e_V_ob nq nu h, Option.bind_some, if_true]
  rfl
theorem V_bid_150 (nq nu na : Nat) (h : px_W nq nu M.2.2) {n j : Nat} (hn : n < nu) (hna : ax_i M 0 2 = nI na) (h8 : na ≤ 8) (hj : j < na) {c : Int64} (hc : (ax_i M (10 * n + 2003) j).toInt64 * (ax_i M (10 * n + 2004) j).toInt64 = c) {t : Int32} (ht : ax_i M (10 * n + 2000) 11 + 1 = t) (U P : Int32) : G_V_bid_150 M (some 0) (nI j) U P (some (10 * n + 2000)) = some (1, vb_put M n j c U P t) := by
  have hj8 : j < 8 := by omega
  have h' : px_W nq nu (vb_drop M n j c).2.2 := h
  simp only [G_V_bid_150, e_V_ob nq nu h, Option.bind_some, V_dropBid nq nu na h hn hna h8 hj hc, e_A_ob nq nu h' hn, A_tell nq nu h' hn hj8]
  rw [show ax_i (vb_drop M n j c) (10 * n + 2000) 11 + 1 = t by simp [vb_drop, px_i_wi, px_l_wi, px_r_wi, px_s_wi, px_i_wl, px_l_wl, px_r_wl, px_s_wl, px_i_wc, px_l_wc, px_r_wc, px_s_wc, ht]]
  have h := h'
  simp [vb_put, A_costOf nq nu, V_setAside nq nu, e_V_gi nq nu, e_V_gl nq nu, e_V_pi nq nu, e_V_pl nq nu, e_V_ob nq nu, e_V_r3 nq nu, e_V_s1 nq nu, e_V_rd1 nq nu, e_V_wr1 nq nu, e_V_r4 nq nu, e_V_s2 nq nu, e_V_rd2 nq nu, e_V_wr2 nq nu, e_V_r5 nq nu, e_V_s3 nq nu, e_V_rd3 nq nu, e_V_wr3 nq nu, e_V_r6 nq nu, e_V_s4 nq nu, e_V_rd4 nq nu, e_V_wr4 nq nu, e_V_r8 nq nu, e_V_s5 nq nu, e_V_r10 nq nu, e_V_s6 nq nu, e_V_r11 nq nu, e_V_s7 nq nu, e_V_rd7 nq nu, e_V_wr7 nq nu, e_V_r12 nq nu, e_V_s8 nq nu, e_V_rd8 nq nu, e_V_wr8 nq nu, e_V_r13 nq nu, e_V_s9 nq nu, e_V_rd9 nq nu, e_V_wr9 nq nu, e_V_q nq nu, e_V_a nq nu, e_A_gi nq nu, e_A_gl nq nu, e_A_pi nq nu, e_A_pl nq nu, e_A_ob nq nu, e_A_r6 nq nu, e_A_s1 nq nu, e_A_rd1 nq nu, e_A_wr1 nq nu, e_A_r7 nq nu, e_A_s2 nq nu, e_A_rd2 nq nu, e_A_wr2 nq nu, e_A_r8 nq nu, e_A_s3 nq nu, e_A_rd3 nq nu, e_A_wr3 nq nu, e_A_r9 nq nu, e_A_s4 nq nu, e_A_rd4 nq nu, e_A_wr4 nq nu, e_A_r10 nq nu, e_A_s5 nq nu, e_A_rd5 nq nu, e_A_wr5 nq nu, h, px_wi, px_wl, px_wc, Option.bind_some, px_i_wi, px_l_wi, px_r_wi, px_s_wi, px_i_wl, px_l_wl, px_r_wl, px_s_wl, px_i_wc, px_l_wc, px_r_wc, px_s_wc, hn, hj8]
  simp [vb_drop, px_i_wi, px_l_wi, px_r_wi, px_s_wi, px_i_wl, px_l_wl, px_r_wl, px_s_wl, px_i_wc, px_l_wc, px_r_wc, px_s_wc]
theorem M_bid_201 (nq nu : Nat) (h : px_W nq nu M.2.2) {n j : Nat} (hn : n < 6) (hj8 : j < 8) {c : Int64} (hc : (if ax_i M 129 (8 * n + j) = 0 then 0 else (ax_i M 130 (8 * n + j)).toInt64 * (ax_i M 131 (8 * n + j)).toInt64) = c) {t : Int32} (ht : ax_i M 100 26 = t) (U P : Int32) : G_M_bid_201 M (some 100) (nI j) U P (nI (8 * n + j)) = some (1, mb_put M n j c U P t) := by
  have h48 : 8 * n + j < 48 := by omega
  simp [G_M_bid_201, mb_put, M_costOf nq nu, M_setAside nq nu, e_M_gi nq nu, e_M_gl nq nu, e_M_pi nq nu, e_M_pl nq nu, e_M_ob nq nu, e_M_r4 nq nu, e_M_s101 nq nu, e_M_rd101 nq nu, e_M_wr101 nq nu, e_M_r5 nq nu, e_M_s102 nq nu, e_M_rd102 nq nu, e_M_wr102 nq nu, e_M_r6 nq nu, e_M_s103 nq nu, e_M_rd103 nq nu, e_M_wr103 nq nu, e_M_r7 nq nu, e_M_s104 nq nu, e_M_rd104 nq nu, e_M_wr104 nq nu, e_M_r9 nq nu, e_M_s105 nq nu, e_M_rd105 nq nu, e_M_wr105 nq nu, e_M_r10 nq nu, e_M_s106 nq nu, e_M_rd106 nq nu, e_M_wr106 nq nu, e_M_r11 nq nu, e_M_s107 nq nu, e_M_rd107 nq nu, e_M_wr107 nq nu, e_M_r12 nq nu, e_M_s108 nq nu, e_M_rd108 nq nu, e_M_wr108 nq nu, e_M_r13 nq nu, e_M_s109 nq nu, e_M_rd109 nq nu, e_M_wr109 nq nu, e_M_r14 nq nu, e_M_s110 nq nu, e_M_rd110 nq nu, e_M_wr110 nq nu, e_M_r15 nq nu, e_M_s111 nq nu, e_M_rd111 nq nu, e_M_wr111 nq nu, e_M_r16 nq nu, e_M_s112 nq nu, e_M_rd112 nq nu, e_M_wr112 nq nu, e_M_r17 nq nu, e_M_s113 nq nu, e_M_rd113 nq nu, e_M_wr113 nq nu, e_M_r18 nq nu, e_M_s114 nq nu, e_M_rd114 nq nu, e_M_wr114 nq nu, e_M_r19 nq nu, e_M_s115 nq nu, e_M_rd115 nq nu, e_M_wr115 nq nu, e_M_r20 nq nu, e_M_s116 nq nu, e_M_rd116 nq nu, e_M_wr116 nq nu, e_M_r21 nq nu, e_M_s117 nq nu, e_M_rd117 nq nu, e_M_wr117 nq nu, e_M_r22 nq nu, e_M_s118 nq nu, e_M_rd118 nq nu, e_M_wr118 nq nu, e_M_r23 nq nu, e_M_s119 nq nu, e_M_rd119 nq nu, e_M_wr119 nq nu, e_M_r24 nq nu, e_M_s120 nq nu, e_M_rd120 nq nu, e_M_wr120 nq nu, e_M_r27 nq nu, e_M_s121 nq nu, e_M_rd121 nq nu, e_M_wr121 nq nu, e_M_r28 nq nu, e_M_s122 nq nu, e_M_rd122 nq nu, e_M_wr122 nq nu, e_M_r29 nq nu, e_M_s123 nq nu, e_M_rd123 nq nu, e_M_wr123 nq nu, e_M_r30 nq nu, e_M_s124 nq nu, e_M_rd124 nq nu, e_M_wr124 nq nu, e_M_r31 nq nu, e_M_s125 nq nu, e_M_rd125 nq nu, e_M_wr125 nq nu, e_M_r32 nq nu, e_M_s126 nq nu, e_M_rd126 nq nu, e_M_wr126 nq nu, e_M_r33 nq nu, e_M_s127 nq nu, e_M_rd127 nq nu, e_M_wr127 nq nu, e_M_r34 nq nu, e_M_s128 nq nu, e_M_rd128 nq nu, e_M_wr128 nq nu, e_M_r35 nq nu, e_M_s129 nq nu, e_M_rd129 nq nu, e_M_wr129 nq nu, e_M_r36 nq nu, e_M_s130 nq nu, e_M_rd130 nq nu, e_M_wr130 nq nu, e_M_r37 nq nu, e_M_s131 nq nu, e_M_rd131 nq nu, e_M_wr131 nq nu, e_M_r38 nq nu, e_M_s132 nq nu, e_M_rd132 nq nu, e_M_wr132 nq nu, e_M_r39 nq nu, e_M_s133 nq nu, e_M_rd133 nq nu, e_M_wr133 nq nu, e_M_r40 nq nu, e_M_s134 nq nu, e_M_rd134 nq nu, e_M_wr134 nq nu, e_M_r41 nq nu, e_M_s135 nq nu, e_M_rd135 nq nu, e_M_wr135 nq nu, e_M_r42 nq nu, e_M_s136 nq nu, e_M_rd136 nq nu, e_M_wr136 nq nu, e_M_r43 nq nu, e_M_s137 nq nu, e_M_rd137 nq nu, e_M_wr137 nq nu, e_M_r44 nq nu, e_M_s138 nq nu, e_M_rd138 nq nu, e_M_wr138 nq nu, e_M_r45 nq nu, e_M_s139 nq nu, e_M_rd139 nq nu, e_M_wr139 nq nu, e_M_r46 nq nu, e_M_s140 nq nu, e_M_rd140 nq nu, e_M_wr140 nq nu, h, px_wi, px_wl, px_wc, Option.bind_some, px_i_wi, px_l_wi, px_r_wi, px_s_wi, px_i_wl, px_l_wl, px_r_wl, px_s_wl, px_i_wc, px_l_wc, px_r_wc, px_s_wc, hj8, h48, hc, ht]
end
