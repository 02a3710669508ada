set_option maxHeartbeats 4000000 in
theorem op_account {T : Nat} {M : ax_M} (hT : T < 1000) (hS : Sim T M) (w f : Int32) : ag (f_V_account M (some 0) w f) (fun M1 => f_M_account M1 (some 100) w f) (Sim (T + 1)) := by
  obtain ⟨na, nq, nu, hh, mt, hg, hc, hq, ha⟩ := id hS
  obtain ⟨h, g2, g3, g4, g5, g6, g7, i1, i2, i3, i4, i5, i6, i7, i8, i9, i10⟩ := id hg
  by_cases hw : w < 0 ∨ 1000 < w
  · refine ⟨-2, M, M, ?_, ?_, hS.up hT⟩
    · simp [f_V_account, G_V_account_21, V_isOutside, hw]
    · simp [f_M_account, G_M_account_21, M_isIn, hw]
  by_cases hf : f < 0 ∨ 1000000 < f
  · refine ⟨-2, M, M, ?_, ?_, hS.up hT⟩
    · simp [f_V_account, G_V_account_21, V_isOutside, hw, hf]
    · simp [f_M_account, G_M_account_21, M_isIn, hw, hf]
  by_cases h8 : na = 8
  · subst h8
    refine ⟨-4, M, M, ?_, ?_, hS.up hT⟩
    · simp [f_V_account, V_isOutside, hw, hf, e_V_gi nq nu, e_V_gl nq nu, e_V_pi nq nu, e_V_pl nq nu, e_V_ob nq nu, e_V_r3 nq nu, e_V_s1 nq nu, e_V_rd1 nq nu, e_V_wr1 nq nu, e_V_r4 nq nu, e_V_s2 nq nu, e_V_rd2 nq nu, e_V_wr2 nq nu, e_V_r5 nq nu, e_V_s3 nq nu, e_V_rd3 nq nu, e_V_wr3 nq nu, e_V_r6 nq nu, e_V_s4 nq nu, e_V_rd4 nq nu, e_V_wr4 nq nu, e_V_r8 nq nu, e_V_s5 nq nu, e_V_r10 nq nu, e_V_s6 nq nu, e_V_r11 nq nu, e_V_s7 nq nu, e_V_rd7 nq nu, e_V_wr7 nq nu, e_V_r12 nq nu, e_V_s8 nq nu, e_V_rd8 nq nu, e_V_wr8 nq nu, e_V_r13 nq nu, e_V_s9 nq nu, e_V_rd9 nq nu, e_V_wr9 nq nu, e_V_q nq nu, e_V_a nq nu, h, px_wi, px_wl, px_wc, Option.bind_some, i4, show ¬ nI 8 < 8 by decide]
    · simp [f_M_account, M_isIn, hw, hf, e_M_gi nq nu, e_M_gl nq nu, e_M_pi nq nu, e_M_pl nq nu, e_M_ob nq nu, e_M_r4 nq nu, e_M_s101 nq nu, e_M_rd101 nq nu, e_M_wr101 nq nu, e_M_r5 nq nu, e_M_s102 nq nu, e_M_rd102 nq nu, e_M_wr102 nq nu, e_M_r6 nq nu, e_M_s103 nq nu, e_M_rd103 nq nu, e_M_wr103 nq nu, e_M_r7 nq nu, e_M_s104 nq nu, e_M_rd104 nq nu, e_M_wr104 nq nu, e_M_r9 nq nu, e_M_s105 nq nu, e_M_rd105 nq nu, e_M_wr105 nq nu, e_M_r10 nq nu, e_M_s106 nq nu, e_M_rd106 nq nu, e_M_wr106 nq nu, e_M_r11 nq nu, e_M_s107 nq nu, e_M_rd107 nq nu, e_M_wr107 nq nu, e_M_r12 nq nu, e_M_s108 nq nu, e_M_rd108 nq nu, e_M_wr108 nq nu, e_M_r13 nq nu, e_M_s109 nq nu, e_M_rd109 nq nu, e_M_wr109 nq nu, e_M_r14 nq nu, e_M_s110 nq nu, e_M_rd110 nq nu, e_M_wr110 nq nu, e_M_r15 nq nu, e_M_s111 nq nu, e_M_rd111 nq nu, e_M_wr111 nq nu, e_M_r16 nq nu, e_M_s112 nq nu, e_M_rd112 nq nu, e_M_wr112 nq nu, e_M_r17 nq nu, e_M_s113 nq nu, e_M_rd113 nq nu, e_M_wr113 nq nu, e_M_r18 nq nu, e_M_s114 nq nu, e_M_rd114 nq nu, e_M_wr114 nq nu, e_M_r19 nq nu, e_M_s115 nq nu, e_M_rd115 nq nu, e_M_wr115 nq nu, e_M_r20 nq nu, e_M_s116 nq nu, e_M_rd116 nq nu, e_M_wr116 nq nu, e_M_r21 nq nu, e_M_s117 nq nu, e_M_rd117 nq nu, e_M_wr117 nq nu, e_M_r22 nq nu, e_M_s118 nq nu, e_M_rd118 nq nu, e_M_wr118 nq nu, e_M_r23 nq nu, e_M_s119 nq nu, e_M_rd119 nq nu, e_M_wr119 nq nu, e_M_r24 nq nu, e_M_s120 nq nu, e_M_rd120 nq nu, e_M_wr120 nq nu, e_M_r27 nq nu, e_M_s121 nq nu, e_M_rd121 nq nu, e_M_wr121 nq nu, e_M_r28 nq nu, e_M_s122 nq nu, e_M_rd122 nq nu, e_M_wr122 nq nu, e_M_r29 nq nu, e_M_s123 nq nu, e_M_rd123 nq nu, e_M_wr123 nq nu, e_M_r30 nq nu, e_M_s124 nq nu, e_M_rd124 nq nu, e_M_wr124 nq nu, e_M_r31 nq nu, e_M_s125 nq nu, e_M_rd125 nq nu, e_M_wr125 nq nu, e_M_r32 nq nu, e_M_s126 nq nu, e_M_rd126 nq nu, e_M_wr126 nq nu, e_M_r33 nq nu, e_M_s127 nq nu, e_M_rd127 nq nu, e_M_wr127 nq nu, e_M_r34 nq nu, e_M_s128 nq nu, e_M_rd128 nq nu, e_M_wr128 nq nu, e_M_r35 nq nu, e_M_s129 nq nu, e_M_rd129 nq nu, e_M_wr129 nq nu, e_M_r36 nq nu, e_M_s130 nq nu, e_M_rd130 nq nu, e_M_wr130 nq nu, e_M_r37 nq nu, e_M_s131 nq nu, e_M_rd131 nq nu, e_M_wr131 nq nu, e_M_r38 nq nu, e_M_s132 nq nu, e_M_rd132 nq nu, e_M_wr132 nq nu, e_M_r39 nq nu, e_M_s133 nq nu, e_M_rd133 nq nu, e_M_wr133 nq nu, e_M_r40 nq nu, e_M_s134 nq nu, e_M_rd134 nq nu, e_M_wr134 nq nu, e_M_r41 nq nu, e_M_s135 nq nu, e_M_rd135 nq nu, e_M_wr135 nq nu, e_M_r42 nq nu, e_M_s136 nq nu, e_M_rd136 nq nu, e_M_wr136 nq nu, e_M_r43 nq nu, e_M_s137 nq nu, e_M_rd137 nq nu, e_M_wr137 nq nu, e_M_r44 nq nu, e_M_s138 nq nu, e_M_rd138 nq nu, e_M_wr138 nq nu, e_M_r45 nq nu, e_M_s139 nq nu, e_M_rd139 nq nu, e_M_wr139 nq nu, e_M_r46 nq nu, e_M_s140 nq nu, e_M_rd140 nq nu, e_M_wr140 nq nu, h, px_wi, px_wl, px_wc, Option.bind_some, i5, show nI 8 = 8 by decide]
  · have hj : na < 8 := by omega
    have e1 : nI na < 8 := nI_lt hj (by decide)
    have e2 : ¬ nI na = 8 := fun z => h8 ((nI_eq (b := 8) (by omega) (by decide)).mp z)
    obtain ⟨w', hw', rfl⟩ := px_bd (n := 1000) rfl hw
    refine ⟨nI na, ax_wi (ax_wl (ax_wi M 1 na (nI w')) 2 na f.toInt64) 0 2 (nI na + 1), ax_wi (ax_wi (ax_wl (ax_wl (ax_wi (ax_wi (ax_wl (ax_wi M 1 na (nI w')) 2 na f.toInt64) 0 2 (nI na + 1)) 101 na (nI w')) 102 na f.toInt64) 103 na 0) 104 na (nI na)) 100 3 (nI na + 1), ?_, ?_, na + 1, nq, nu, hh, mt, ?_, ?_, ?_, ?_⟩
    · simp [f_V_account, V_isOutside, hw, hf, e_V_gi nq nu, e_V_gl nq nu, e_V_pi nq nu, e_V_pl nq nu, e_V_ob nq nu, e_V_r3 nq nu, e_V_s1 nq nu, e_V_rd1 nq nu, e_V_wr1 nq nu, e_V_r4 nq nu, e_V_s2 nq nu, e_V_rd2 nq nu, e_V_wr2 nq nu, e_V_r5 nq nu, e_V_s3 nq nu, e_V_rd3 nq nu, e_V_wr3 nq nu, e_V_r6 nq nu, e_V_s4 nq nu, e_V_rd4 nq nu, e_V_wr4 nq nu, e_V_r8 nq nu, e_V_s5 nq nu, e_V_r10 nq nu, e_V_s6 nq nu, e_V_r11 nq nu, e_V_s7 nq nu, e_V_rd7 nq nu, e_V_wr7 nq nu, e_V_r12 nq nu, e_V_s8 nq nu, e_V_rd8 nq nu, e_V_wr8 nq nu, e_V_r13 nq nu, e_V_s9 nq nu, e_V_rd9 nq nu, e_V_wr9 nq nu, e_V_q nq nu, e_V_a nq nu, h, px_wi, px_wl, px_wc, Option.bind_some, px_i_wi, px_l_wi, px_r_wi, px_s_wi, px_i_wl, px_l_wl, px_r_wl, px_s_wl, px_i_wc, px_l_wc, px_r_wc, px_s_wc, i4, e1, hj]
    · simp [f_M_account, M_isIn, hw, hf, e_M_gi nq nu, e_M_gl nq nu, e_M_pi nq nu, e_M_pl nq nu, e_M_ob nq nu, e_M_r4 nq nu, e_M_s101 nq nu, e_M_rd101 nq nu, e_M_wr101 nq nu, e_M_r5 nq nu, e_M_s102 nq nu, e_M_rd102 nq nu, e_M_wr102 nq nu, e_M_r6 nq nu, e_M_s103 nq nu, e_M_rd103 nq nu, e_M_wr103 nq nu, e_M_r7 nq nu, e_M_s104 nq nu, e_M_rd104 nq nu, e_M_wr104 nq nu, e_M_r9 nq nu, e_M_s105 nq nu, e_M_rd105 nq nu, e_M_wr105 nq nu, e_M_r10 nq nu, e_M_s106 nq nu, e_M_rd106 nq nu, e_M_wr106 nq nu, e_M_r11 nq nu, e_M_s107 nq nu, e_M_rd107 nq nu, e_M_wr107 nq nu, e_M_r12 nq nu, e_M_s108 nq nu, e_M_rd108 nq nu, e_M_wr108 nq nu, e_M_r13 nq nu, e_M_s109 nq nu, e_M_rd109 nq nu, e_M_wr109 nq nu, e_M_r14 nq nu, e_M_s110 nq nu, e_M_rd110 nq nu, e_M_wr110 nq nu, e_M_r15 nq nu, e_M_s111 nq nu, e_M_rd111 nq nu, e_M_wr111 nq nu, e_M_r16 nq nu, e_M_s112 nq nu, e_M_rd112 nq nu, e_M_wr112 nq nu, e_M_r17 nq nu, e_M_s113 nq nu, e_M_rd113 nq nu, e_M_wr113 nq nu, e_M_r18 nq nu, e_M_s114 nq nu, e_M_rd114 nq nu, e_M_wr114 nq nu, e_M_r19 nq nu, e_M_s115 nq nu, e_M_rd115 nq nu, e_M_wr115 nq nu, e_M_r20 nq nu, e_M_s116 nq nu, e_M_rd116 nq nu, e_M_wr116 nq nu, e_M_r21 nq nu, e_M_s117 nq nu, e_M_rd117 nq nu, e_M_wr117 nq nu, e_M_r22 nq nu, e_M_s118 nq nu, e_M_rd118 nq nu, e_M_wr118 nq nu, e_M_r23 nq nu, e_M_s119 nq nu, e_M_rd119 nq nu, e_M_wr119 nq nu, e_M_r24 nq nu, e_M_s120 nq nu, e_M_rd120 nq nu, e_M_wr120 nq nu, e_M_r27 nq nu, e_M_s121 nq nu, e_M_rd121 nq nu, e_M_wr121 nq nu, e_M_r28 nq nu, e_M_s122 nq nu, e_M_rd122 nq nu, e_M_wr122 nq nu, e_M_r29 nq nu, e_M_s123 nq nu, e_M_rd123 nq nu, e_M_wr123 nq nu, e_M_r30 nq nu, e_M_s124 nq nu, e_M_rd124 nq nu, e_M_wr124 nq nu, e_M_r31 nq nu, e_M_s125 nq nu, e_M_rd125 nq nu, e_M_wr125 nq nu, e_M_r32 nq nu, e_M_s126 nq nu, e_M_rd126 nq nu, e_M_wr126 nq nu, e_M_r33 nq nu, e_M_s127 nq nu, e_M_rd127 nq nu, e_M_wr127 nq nu, e_M_r34 nq nu, e_M_s128 nq nu, e_M_rd128 nq nu, e_M_wr128 nq nu, e_M_r35 nq nu, e_M_s129 nq nu, e_M_rd129 nq nu, e_M_wr129 nq nu, e_M_r36 nq nu, e_M_s130 nq nu, e_M_rd130 nq nu, e_M_wr130 nq nu, e_M_r37 nq nu, e_M_s131 nq nu, e_M_rd131 nq nu, e_M_wr131 nq nu, e_M_r38 nq nu, e_M_s132 nq nu, e_M_rd132 nq nu, e_M_wr132 nq nu, e_M_r39 nq nu, e_M_s133 nq nu, e_M_rd133 nq nu, e_M_wr133 nq nu, e_M_r40 nq nu, e_M_s134 nq nu, e_M_rd134 nq nu, e_M_wr134 nq nu, e_M_r41 nq nu, e_M_s135 nq nu, e_M_rd135 nq nu, e_M_wr135 nq nu, e_M_r42 nq nu, e_M_s136 nq nu, e_M_rd136 nq nu, e_M_wr136 nq nu, e_M_r43 nq nu, e_M_s137 nq nu, e_M_rd137 nq nu, e_M_wr137 nq nu, e_M_r44 nq nu, e_M_s138 nq nu, e_M_rd138 nq nu, e_M_wr138 nq nu, e_M_r45 nq nu, e_M_s139 nq nu, e_M_rd139 nq nu, e_M_wr139 nq nu, e_M_r46 nq nu, e_M_s140 nq nu, e_M_rd140 nq nu, e_M_wr140 nq nu, h, px_wi, px_wl, px_wc, Option.bind_some, px_i_wi, px_l_wi, px_r_wi, px_s_wi, px_i_wl, px_l_wl, px_r_wl, px_s_wl, px_i_wc, px_l_wc, px_r_wc, px_s_wc, i5, e2, hj]
    · have := hg.up hT
      simp [sm_g, px_i_wi, px_l_wi, px_r_wi, px_s_wi, px_i_wl, px_l_wl, px_r_wl, px_s_wl, px_i_wc, px_l_wc, px_r_wc, px_s_wc, px_wi, px_wl, nI_1] at this ⊢
      exact ⟨h, by omega, g3, g4, by omega, by omega, by omega, i1, i2, i3, i6, i7, i8, i9, i10⟩
    · intro a ha8
      have := hc a ha8
      by_cases e : a = na
      · subst e
        obtain ⟨c1, c2, c3⟩ := this.2 (Nat.le_refl _)
        simp [sm_c, px_i_wi, px_l_wi, px_r_wi, px_s_wi, px_i_wl, px_l_wl, px_r_wl, px_s_wl, px_i_wc, px_l_wc, px_r_wc, px_s_wc]
        exact ⟨⟨⟨w', hw', rfl⟩, c2, a, by omega, rfl, by rw [c3]; simp [sm_sp]⟩, fun z => absurd z (by omega)⟩
      · simp [sm_c, px_i_wi, px_l_wi, px_r_wi, px_s_wi, px_i_wl, px_l_wl, px_r_wl, px_s_wl, px_i_wc, px_l_wc, px_r_wc, px_s_wc, e] at this ⊢
        refine ⟨fun z => ?_, fun z => this.2 (by omega)⟩
        obtain ⟨d1, d2, d3, p, d4, d5⟩ := this.1 (by omega)
        exact ⟨d1, d2, d3, p, by omega, d5⟩
    · intro n hn
      have := (hq n hn).mono (Nat.le_succ na)
      simpa [sm_q, sm_qc, sm_qa, px_i_wi, px_l_wi, px_r_wi, px_s_wi, px_i_wl, px_l_wl, px_r_wl, px_s_wl, px_i_wc, px_l_wc, px_r_wc, px_s_wc, px_t1, px_t2, px_t3, px_t4] using this
    · intro n hn
      have := (ha n hn).up.mono (Nat.le_succ na)
      simpa [sm_a, sm_an, sm_ab, sm_al, px_i_wi, px_l_wi, px_r_wi, px_s_wi, px_i_wl, px_l_wl, px_r_wl, px_s_wl, px_i_wc, px_l_wc, px_r_wc, px_s_wc, px_t1, px_t2, px_t3, px_t4] using this
set_option maxHeartbeats 4000000 in
theorem op_fund {T : Nat} {M : ax_M} (hT : T < 1000) (hS : Sim T M) (x w : Int32) : ag (f_V_fund M (some 0) x w) (fun M1 => f_M_fund M1 (some 100) x w) (Sim (T + 1)) := by
  obtain ⟨na, nq, nu, hh, mt, hg, hc, hq, ha⟩ := id hS
  obtain ⟨h, g2, g3, g4, g5, g6, g7, i1, i2, i3, i4, i5, i6, i7, i8, i9, i10⟩ := id hg
  rcases px_ix x (n := na) (by omega) with hx | ⟨j, hj, rfl, hx⟩
  · refine ⟨-1, M, M, ?_, ?_, hS.up hT⟩
    · simp [f_V_fund, e_V_ob nq nu, h, V_isNoAccount nq nu na, M_isAccount nq nu na, M_isQuestion nq nu, M_isAuction nq nu, V_isOutside, M_isIn, i1, i2, i4, i5, i6, i7, i8, i9, i10, g2, g3, g4, hx]
    · simp [f_M_fund, e_M_ob nq nu, h, V_isNoAccount nq nu na, M_isAccount nq nu na, M_isQuestion nq nu, M_isAuction nq nu, V_isOutside, M_isIn, i1, i2, i4, i5, i6, i7, i8, i9, i10, g2, g3, g4, hx]
  by_cases hw : w < 0 ∨ 100000 < w
  · refine ⟨-2, M, M, ?_, ?_, hS.up hT⟩
    · simp [f_V_fund, e_V_ob nq nu, h, V_isNoAccount nq nu na, M_isAccount nq nu na, M_isQuestion nq nu, M_isAuction nq nu, V_isOutside, M_isIn, i1, i2, i4, i5, i6, i7, i8, i9, i10, g2, g3, g4, hx, hw]
    · simp [f_M_fund, e_M_ob nq nu, h, V_isNoAccount nq nu na, M_isAccount nq nu na, M_isQuestion nq nu, M_isAuction nq nu, V_isOutside, M_isIn, i1, i2, i4, i5, i6, i7, i8, i9, i10, g2, g3, g4, hx, hw]
  have hj8 : j < 8 := by omega
  obtain ⟨d1, d2, d3⟩ := (hc j hj8).1 hj
  refine ⟨1, ax_wl M 2 j (ax_l M 102 j + w.toInt64), ax_wl (ax_wl M 2 j (ax_l M 102 j + w.toInt64)) 102 j (ax_l M 102 j + w.toInt64), ?_, ?_, na, nq, nu, hh, mt, ?_, ?_, ?_, ?_⟩
  · simp [f_V_fund, e_V_gi nq nu, e_V_gl nq nu, e_V_pi nq nu, e_V_pl nq nu, e_V_ob nq nu, e_V_r3 nq nu, e_V_s1 nq nu, e_V_rd1 nq nu, e_V_wr1 nq nu, e_V_r4 nq nu, e_V_s2 nq nu, e_V_rd2 nq nu, e_V_wr2 nq nu, e_V_r5 nq nu, e_V_s3 nq nu, e_V_rd3 nq nu, e_V_wr3 nq nu, e_V_r6 nq nu, e_V_s4 nq nu, e_V_rd4 nq nu, e_V_wr4 nq nu, e_V_r8 nq nu, e_V_s5 nq nu, e_V_r10 nq nu, e_V_s6 nq nu, e_V_r11 nq nu, e_V_s7 nq nu, e_V_rd7 nq nu, e_V_wr7 nq nu, e_V_r12 nq nu, e_V_s8 nq nu, e_V_rd8 nq nu, e_V_wr8 nq nu, e_V_r13 nq nu, e_V_s9 nq nu, e_V_rd9 nq nu, e_V_wr9 nq nu, e_V_q nq nu, e_V_a nq nu, h, px_wi, px_wl, px_wc, Option.bind_some, V_isNoAccount nq nu na, M_isAccount nq nu na, M_isQuestion nq nu, M_isAuction nq nu, V_isOutside, M_isIn, i1, i2, i4, i5, i6, i7, i8, i9, i10, g2, g3, g4, hx, hw, hj8, d2]
  · simp [f_M_fund, e_M_gi nq nu, e_M_gl nq nu, e_M_pi nq nu, e_M_pl nq nu, e_M_ob nq nu, e_M_r4 nq nu, e_M_s101 nq nu, e_M_rd101 nq nu, e_M_wr101 nq nu, e_M_r5 nq nu, e_M_s102 nq nu, e_M_rd102 nq nu, e_M_wr102 nq nu, e_M_r6 nq nu, e_M_s103 nq nu, e_M_rd103 nq nu, e_M_wr103 nq nu, e_M_r7 nq nu, e_M_s104 nq nu, e_M_rd104 nq nu, e_M_wr104 nq nu, e_M_r9 nq nu, e_M_s105 nq nu, e_M_rd105 nq nu, e_M_wr105 nq nu, e_M_r10 nq nu, e_M_s106 nq nu, e_M_rd106 nq nu, e_M_wr106 nq nu, e_M_r11 nq nu, e_M_s107 nq nu, e_M_rd107 nq nu, e_M_wr107 nq nu, e_M_r12 nq nu, e_M_s108 nq nu, e_M_rd108 nq nu, e_M_wr108 nq nu, e_M_r13 nq nu, e_M_s109 nq nu, e_M_rd109 nq nu, e_M_wr109 nq nu, e_M_r14 nq nu, e_M_s110 nq nu, e_M_rd110 nq nu, e_M_wr110 nq nu, e_M_r15 nq nu, e_M_s111 nq nu, e_M_rd111 nq nu, e_M_wr111 nq nu, e_M_r16 nq nu, e_M_s112 nq nu, e_M_rd112 nq nu, e_M_wr112 nq nu, e_M_r17 nq nu, e_M_s113 nq nu, e_M_rd113 nq nu, e_M_wr113 nq nu, e_M_r18 nq nu, e_M_s114 nq nu, e_M_rd114 nq nu, e_M_wr114 nq nu, e_M_r19 nq nu, e_M_s115 nq nu, e_M_rd115 nq nu, e_M_wr115 nq nu, e_M_r20 nq nu, e_M_s116 nq nu, e_M_rd116 nq nu, e_M_wr116 nq nu, e_M_r21 nq nu, e_M_s117 nq nu, e_M_rd117 nq nu, e_M_wr117 nq nu, e_M_r22 nq nu, e_M_s118 nq nu, e_M_rd118 nq nu, e_M_wr118 nq nu, e_M_r23 nq nu, e_M_s119 nq nu, e_M_rd119 nq nu, e_M_wr119 nq nu, e_M_r24 nq nu, e_M_s120 nq nu, e_M_rd120 nq nu, e_M_wr120 nq nu, e_M_r27 nq nu, e_M_s121 nq nu, e_M_rd121 nq nu, e_M_wr121 nq nu, e_M_r28 nq nu, e_M_s122 nq nu, e_M_rd122 nq nu, e_M_wr122 nq nu, e_M_r29 nq nu, e_M_s123 nq nu, e_M_rd123 nq nu, e_M_wr123 nq nu, e_M_r30 nq nu, e_M_s124 nq nu, e_M_rd124 nq nu, e_M_wr124 nq nu, e_M_r31 nq nu, e_M_s125 nq nu, e_M_rd125 nq nu, e_M_wr125 nq nu, e_M_r32 nq nu, e_M_s126 nq nu, e_M_rd126 nq nu, e_M_wr126 nq nu, e_M_r33 nq nu, e_M_s127 nq nu, e_M_rd127 nq nu, e_M_wr127 nq nu, e_M_r34 nq nu, e_M_s128 nq nu, e_M_rd128 nq nu, e_M_wr128 nq nu, e_M_r35 nq nu, e_M_s129 nq nu, e_M_rd129 nq nu, e_M_wr129 nq nu, e_M_r36 nq nu, e_M_s130 nq nu, e_M_rd130 nq nu, e_M_wr130 nq nu, e_M_r37 nq nu, e_M_s131 nq nu, e_M_rd131 nq nu, e_M_wr131 nq nu, e_M_r38 nq nu, e_M_s132 nq nu, e_M_rd132 nq nu, e_M_wr132 nq nu, e_M_r39 nq nu, e_M_s133 nq nu, e_M_rd133 nq nu, e_M_wr133 nq nu, e_M_r40 nq nu, e_M_s134 nq nu, e_M_rd134 nq nu, e_M_wr134 nq nu, e_M_r41 nq nu, e_M_s135 nq nu, e_M_rd135 nq nu, e_M_wr135 nq nu, e_M_r42 nq nu, e_M_s136 nq nu, e_M_rd136 nq nu, e_M_wr136 nq nu, e_M_r43 nq nu, e_M_s137 nq nu, e_M_rd137 nq nu, e_M_wr137 nq nu, e_M_r44 nq nu, e_M_s138 nq nu, e_M_rd138 nq nu, e_M_wr138 nq nu, e_M_r45 nq nu, e_M_s139 nq nu, e_M_rd139 nq nu, e_M_wr139 nq nu, e_M_r46 nq nu, e_M_s140 nq nu, e_M_rd140 nq nu, e_M_wr140 nq nu, h, px_wi, px_wl, px_wc, Option.bind_some, V_isNoAccount nq nu na, M_isAccount nq nu na, M_isQuestion nq nu, M_isAuction nq nu, V_isOutside, M_isIn, i1, i2, i4, i5, i6, i7, i8, i9, i10, g2, g3, g4, hx, hw, hj8, px_i_wi, px_l_wi, px_r_wi, px_s_wi, px_i_wl, px_l_wl, px_r_wl, px_s_wl, px_i_wc, px_l_wc, px_r_wc, px_s_wc]
  · simpa [sm_g, px_i_wi, px_l_wi, px_r_wi, px_s_wi, px_i_wl, px_l_wl, px_r_wl, px_s_wl, px_i_wc, px_l_wc, px_r_wc, px_s_wc, px_wl] using hg.up hT
  · intro a ha8
    have := hc a ha8
    by_cases e : a = j
    · subst e
      simp [sm_c, px_i_wi, px_l_wi, px_r_wi, px_s_wi, px_i_wl, px_l_wl, px_r_wl, px_s_wl, px_i_wc, px_l_wc, px_r_wc, px_s_wc] at this ⊢
      exact ⟨fun z => ⟨(this.1 z).1, (this.1 z).2.2⟩, this.2⟩
    · simpa [sm_c, px_i_wi, px_l_wi, px_r_wi, px_s_wi, px_i_wl, px_l_wl, px_r_wl, px_s_wl, px_i_wc, px_l_wc, px_r_wc, px_s_wc, e] using this
  · intro n hn
    simpa [sm_q, sm_qc, sm_qa, px_i_wi, px_l_wi, px_r_wi, px_s_wi, px_i_wl, px_l_wl, px_r_wl, px_s_wl, px_i_wc, px_l_wc, px_r_wc, px_s_wc, px_t1, px_t2, px_t3, px_t4] using hq n hn
  · intro n hn
    simpa [sm_a, sm_an, sm_ab, sm_al, px_i_wi, px_l_wi, px_r_wi, px_s_wi, px_i_wl, px_l_wl, px_r_wl, px_s_wl, px_i_wc, px_l_wc, px_r_wc, px_s_wc, px_t1, px_t2, px_t3, px_t4] using (ha n hn).up
set_option maxHeartbeats 4000000 in
theorem op_holds {T : Nat} {M : ax_M} (hT : T < 1000) (hS : Sim T M) (x w : Int32) : ag (f_V_holds M (some 0) x w) (fun M1 => f_M_holds M1 (some 100) x w) (Sim (T + 1)) := by
  obtain ⟨na, nq, nu, hh, mt, hg, hc, hq, ha⟩ := id hS
  obtain ⟨h, g2, g3, g4, g5, g6, g7, i1, i2, i3, i4, i5, i6, i7, i8, i9, i10⟩ := id hg
  rcases px_ix x (n := na) (by omega) with hx | ⟨j, hj, rfl, hx⟩
  · refine ⟨-1, M, M, ?_, ?_, hS.up hT⟩
    · simp [f_V_holds, e_V_ob nq nu, h, V_isNoAccount nq nu na, M_isAccount nq nu na, M_isQuestion nq nu, M_isAuction nq nu, V_isOutside, M_isIn, i1, i2, i4, i5, i6, i7, i8, i9, i10, g2, g3, g4, hx]
    · simp [f_M_holds, e_M_ob nq nu, h, V_isNoAccount nq nu na, M_isAccount nq nu na, M_isQuestion nq nu, M_isAuction nq nu, V_isOutside, M_isIn, i1, i2, i4, i5, i6, i7, i8, i9, i10, g2, g3, g4, hx]
  have hj8 : j < 8 := by omega
  obtain ⟨⟨w0, c1, c2, c3⟩, d2, d3, _⟩ := (hc j hj8).1 hj
  refine ⟨if w = 0 then (nI w0).toInt64 else if w = 1 then ax_l M 102 j else if w = 2 then ax_l M 103 j else -2, M, M, ?_, ?_, hS.up hT⟩
  · simp only [f_V_holds, e_V_gi nq nu, e_V_gl nq nu, e_V_pi nq nu, e_V_pl nq nu, e_V_ob nq nu, e_V_r3 nq nu, e_V_s1 nq nu, e_V_rd1 nq nu, e_V_wr1 nq nu, e_V_r4 nq nu, e_V_s2 nq nu, e_V_rd2 nq nu, e_V_wr2 nq nu, e_V_r5 nq nu, e_V_s3 nq nu, e_V_rd3 nq nu, e_V_wr3 nq nu, e_V_r6 nq nu, e_V_s4 nq nu, e_V_rd4 nq nu, e_V_wr4 nq nu, e_V_r8 nq nu, e_V_s5 nq nu, e_V_r10 nq nu, e_V_s6 nq nu, e_V_r11 nq nu, e_V_s7 nq nu, e_V_rd7 nq nu, e_V_wr7 nq nu, e_V_r12 nq nu, e_V_s8 nq nu, e_V_rd8 nq nu, e_V_wr8 nq nu, e_V_r13 nq nu, e_V_s9 nq nu, e_V_rd9 nq nu, e_V_wr9 nq nu, e_V_q nq nu, e_V_a nq nu, h, px_wi, px_wl, px_wc, Option.bind_some, V_isNoAccount nq nu na, M_isAccount nq nu na, M_isQuestion nq nu, M_isAuction nq nu, V_isOutside, M_isIn, i1, i2, i4, i5, i6, i7, i8, i9, i10, g2, g3, g4, hx, hj8, c2, d2, d3, if_true]
    by_cases w0 : w = 0
    · simp [w0]
    · by_cases w1 : w = 1
      · simp [w1]
      · by_cases w2 : w = 2
        · simp [w2]
        · simp [w0, w1, w2]
  · simp only [f_M_holds, G_M_holds_57, e_M_gi nq nu, e_M_gl nq nu, e_M_pi nq nu, e_M_pl nq nu, e_M_ob nq nu, e_M_r4 nq nu, e_M_s101 nq nu, e_M_rd101 nq nu, e_M_wr101 nq nu, e_M_r5 nq nu, e_M_s102 nq nu, e_M_rd102 nq nu, e_M_wr102 nq nu, e_M_r6 nq nu, e_M_s103 nq nu, e_M_rd103 nq nu, e_M_wr103 nq nu, e_M_r7 nq nu, e_M_s104 nq nu, e_M_rd104 nq nu, e_M_wr104 nq nu, e_M_r9 nq nu, e_M_s105 nq nu, e_M_rd105 nq nu, e_M_wr105 nq nu, e_M_r10 nq nu, e_M_s106 nq nu, e_M_rd106 nq nu, e_M_wr106 nq nu, e_M_r11 nq nu, e_M_s107 nq nu, e_M_rd107 nq nu, e_M_wr107 nq nu, e_M_r12 nq nu, e_M_s108 nq nu, e_M_rd108 nq nu, e_M_wr108 nq nu, e_M_r13 nq nu, e_M_s109 nq nu, e_M_rd109 nq nu, e_M_wr109 nq nu, e_M_r14 nq nu, e_M_s110 nq nu, e_M_rd110 nq nu, e_M_wr110 nq nu, e_M_r15 nq nu, e_M_s111 nq nu, e_M_rd111 nq nu, e_M_wr111 nq nu, e_M_r16 nq nu, e_M_s112 nq nu, e_M_rd112 nq nu, e_M_wr112 nq nu, e_M_r17 nq nu, e_M_s113 nq nu, e_M_rd113 nq nu, e_M_wr113 nq nu, e_M_r18 nq nu, e_M_s114 nq nu, e_M_rd114 nq nu, e_M_wr114 nq nu, e_M_r19 nq nu, e_M_s115 nq nu, e_M_rd115 nq nu, e_M_wr115 nq nu, e_M_r20 nq nu, e_M_s116 nq nu, e_M_rd116 nq nu, e_M_wr116 nq nu, e_M_r21 nq nu, e_M_s117 nq nu, e_M_rd117 nq nu, e_M_wr117 nq nu, e_M_r22 nq nu, e_M_s118 nq nu, e_M_rd118 nq nu, e_M_wr118 nq nu, e_M_r23 nq nu, e_M_s119 nq nu, e_M_rd119 nq nu, e_M_wr119 nq nu, e_M_r24 nq nu, e_M_s120 nq nu, e_M_rd120 nq nu, e_M_wr120 nq nu, e_M_r27 nq nu, e_M_s121 nq nu, e_M_rd121 nq nu, e_M_wr121 nq nu, e_M_r28 nq nu, e_M_s122 nq nu, e_M_rd122 nq nu, e_M_wr122 nq nu, e_M_r29 nq nu, e_M_s123 nq nu, e_M_rd123 nq nu, e_M_wr123 nq nu, e_M_r30 nq nu, e_M_s124 nq nu, e_M_rd124 nq nu, e_M_wr124 nq nu, e_M_r31 nq nu, e_M_s125 nq nu, e_M_rd125 nq nu, e_M_wr125 nq nu, e_M_r32 nq nu, e_M_s126 nq nu, e_M_rd126 nq nu, e_M_wr126 nq nu, e_M_r33 nq nu, e_M_s127 nq nu, e_M_rd127 nq nu, e_M_wr127 nq nu, e_M_r34 nq nu, e_M_s128 nq nu, e_M_rd128 nq nu, e_M_wr128 nq nu, e_M_r35 nq nu, e_M_s129 nq nu, e_M_rd129 nq nu, e_M_wr129 nq nu, e_M_r36 nq nu, e_M_s130 nq nu, e_M_rd130 nq nu, e_M_wr130 nq nu, e_M_r37 nq nu, e_M_s131 nq nu, e_M_rd131 nq nu, e_M_wr131 nq nu, e_M_r38 nq nu, e_M_s132 nq nu, e_M_rd132 nq nu, e_M_wr132 nq nu, e_M_r39 nq nu, e_M_s133 nq nu, e_M_rd133 nq nu, e_M_wr133 nq nu, e_M_r40 nq nu, e_M_s134 nq nu, e_M_rd134 nq nu, e_M_wr134 nq nu, e_M_r41 nq nu, e_M_s135 nq nu, e_M_rd135 nq nu, e_M_wr135 nq nu, e_M_r42 nq nu, e_M_s136 nq nu, e_M_rd136 nq nu, e_M_wr136 nq nu, e_M_r43 nq nu, e_M_s137 nq nu, e_M_rd137 nq nu, e_M_wr137 nq nu, e_M_r44 nq nu, e_M_s138 nq nu, e_M_rd138 nq nu, e_M_wr138 nq nu, e_M_r45 nq nu, e_M_s139 nq nu, e_M_rd139 nq nu, e_M_wr139 nq nu, e_M_r46 nq nu, e_M_s140 nq nu, e_M_rd140 nq nu, e_M_wr140 nq nu, h, px_wi, px_wl, px_wc, Option.bind_some, V_isNoAccount nq nu na, M_isAccount nq nu na, M_isQuestion nq nu, M_isAuction nq nu, V_isOutside, M_isIn, i1, i2, i4, i5, i6, i7, i8, i9, i10, g2, g3, g4, hx, hj8, c3]
    by_cases w0 : w = 0
    · simp [w0]
    · by_cases w1 : w = 1
      · simp [w1]
      · by_cases w2 : w = 2
        · simp [w2]
        · simp [w0, w1, w2]
theorem op_pot {T : Nat} {M : ax_M} (hT : T < 1000) (hS : Sim T M) : ag (f_V_pot M (some 0)) (fun M1 => f_M_pot M1 (some 100)) (Sim (T + 1)) := by
  obtain ⟨na, nq, nu, hh, mt, hg, hc, hq, ha⟩ := id hS
  obtain ⟨h, g2, g3, g4, g5, g6, g7, i1, i2, i3, i4, i5, i6, i7, i8, i9, i10⟩ := id hg
  refine ⟨ax_l M 100 2, M, M, ?_, ?_, hS.up hT⟩
  · simp [f_V_pot, e_V_gl nq nu, h, i3]
  · simp [f_M_pot, e_M_gl nq nu, h]
theorem op_mark {T : Nat} {M : ax_M} (hT : T < 1000) (hS : Sim T M) (x y z : Int32) : ag (f_V_mark M (some 0) x y z) (fun M1 => f_M_mark M1 (some 100) x y z) (Sim (T + 1)) := ⟨_, M, M, rfl, rfl, hS.up hT⟩
set_option maxHeartbeats 4000000 in
theorem op_speak {T : Nat} {M : ax_M} (hT : T < 1000) (hS : Sim T M) (x y : Int32) : ag (f_V_speak M (some 0) x y) (fun M1 => f_M_speak M1 (some 100) x y) (Sim (T + 1)) := by
  obtain ⟨na, nq, nu, hh, mt, hg, hc, hq, ha⟩ := id hS
  obtain ⟨h, g2, g3, g4, g5, g6, g7, i1, i2, i3, i4, i5, i6, i7, i8, i9, i10⟩ := id hg
  rcases px_ix x (n := na) (by omega) with hx | ⟨j, hj, rfl, hx⟩
  · refine ⟨-1, M, M, ?_, ?_, hS.up hT⟩
    · simp [f_V_speak, G_V_speak_16, e_V_ob nq nu, h, V_isNoAccount nq nu na, M_isAccount nq nu na, M_isQuestion nq nu, M_isAuction nq nu, V_isOutside, M_isIn, i1, i2, i4, i5, i6, i7, i8, i9, i10, g2, g3, g4, hx]
    · simp [f_M_speak, G_M_speak_16, e_M_ob nq nu, h, V_isNoAccount nq nu na, M_isAccount nq nu na, M_isQuestion nq nu, M_isAuction nq nu, V_isOutside, M_isIn, i1, i2, i4, i5, i6, i7, i8, i9, i10, g2, g3, g4, hx]
  rcases px_ix y (n := na) (by omega) with hy | ⟨k, hk, rfl, hy⟩
  · refine ⟨-1, M, M, ?_, ?_, hS.up hT⟩
    · simp [f_V_speak, G_V_speak_16, e_V_ob nq nu, h, V_isNoAccount nq nu na, M_isAccount nq nu na, M_isQuestion nq nu, M_isAuction nq nu, V_isOutside, M_isIn, i1, i2, i4, i5, i6, i7, i8, i9, i10, g2, g3, g4, hx, hy]
    · simp [f_M_speak, G_M_speak_16, e_M_ob nq nu, h, V_isNoAccount nq nu na, M_isAccount nq nu na, M_isQuestion nq nu, M_isAuction nq nu, V_isOutside, M_isIn, i1, i2, i4, i5, i6, i7, i8, i9, i10, g2, g3, g4, hx, hy]
  have hj8 : j < 8 := by omega
  obtain ⟨c0, d2, d3, p, c6, c7, c8⟩ := (hc j hj8).1 hj
  have ep : (sm_sp j p = -1) ↔ p = j := by
    unfold sm_sp
    by_cases e : p = j
    · simp [e]
    · simp only [e, if_false, iff_false]
      intro z
      exact nI_pos (n := p) (by omega) (by rw [z]; decide)
  have ek : (nI k = nI j) ↔ k = j := nI_eq (by omega) (by omega)
  refine ⟨nI p, ax_wi M 4 j (sm_sp j k), ax_wi (ax_wi M 4 j (sm_sp j k)) 104 j (nI k), ?_, ?_, na, nq, nu, hh, mt, ?_, ?_, ?_, ?_⟩
  · simp only [f_V_speak, G_V_speak_40, G_V_speak_51, e_V_gi nq nu, e_V_gl nq nu, e_V_pi nq nu, e_V_pl nq nu, e_V_ob nq nu, e_V_r3 nq nu, e_V_s1 nq nu, e_V_rd1 nq nu, e_V_wr1 nq nu, e_V_r4 nq nu, e_V_s2 nq nu, e_V_rd2 nq nu, e_V_wr2 nq nu, e_V_r5 nq nu, e_V_s3 nq nu, e_V_rd3 nq nu, e_V_wr3 nq nu, e_V_r6 nq nu, e_V_s4 nq nu, e_V_rd4 nq nu, e_V_wr4 nq nu, e_V_r8 nq nu, e_V_s5 nq nu, e_V_r10 nq nu, e_V_s6 nq nu, e_V_r11 nq nu, e_V_s7 nq nu, e_V_rd7 nq nu, e_V_wr7 nq nu, e_V_r12 nq nu, e_V_s8 nq nu, e_V_rd8 nq nu, e_V_wr8 nq nu, e_V_r13 nq nu, e_V_s9 nq nu, e_V_rd9 nq nu, e_V_wr9 nq nu, e_V_q nq nu, e_V_a nq nu, h, px_wi, px_wl, px_wc, Option.bind_some, V_isNoAccount nq nu na, M_isAccount nq nu na, M_isQuestion nq nu, M_isAuction nq nu, V_isOutside, M_isIn, i1, i2, i4, i5, i6, i7, i8, i9, i10, g2, g3, g4, hx, hy, hj8, c8, if_true, if_false, ek]
    by_cases e : k = j
    · by_cases e2 : p = j
      · simp [e, e2, sm_sp]
      · simp [e, ep, e2, show sm_sp j j = -1 by simp [sm_sp], show sm_sp j p = nI p by simp [sm_sp, e2]]
        intro z
        exact absurd (ep.mp (by rw [show sm_sp j p = nI p by simp [sm_sp, e2]]; exact z)) e2
    · by_cases e2 : p = j
      · simp [e, e2, sm_sp]
      · simp [e, show sm_sp j k = nI k by simp [sm_sp, e], show sm_sp j p = nI p by simp [sm_sp, e2]]
        intro z
        exact absurd (ep.mp (by rw [show sm_sp j p = nI p by simp [sm_sp, e2]]; exact z)) e2
  · simp [f_M_speak, e_M_gi nq nu, e_M_gl nq nu, e_M_pi nq nu, e_M_pl nq nu, e_M_ob nq nu, e_M_r4 nq nu, e_M_s101 nq nu, e_M_rd101 nq nu, e_M_wr101 nq nu, e_M_r5 nq nu, e_M_s102 nq nu, e_M_rd102 nq nu, e_M_wr102 nq nu, e_M_r6 nq nu, e_M_s103 nq nu, e_M_rd103 nq nu, e_M_wr103 nq nu, e_M_r7 nq nu, e_M_s104 nq nu, e_M_rd104 nq nu, e_M_wr104 nq nu, e_M_r9 nq nu, e_M_s105 nq nu, e_M_rd105 nq nu, e_M_wr105 nq nu, e_M_r10 nq nu, e_M_s106 nq nu, e_M_rd106 nq nu, e_M_wr106 nq nu, e_M_r11 nq nu, e_M_s107 nq nu, e_M_rd107 nq nu, e_M_wr107 nq nu, e_M_r12 nq nu, e_M_s108 nq nu, e_M_rd108 nq nu, e_M_wr108 nq nu, e_M_r13 nq nu, e_M_s109 nq nu, e_M_rd109 nq nu, e_M_wr109 nq nu, e_M_r14 nq nu, e_M_s110 nq nu, e_M_rd110 nq nu, e_M_wr110 nq nu, e_M_r15 nq nu, e_M_s111 nq nu, e_M_rd111 nq nu, e_M_wr111 nq nu, e_M_r16 nq nu, e_M_s112 nq nu, e_M_rd112 nq nu, e_M_wr112 nq nu, e_M_r17 nq nu, e_M_s113 nq nu, e_M_rd113 nq nu, e_M_wr113 nq nu, e_M_r18 nq nu, e_M_s114 nq nu, e_M_rd114 nq nu, e_M_wr114 nq nu, e_M_r19 nq nu, e_M_s115 nq nu, e_M_rd115 nq nu, e_M_wr115 nq nu, e_M_r20 nq nu, e_M_s116 nq nu, e_M_rd116 nq nu, e_M_wr116 nq nu, e_M_r21 nq nu, e_M_s117 nq nu, e_M_rd117 nq nu, e_M_wr117 nq nu, e_M_r22 nq nu, e_M_s118 nq nu, e_M_rd118 nq nu, e_M_wr118 nq nu, e_M_r23 nq nu, e_M_s119 nq nu, e_M_rd119 nq nu, e_M_wr119 nq nu, e_M_r24 nq nu, e_M_s120 nq nu, e_M_rd120 nq nu, e_M_wr120 nq nu, e_M_r27 nq nu, e_M_s121 nq nu, e_M_rd121 nq nu, e_M_wr121 nq nu, e_M_r28 nq nu, e_M_s122 nq nu, e_M_rd122 nq nu, e_M_wr122 nq nu, e_M_r29 nq nu, e_M_s123 nq nu, e_M_rd123 nq nu, e_M_wr123 nq nu, e_M_r30 nq nu, e_M_s124 nq nu, e_M_rd124 nq nu, e_M_wr124 nq nu, e_M_r31 nq nu, e_M_s125 nq nu, e_M_rd125 nq nu, e_M_wr125 nq nu, e_M_r32 nq nu, e_M_s126 nq nu, e_M_rd126 nq nu, e_M_wr126 nq nu, e_M_r33 nq nu, e_M_s127 nq nu, e_M_rd127 nq nu, e_M_wr127 nq nu, e_M_r34 nq nu, e_M_s128 nq nu, e_M_rd128 nq nu, e_M_wr128 nq nu, e_M_r35 nq nu, e_M_s129 nq nu, e_M_rd129 nq nu, e_M_wr129 nq nu, e_M_r36 nq nu, e_M_s130 nq nu, e_M_rd130 nq nu, e_M_wr130 nq nu, e_M_r37 nq nu, e_M_s131 nq nu, e_M_rd131 nq nu, e_M_wr131 nq nu, e_M_r38 nq nu, e_M_s132 nq nu, e_M_rd132 nq nu, e_M_wr132 nq nu, e_M_r39 nq nu, e_M_s133 nq nu, e_M_rd133 nq nu, e_M_wr133 nq nu, e_M_r40 nq nu, e_M_s134 nq nu, e_M_rd134 nq nu, e_M_wr134 nq nu, e_M_r41 nq nu, e_M_s135 nq nu, e_M_rd135 nq nu, e_M_wr135 nq nu, e_M_r42 nq nu, e_M_s136 nq nu, e_M_rd136 nq nu, e_M_wr136 nq nu, e_M_r43 nq nu, e_M_s137 nq nu, e_M_rd137 nq nu, e_M_wr137 nq nu, e_M_r44 nq nu, e_M_s138 nq nu, e_M_rd138 nq nu, e_M_wr138 nq nu, e_M_r45 nq nu, e_M_s139 nq nu, e_M_rd139 nq nu, e_M_wr139 nq nu, e_M_r46 nq nu, e_M_s140 nq nu, e_M_rd140 nq nu, e_M_wr140 nq nu, h, px_wi, px_wl, px_wc, Option.bind_some, V_isNoAccount nq nu na, M_isAccount nq nu na, M_isQuestion nq nu, M_isAuction nq nu, V_isOutside, M_isIn, i1, i2, i4, i5, i6, i7, i8, i9, i10, g2, g3, g4, hx, hy, hj8, px_i_wi, px_l_wi, px_r_wi, px_s_wi, px_i_wl, px_l_wl, px_r_wl, px_s_wl, px_i_wc, px_l_wc, px_r_wc, px_s_wc, c7]
  · simpa [sm_g, px_i_wi, px_l_wi, px_r_wi, px_s_wi, px_i_wl, px_l_wl, px_r_wl, px_s_wl, px_i_wc, px_l_wc, px_r_wc, px_s_wc, px_wi] using hg.up hT
  · intro a ha8
    have := hc a ha8
    by_cases e : a = j
    · subst e
      simp [sm_c, px_i_wi, px_l_wi, px_r_wi, px_s_wi, px_i_wl, px_l_wl, px_r_wl, px_s_wl, px_i_wc, px_l_wc, px_r_wc, px_s_wc] at this ⊢
      exact ⟨fun z => ⟨(this.1 z).1, (this.1 z).2.1, (this.1 z).2.2.1, k, hk, rfl, rfl⟩, fun z => absurd z (by omega)⟩
    · simpa [sm_c, px_i_wi, px_l_wi, px_r_wi, px_s_wi, px_i_wl, px_l_wl, px_r_wl, px_s_wl, px_i_wc, px_l_wc, px_r_wc, px_s_wc, e] using this
  · intro n hn
    simpa [sm_q, sm_qc, sm_qa, px_i_wi, px_l_wi, px_r_wi, px_s_wi, px_i_wl, px_l_wl, px_r_wl, px_s_wl, px_i_wc, px_l_wc, px_r_wc, px_s_wc, px_t1, px_t2, px_t3, px_t4] using hq n hn
  · intro n hn
    simpa [sm_a, sm_an, sm_ab, sm_al, px_i_wi, px_l_wi, px_r_wi, px_s_wi, px_i_wl, px_l_wl, px_r_wl, px_s_wl, px_i_wc, px_l_wc, px_r_wc, px_s_wc, px_t1, px_t2, px_t3, px_t4] using (ha n hn).up
