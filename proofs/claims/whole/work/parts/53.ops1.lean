/-! THE SIMPLE CALLS -/
set_option maxHeartbeats 2000000 in
theorem op_weigh {T : Nat} {M : ax_M} (hT : T < 1000) (hS : Sim T M) (x w : Int32) : ag (f_V_weigh M (some 0) x w) (fun M1 => f_M_weigh M1 (some 100) x w) (Sim (T + 1)) := by
  obtain ⟨na, nq, nu, hh, mt, hg, hc, hq, ha⟩ := id hS
  obtain ⟨h, g2, g3, g4, g5, g6, g7, i1, i2, i3, i4, i5, i6, i7, i8, i9, i10⟩ := id hg
  rcases px_ix x (n := na) (by omega) with hx | ⟨j, hj, rfl, hx⟩
  · refine ⟨-1, M, M, ?_, ?_, hS.up hT⟩
    · simp [f_V_weigh, e_V_ob h rfl, V_isNoAccount h rfl i4 g2, hx]
    · simp [f_M_weigh, e_M_ob h rfl, M_isAccount h rfl i5, hx]
  · by_cases hw : w < 0 ∨ 1000 < w
    · refine ⟨-2, M, M, ?_, ?_, hS.up hT⟩
      · simp [f_V_weigh, e_V_ob h rfl, V_isNoAccount h rfl i4 g2, hx, V_isOutside, hw]
      · simp [f_M_weigh, e_M_ob h rfl, M_isAccount h rfl i5, hx, M_isIn, hw]
    · have hj8 : j < 8 := by omega
      obtain ⟨w', hw', rfl⟩ : ∃ w', w' ≤ 1000 ∧ w = nI w' := by
        obtain ⟨k, hk, e⟩ := nI_of2 (M := 1000) (n := 1000) rfl (fun z => hw (Or.inl z)) (Int32.not_lt.mp fun z => hw (Or.inr z))
        exact ⟨k, hk, e⟩
      obtain ⟨⟨w0, c1, c2, c3⟩, c4, c5, p, c6, c7, c8⟩ := (hc j hj8).1 hj
      refine ⟨nI w0, ax_wi M 1 j (nI w'), ax_wi (ax_wi M 1 j (nI w')) 101 j (nI w'), ?_, ?_, na, nq, nu, hh, mt, ?_, ?_, ?_, ?_⟩
      · simp [f_V_weigh, e_V_ob h rfl, V_isNoAccount h rfl i4 g2, hx, V_isOutside, hw, e_V_r3 h rfl, e_V_rd1 h hj8 rfl, e_V_wr1 h hj8 rfl, c2]
      · simp [f_M_weigh, e_M_ob h (M := ax_wi M 1 j (nI w')) rfl, M_isAccount h (M := ax_wi M 1 j (nI w')) rfl i5, hx, M_isIn, hw, e_M_r4 h (M := ax_wi M 1 j (nI w')) rfl, e_M_rd101 h hj8 (M := ax_wi M 1 j (nI w')) rfl, e_M_wr101 h hj8 (M := ax_wi M 1 j (nI w')) rfl, ax_i_wi, c3]
      · simpa [sm_g, ax_i_wi, ax_l_wi, ax_r_wi, ax_s_wi, ax_i_wl, ax_l_wl, ax_r_wl, ax_s_wl, ax_i_wc, ax_l_wc, ax_r_wc, ax_s_wc, px_wi] using hg.up hT
      · intro a ha8
        have := hc a ha8
        by_cases e : a = j
        · subst e
          simp [sm_c, ax_i_wi, ax_l_wi, ax_r_wi, ax_s_wi, ax_i_wl, ax_l_wl, ax_r_wl, ax_s_wl, ax_i_wc, ax_l_wc, ax_r_wc, ax_s_wc] at this ⊢
          refine ⟨fun _ => ⟨⟨w', hw', rfl⟩, c4, c5, p, c6, c7, c8⟩, fun z => absurd z (by omega)⟩
        · simpa [sm_c, ax_i_wi, ax_l_wi, ax_r_wi, ax_s_wi, ax_i_wl, ax_l_wl, ax_r_wl, ax_s_wl, ax_i_wc, ax_l_wc, ax_r_wc, ax_s_wc, e] using this
      · intro n hn
        simpa [sm_q, sm_qc, sm_qa, ax_i_wi, ax_l_wi, ax_r_wi, ax_s_wi, ax_i_wl, ax_l_wl, ax_r_wl, ax_s_wl, ax_i_wc, ax_l_wc, ax_r_wc, ax_s_wc] using hq n hn
      · intro n hn
        simpa [sm_a, sm_an, sm_ab, sm_al, ax_i_wi, ax_l_wi, ax_r_wi, ax_s_wi, ax_i_wl, ax_l_wl, ax_r_wl, ax_s_wl, ax_i_wc, ax_l_wc, ax_r_wc, ax_s_wc] using (ha n hn).up
