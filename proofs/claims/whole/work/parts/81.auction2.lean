/-! AUCTION: both -/
def S_ou (n id k : Nat) : Prop := (10 * n + 2000 ≤ id ∧ id ≤ 10 * n + 2005) ∨ (id = 0 ∧ k = 9) ∨ S_mu n id k
theorem V_auction_22 {g : Nat} {M : ax_M} {p0 p1 p2 p3 p4 : Int32} (z0 : ¬ (p0 < 0 ∨ 4 < p0)) : f_V_auction g M (some 0) p0 p1 p2 p3 p4 = G_V_auction_22 g M (some 0) p0 p1 p2 p3 p4 (au_hi p0) 1 p1 := by
  simp only [f_V_auction, V_isOutN M z0, Option.bind_some, if_true, au_hi]
  split <;> rfl
theorem M_auction_22 {M : ax_M} {p0 p1 p2 p3 p4 : Int32} (z0 : ¬ (p0 < 0 ∨ 4 < p0)) : f_M_auction M (some 100) p0 p1 p2 p3 p4 = G_M_auction_22 M (some 100) p0 p1 p2 p3 p4 (au_hi p0) 1 p1 := by
  simp only [f_M_auction, M_isInY M z0, Option.bind_some, i32_10, if_false, au_hi]
  split <;> rfl
theorem op_auction {T : Nat} {M : ax_M} (hT : T < 1000) (hS : Sim T M) (p0 p1 p2 p3 p4 : Int32) : ag (f_V_auction (10 * (ax_i M 0 9).toNatClampNeg + 2000) M (some 0) p0 p1 p2 p3 p4) (fun M1 => f_M_auction M1 (some 100) p0 p1 p2 p3 p4) (Sim (T + 1)) := by
  by_cases z0 : p0 < 0 ∨ 4 < p0
  · refine ⟨-2, M, M, ?_, ?_, hS.up hT⟩
    · simp only [f_V_auction, V_isOutY M z0, Option.bind_some, i32_10, if_false, G_V_auction_62]
    · simp only [f_M_auction, M_isInN M z0, Option.bind_some, if_true, G_M_auction_62]
  by_cases z1 : p1 < 1 ∨ au_hi p0 < p1
  · refine ⟨-2, M, M, ?_, ?_, hS.up hT⟩
    · rw [V_auction_22 z0]; unfold G_V_auction_22
      simp only [V_isOutY M z1, Option.bind_some, i32_10, if_false, if_true, G_V_auction_62]
    · simp only [M_auction_22 z0]; unfold G_M_auction_22
      simp only [M_isInN M z1, Option.bind_some, if_true, G_M_auction_62]
  by_cases z2 : p2 < 1 ∨ 10000 < p2
  · refine ⟨-2, M, M, ?_, ?_, hS.up hT⟩
    · rw [V_auction_22 z0]; unfold G_V_auction_22
      simp only [V_isOutN M z1, V_isOutY M z2, Option.bind_some, i32_10, if_false, if_true, G_V_auction_62]
    · simp only [M_auction_22 z0]; unfold G_M_auction_22
      simp only [M_isInY M z1, M_isInN M z2, Option.bind_some, i32_10, if_false, if_true, G_M_auction_62]
  by_cases z3 : p3 < 0 ∨ 1000 < p3
  · refine ⟨-2, M, M, ?_, ?_, hS.up hT⟩
    · rw [V_auction_22 z0]; unfold G_V_auction_22
      simp only [V_isOutN M z1, V_isOutN M z2, V_isOutY M z3, Option.bind_some, i32_10, if_false, if_true, G_V_auction_62]
    · simp only [M_auction_22 z0]; unfold G_M_auction_22
      simp only [M_isInY M z1, M_isInY M z2, M_isInN M z3, Option.bind_some, i32_10, if_false, if_true, G_M_auction_62]
  by_cases z4 : p4 < 1 ∨ 50 < p4
  · refine ⟨-2, M, M, ?_, ?_, hS.up hT⟩
    · rw [V_auction_22 z0]; unfold G_V_auction_22
      simp only [V_isOutN M z1, V_isOutN M z2, V_isOutN M z3, V_isOutY M z4, Option.bind_some, i32_10, if_false, if_true, G_V_auction_62]
    · simp only [M_auction_22 z0]; unfold G_M_auction_22
      simp only [M_isInY M z1, M_isInY M z2, M_isInY M z3, M_isInN M z4, Option.bind_some, i32_10, if_false, if_true, G_M_auction_62]
  obtain ⟨na, nq, n, h, mt, hg, hc, hq, ha⟩ := id hS
  obtain ⟨W, g2, g3, g4, g5, g6, g7, i1, i2, i3, i4, i5, i6, i7, i8, i9, i10⟩ := id hg
  by_cases e6 : n = 6
  · subst e6
    refine ⟨-4, M, M, ?_, ?_, hS.up hT⟩
    · rw [V_auction_22 z0]; unfold G_V_auction_22
      simp only [V_isOutN M z1, V_isOutN M z2, V_isOutN M z3, V_isOutN M z4, Option.bind_some, if_true, e_V_gi nq 6 W, i8, show (nI 6 < 6) = False from eq_false (by decide), if_false]
    · simp only [M_auction_22 z0]; unfold G_M_auction_22
      simp only [M_isInY M z1, M_isInY M z2, M_isInY M z3, M_isInY M z4, Option.bind_some, i32_10, if_false, e_M_gi nq 6 W, i9, show (nI 6 = 6) = True from eq_true rfl, if_true]
  have hn : n < 6 := by omega
  rw [i8, nI_clamp (by omega)]
  obtain ⟨kd, hkd, ek⟩ := px_bd (n := 4) rfl z0
  obtain ⟨un, hun, hun2, hun4, eu⟩ : ∃ un, 1 ≤ un ∧ un ≤ 20 ∧ (kd ≠ 4 → un = 1) ∧ p1 = nI un := by
    by_cases k4 : p0 = 4
    · rw [au_hi, if_pos k4] at z1
      obtain ⟨un, q1, q2, q3⟩ := px_bd2 (le := 1) (n := 20) rfl (by decide) z1
      exact ⟨un, q1, q2, fun z => absurd ((nI_eq (b := 4) (by omega) (by decide)).mp (ek.symm.trans k4)) z, q3⟩
    · rw [au_hi, if_neg k4] at z1
      obtain ⟨un, q1, q2, q3⟩ := px_bd2 (le := 1) (n := 1) rfl (by decide) z1
      exact ⟨un, q1, by omega, fun _ => by omega, q3⟩
  obtain ⟨le, hle1, hle2, el⟩ := px_bd2 (le := 1) (n := 10000) rfl (by decide) z2
  obtain ⟨sp, hsp, es⟩ := px_bd (n := 1000) rfl z3
  obtain ⟨d, hd1, hd2, ed⟩ := px_bd2 (le := 1) (n := 50) rfl (by decide) z4
  have k12 : (p0 = 1 ∨ p0 = 2) ↔ (kd = 1 ∨ kd = 2) := by
    rw [ek]
    exact or_congr (nI_eq (b := 1) (by omega) (by decide)) (nI_eq (b := 2) (by omega) (by decide))
  obtain ⟨en, hen⟩ : ∃ en, en = if kd = 1 ∨ kd = 2 then h + d + 5 else h + d := ⟨_, rfl⟩
  have hen2 : en ≤ h + 55 := by rw [hen]; split <;> omega
  obtain ⟨M1, eV, vW, vf, v09, ⟨v0, v1, v2, v3, v4, v5, v11, v12, v13⟩, va⟩ := V_auction_e W g3 hn i1 i8 z0 z1 z2 z3 z4
  have m1 : ∀ id k, 100 ≤ id ∧ id < 1000 → ax_i M1 id k = ax_i M id k := fun id k z => (vf id k (by omega)).2 (by omega)
  obtain ⟨N', eM, mf, ⟨m0, m1', m2, m3, m4, m5, m6, m7, m8⟩, ma⟩ := M_auction_e vW hn (by rw [m1 100 1 (by omega)]; exact i2) (by rw [m1 100 25 (by omega)]; exact i9) z0 z1 z2 z3 z4
  have v5' : ax_i M1 (10 * n + 2000) 5 = nI en := by
    rw [v5, hen, ed]
    by_cases z : kd = 1 ∨ kd = 2
    · rw [if_pos (k12.mpr z), if_pos z, nI_add, show (5 : Int32) = nI 5 from rfl, nI_add]
    · rw [if_neg (fun w => z (k12.mp w)), if_neg z, nI_add]
  have m5' : ax_i N' 126 n = nI en := by
    rw [m5, hen, ed]
    by_cases z : kd = 1 ∨ kd = 2
    · rw [if_pos (k12.mpr z), if_pos z, nI_add, show (5 : Int32) = nI 5 from rfl, nI_add]
    · rw [if_neg (fun w => z (k12.mp w)), if_neg z, nI_add, show (0 : Int32) = nI 0 from rfl, nI_add, Nat.add_zero]
  rw [ek] at v0 m0
  rw [eu] at v1 m1'
  rw [el] at v2 m2
  rw [es] at v3 m3
  rw [ed, nI_add] at v4 m4
  have F : px_fr (S_ou n) M (N'.1, N'.2.1, M.2.2) := by
    refine ⟨rfl, fun id k z => ?_, fun id k z => ?_⟩
    · unfold S_ou at z
      exact (mf.2.1 id k (fun w => z (Or.inr (Or.inr w)))).trans ((vf id k (fun w => z (Or.inl w))).2 (fun w => z (Or.inr (Or.inl w))))
    · unfold S_ou at z
      exact (mf.2.2 id k (fun w => z (Or.inr (Or.inr w)))).trans (vf id k (fun w => z (Or.inl w))).1
  have fi : ∀ id k, ¬ S_ou n id k → ax_i N' id k = ax_i M id k := F.2.1
  have fl : ∀ id k, ¬ S_ou n id k → ax_l N' id k = ax_l M id k := F.2.2
  have gV : ∀ id k, (id < 100 ∨ 1000 ≤ id) → ax_i N' id k = ax_i M1 id k := fun id k z => mf.2.1 id k (by unfold S_mu; omega)
  refine ⟨nI n, M1, N', eV, eM, na, nq, n + 1, h, mt, ?_, fun a ha8 => ?_, fun m hm => ?_, fun m hm => ?_⟩
  · refine ⟨by rw [mf.1]; exact vW, g2, g3, by omega, by omega, by omega, by omega, ?_, ?_, ?_, ?_, ?_, ?_, ?_, ?_, ?_, ?_⟩
    · rw [fi _ _ (by unfold S_ou S_mu; omega)]; exact i1
    · rw [fi _ _ (by unfold S_ou S_mu; omega)]; exact i2
    · rw [fl _ _ (by unfold S_ou S_mu; omega), fl _ _ (by unfold S_ou S_mu; omega)]; exact i3
    · rw [fi _ _ (by unfold S_ou S_mu; omega)]; exact i4
    · rw [fi _ _ (by unfold S_ou S_mu; omega)]; exact i5
    · rw [fi _ _ (by unfold S_ou S_mu; omega)]; exact i6
    · rw [fi _ _ (by unfold S_ou S_mu; omega)]; exact i7
    · rw [gV _ _ (by omega)]; exact v09
    · exact m8
    · rw [fi _ _ (by unfold S_ou S_mu; omega)]; exact i10
  · have : sm_c na (N'.1, N'.2.1, M.2.2) a := (hc a ha8).fr F (fun id k z w => by unfold S_ou S_mu at w; omega)
    exact this
  · have : sm_q na (N'.1, N'.2.1, M.2.2) m := (hq m hm).fr F (fun id k z w => by unfold S_ou S_mu at w; omega)
    exact this
  · by_cases e : m = n
    · subst e
      refine ⟨kd, un, le, sp, h + d, en, 0, 0, fun _ => 0, fun _ => 0, fun _ => 0, fun _ => 0, fun _ => 0, fun _ => false, ?_, fun a ha8 => ?_, fun a b _ _ (z : false = true) => absurd z (by decide), ?_⟩
      · refine ⟨by omega, hun, hun2, hun4, hle1, hle2, hsp, hen, hen2, Nat.zero_le _, Nat.zero_le _, ?_, m0, ?_, m1', ?_, m2, ?_, m3, ?_, m4, ?_, m5', ?_, ?_, fun _ => m6⟩
        · rw [gV _ _ (by omega)]; exact v0
        · rw [gV _ _ (by omega)]; exact v1
        · rw [gV _ _ (by omega)]; exact v2
        · rw [gV _ _ (by omega)]; exact v3
        · rw [gV _ _ (by omega)]; exact v4
        · rw [gV _ _ (by omega)]; exact v5'
        · rw [gV _ _ (by omega)]; exact v11
        · rw [gV _ _ (by omega)]; exact v13
      · obtain ⟨y1, y2, y3, y4⟩ := va a
        obtain ⟨x1, x2, x3⟩ := ma a ha8
        have f0 : ¬ (false = true) := by decide
        have o0 : ¬ ((0 : Nat) ≠ 0) := fun z => z rfl
        refine ⟨?_, Nat.le_refl _, ?_, Nat.zero_le _, ?_, Nat.zero_le _, ?_, x3, Nat.zero_le _, x1, fun z => absurd z f0, ?_, fun z => absurd rfl z, fun _ => ⟨⟨fun z => absurd z f0, fun z => absurd rfl z⟩, ⟨fun z => absurd rfl z, fun z => absurd rfl z⟩, fun z => absurd rfl z⟩, fun _ => ⟨⟨fun z => absurd z f0, fun z => absurd rfl z⟩, rfl, fun z => absurd z f0⟩, fun _ => ⟨rfl, rfl⟩⟩
        · rw [gV _ _ (by omega)]; exact y1
        · rw [gV _ _ (by omega)]; exact y2
        · rw [gV _ _ (by omega)]; exact y3
        · rw [gV _ _ (by omega)]; exact y4
        · rw [if_neg (fun z => z.2 rfl)]; exact x2
      · refine ⟨fun _ => Or.inl ⟨rfl, ?_, fun _ _ => rfl⟩, fun _ => ⟨m7, fun _ _ _ => rfl⟩, fun _ _ => rfl, fun _ => Or.inl ⟨m7, rfl⟩⟩
        rw [gV _ _ (by omega)]; exact v12
    · have : sm_a (T + 1) na h mt (N'.1, N'.2.1, M.2.2) m := (ha m (by omega)).up.fr F (fun id k z w => by unfold S_ou S_mu at w; omega)
      exact this
