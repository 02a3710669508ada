def G_V_init_38 (g : Nat) (rec38 : ax_M → Option Nat → Int32 → Option (ax_M)) (M : ax_M) (v0 : Option Nat) (v1 : Int32) : Option (ax_M) := if 8 ≤ v1 then (ax_nw M (g + 5) (.inr (3, 6)) [v0]).bind (fun M1 => (ax_pr M1 0 8 v0 (some (g + 5))).bind (fun M3 => (ax_nw M3 (g + 6) (.inr (4, 6)) [v0]).bind (fun M4 => (ax_pr M4 0 10 v0 (some (g + 6))).bind (fun M6 => (ax_nw M6 (g + 7) (.inr (0, 8)) [v0]).bind (fun M7 => (ax_pr M7 0 11 v0 (some (g + 7))).bind (fun M9 => (ax_nw M9 (g + 8) (.inr (0, 4)) [v0]).bind (fun M10 => (ax_pr M10 0 12 v0 (some (g + 8))).bind (fun M12 => (ax_nw M12 (g + 9) (.inr (0, 4)) [v0]).bind (fun M13 => (ax_pr M13 0 13 v0 (some (g + 9))).bind (fun M15 => some M15)))))))))) else (ax_gr M 0 6 v0).bind (fun x16 => (ax_ti M 0 x16 v1 (-1)).bind (fun M17 => (some (v1 + 1)).bind (fun y18 => rec38 M17 v0 y18)))
set_option maxRecDepth 100000 in
set_option maxHeartbeats 4000000 in
theorem K_V_init_38 {Z : ax_Z} {ad0 ad : Nat → Nat} {g : Nat} {q : ax_M} (B : ax_B Z "VoteAuctions" b_V_init none) (hn : Z.2.2.2.2.2.2.2.2.2.2.2.1 = 2) (hR : ax_R Z 1 9 60) (hE : ax_E Z ad0 [g + 1, g + 2, g + 3, g + 4, g + 5, g + 6, g + 7, g + 8, g + 9] 9 60 none q) (hin : Z.2.2.2.2.2.2.2.2.1.name = "<init>") (hag : ∀ a, a ∉ ([g + 1, g + 2, g + 3, g + 4, g + 5, g + 6, g + 7, g + 8, g + 9] : List Nat) → ad a = ad0 a) {rec38 : ax_M → Option Nat → Int32 → Option (ax_M)} (hr38 : ∀ (M : ax_M) (v0 : Option Nat) (v1 : Int32), rec38 M v0 v1 = some q → ax_W Z ad 4 32 38 [(0, ax_O v0), (1, ax_I v1)] [] M) : ∀ (M : ax_M) (v0 : Option Nat) (v1 : Int32), G_V_init_38 g rec38 M v0 v1 = some q → ax_W Z ad 4 32 38 [(0, ax_O v0), (1, ax_I v1)] [] M := by
  intro M v0 v1 hf
  unfold G_V_init_38 at hf
  refine ax_iload_n B d_V_init_38 rfl (j := 1) rfl ?_
  refine ax_bipush B (v := 8) (by decide) d_V_init_39 ?_
  refine ax_icmp_ge B (tgt := 57) d_V_init_41 (by decide) hf (fun hf => ?_) (fun hf => ?_)
  · refine ax_aload_n B d_V_init_57 rfl (j := 0) rfl ?_
    refine ax_bipush B (v := 6) (by decide) d_V_init_58 ?_
    refine ax_anewarray B hR (t := 3) (N := 6) d_V_init_60 j_V_23 (by decide) rfl (by decide) (by decide) (by decide) (by decide) (ax_cvr (by simp) (ax_cvi ax_cv0)) (ax_cvr (by simp) ax_cv0) (by decide) (by decide) hf (fun M1 ad2 hag2 hf => ?_)
    replace hag := ax_ag (gs := [g + 1, g + 2, g + 3, g + 4, g + 5, g + 6, g + 7, g + 8, g + 9]) hag2 (by simp) hag
    refine ax_putFR B d_V_init_63 kf_V_25 hin rfl hf (fun M3 hf => ?_)
    refine ax_aload_n B d_V_init_66 rfl (j := 0) rfl ?_
    refine ax_bipush B (v := 6) (by decide) d_V_init_67 ?_
    refine ax_anewarray B hR (t := 4) (N := 6) d_V_init_69 j_V_29 (by decide) rfl (by decide) (by decide) (by decide) (by decide) (ax_cvr (by simp) (ax_cvi ax_cv0)) (ax_cvr (by simp) ax_cv0) (by decide) (by decide) hf (fun M4 ad5 hag2 hf => ?_)
    replace hag := ax_ag (gs := [g + 1, g + 2, g + 3, g + 4, g + 5, g + 6, g + 7, g + 8, g + 9]) hag2 (by simp) hag
    refine ax_putFR B d_V_init_72 kf_V_31 hin rfl hf (fun M6 hf => ?_)
    refine ax_aload_n B d_V_init_75 rfl (j := 0) rfl ?_
    refine ax_bipush B (v := 8) (by decide) d_V_init_76 ?_
    refine ax_newarray B hR (t := 0) (N := 8) d_V_init_78 rfl (by decide) (by decide) (by decide) (by decide) (ax_cvr (by simp) (ax_cvi ax_cv0)) (ax_cvr (by simp) ax_cv0) (by decide) (by decide) hf (fun M7 ad8 hag2 hf => ?_)
    replace hag := ax_ag (gs := [g + 1, g + 2, g + 3, g + 4, g + 5, g + 6, g + 7, g + 8, g + 9]) hag2 (by simp) hag
    refine ax_putFR B d_V_init_80 kf_V_35 hin rfl hf (fun M9 hf => ?_)
    refine ax_aload_n B d_V_init_83 rfl (j := 0) rfl ?_
    refine ax_iconst B (v := 4) (by decide) d_V_init_84 ?_
    refine ax_newarray B hR (t := 0) (N := 4) d_V_init_85 rfl (by decide) (by decide) (by decide) (by decide) (ax_cvr (by simp) (ax_cvi ax_cv0)) (ax_cvr (by simp) ax_cv0) (by decide) (by decide) hf (fun M10 ad11 hag2 hf => ?_)
    replace hag := ax_ag (gs := [g + 1, g + 2, g + 3, g + 4, g + 5, g + 6, g + 7, g + 8, g + 9]) hag2 (by simp) hag
    refine ax_putFR B d_V_init_87 kf_V_38 hin rfl hf (fun M12 hf => ?_)
    refine ax_aload_n B d_V_init_90 rfl (j := 0) rfl ?_
    refine ax_iconst B (v := 4) (by decide) d_V_init_91 ?_
    refine ax_newarray B hR (t := 0) (N := 4) d_V_init_92 rfl (by decide) (by decide) (by decide) (by decide) (ax_cvr (by simp) (ax_cvi ax_cv0)) (ax_cvr (by simp) ax_cv0) (by decide) (by decide) hf (fun M13 ad14 hag2 hf => ?_)
    replace hag := ax_ag (gs := [g + 1, g + 2, g + 3, g + 4, g + 5, g + 6, g + 7, g + 8, g + 9]) hag2 (by simp) hag
    refine ax_putFR B d_V_init_94 kf_V_41 hin rfl hf (fun M15 hf => ?_)
    exact ax_vreturn B hE d_V_init_97 hf hag (by decide) (by decide)
  · refine ax_aload_n B d_V_init_44 rfl (j := 0) rfl ?_
    refine ax_getR B d_V_init_45 k_V_20 rfl hf (fun x16 hf => ?_)
    refine ax_iload_n B d_V_init_48 rfl (j := 1) rfl ?_
    refine ax_iconst B (v := (-1)) (by decide) d_V_init_49 ?_
    refine ax_iast B d_V_init_50 (t := 0) (by decide) rfl hf (fun M17 hf => ?_)
    refine ax_iincN B (j := 1) (lv' := fun y => [(1, ax_I y), (0, ax_O v0)]) d_V_init_51 rfl hf rfl (by rw [hn]; decide) (fun _ => rfl) (fun y18 hf => ?_)
    refine ax_goto B (tgt := 38) d_V_init_54 (by decide) ?_
    refine ax_sub [1, 0] rfl ?_
    exact hr38 M17 v0 y18 hf
def F_V_init_38 (g : Nat)  : Nat → ax_M → Option Nat → Int32 → Option (ax_M)
  | 0 => fun _ _ _ => none
  | n + 1 => G_V_init_38 g (F_V_init_38 g  n)
set_option maxRecDepth 100000 in
set_option maxHeartbeats 4000000 in
theorem L_V_init_38 {Z : ax_Z} {ad0 ad : Nat → Nat} {g : Nat} {q : ax_M} (B : ax_B Z "VoteAuctions" b_V_init none) (hn : Z.2.2.2.2.2.2.2.2.2.2.2.1 = 2) (hR : ax_R Z 1 9 60) (hE : ax_E Z ad0 [g + 1, g + 2, g + 3, g + 4, g + 5, g + 6, g + 7, g + 8, g + 9] 9 60 none q) (hin : Z.2.2.2.2.2.2.2.2.1.name = "<init>") (hag : ∀ a, a ∉ ([g + 1, g + 2, g + 3, g + 4, g + 5, g + 6, g + 7, g + 8, g + 9] : List Nat) → ad a = ad0 a)   : ∀ (n : Nat) (M : ax_M) (v0 : Option Nat) (v1 : Int32), F_V_init_38 g  n M v0 v1 = some q → ax_W Z ad 4 32 38 [(0, ax_O v0), (1, ax_I v1)] [] M := by
  intro n
  induction n with
  | zero => intro M v0 v1 hf; cases hf
  | succ n ih => exact K_V_init_38 B hn hR hE hin hag ih
def f_V_init (g : Nat) (M : ax_M) (o : Nat) : Option (ax_M) := (ax_nw M (g + 1) (.inr (0, 8)) [(some o)]).bind (fun M1 => (ax_pr M1 0 3 (some o) (some (g + 1))).bind (fun M3 => (ax_nw M3 (g + 2) (.inr (1, 8)) [(some o)]).bind (fun M4 => (ax_pr M4 0 4 (some o) (some (g + 2))).bind (fun M6 => (ax_nw M6 (g + 3) (.inr (1, 8)) [(some o)]).bind (fun M7 => (ax_pr M7 0 5 (some o) (some (g + 3))).bind (fun M9 => (ax_nw M9 (g + 4) (.inr (0, 8)) [(some o)]).bind (fun M10 => (ax_pr M10 0 6 (some o) (some (g + 4))).bind (fun M12 => F_V_init_38 g 64 M12 (some o) 0))))))))
set_option maxRecDepth 100000 in
set_option maxHeartbeats 4000000 in
theorem c_V_init (l : Launch) (G : ax_G) (g : Nat) (M : ax_M) (o : Nat) {q : ax_M} (hf : f_V_init g M o = some q) : ax_C l G y_V_init b_V_init 2 none [g + 1, g + 2, g + 3, g + 4, g + 5, g + 6, g + 7, g + 8, g + 9] 1 9 60 [ax_O (some o)] M none q := by
  refine ax_ofW (by decide +kernel) (lv0 := [(0, ax_O (some o))]) (Nat.le_of_ble_eq_true rfl) rfl ?_
  intro Z ad B hin _ _ hn hR hE
  have hag : ∀ a, a ∉ ([g + 1, g + 2, g + 3, g + 4, g + 5, g + 6, g + 7, g + 8, g + 9] : List Nat) → ad a = ad a := fun _ _ => rfl
  have hin : Z.2.2.2.2.2.2.2.2.1.name = "<init>" := hin
  unfold f_V_init at hf
  refine ax_aload_n B d_V_init_0 rfl (j := 0) rfl ?_
  refine ax_objInit B hR d_V_init_1 l_V_1 (by decide) (Nat.le_of_ble_eq_true rfl) ?_
  refine ax_aload_n B d_V_init_4 rfl (j := 0) rfl ?_
  refine ax_bipush B (v := 8) (by decide) d_V_init_5 ?_
  refine ax_newarray B hR (t := 0) (N := 8) d_V_init_7 rfl (by decide) (by decide) (by decide) (by decide) (ax_cvr (by simp) ax_cv0) (ax_cvr (by simp) ax_cv0) (by decide) (by decide) hf (fun M1 ad2 hag2 hf => ?_)
  replace hag := ax_ag (gs := [g + 1, g + 2, g + 3, g + 4, g + 5, g + 6, g + 7, g + 8, g + 9]) hag2 (by simp) hag
  refine ax_putFR B d_V_init_9 kf_V_9 hin rfl hf (fun M3 hf => ?_)
  refine ax_aload_n B d_V_init_12 rfl (j := 0) rfl ?_
  refine ax_bipush B (v := 8) (by decide) d_V_init_13 ?_
  refine ax_newarray B hR (t := 1) (N := 8) d_V_init_15 rfl (by decide) (by decide) (by decide) (by decide) (ax_cvr (by simp) ax_cv0) (ax_cvr (by simp) ax_cv0) (by decide) (by decide) hf (fun M4 ad5 hag2 hf => ?_)
  replace hag := ax_ag (gs := [g + 1, g + 2, g + 3, g + 4, g + 5, g + 6, g + 7, g + 8, g + 9]) hag2 (by simp) hag
  refine ax_putFR B d_V_init_17 kf_V_13 hin rfl hf (fun M6 hf => ?_)
  refine ax_aload_n B d_V_init_20 rfl (j := 0) rfl ?_
  refine ax_bipush B (v := 8) (by decide) d_V_init_21 ?_
  refine ax_newarray B hR (t := 1) (N := 8) d_V_init_23 rfl (by decide) (by decide) (by decide) (by decide) (ax_cvr (by simp) ax_cv0) (ax_cvr (by simp) ax_cv0) (by decide) (by decide) hf (fun M7 ad8 hag2 hf => ?_)
  replace hag := ax_ag (gs := [g + 1, g + 2, g + 3, g + 4, g + 5, g + 6, g + 7, g + 8, g + 9]) hag2 (by simp) hag
  refine ax_putFR B d_V_init_25 kf_V_17 hin rfl hf (fun M9 hf => ?_)
  refine ax_aload_n B d_V_init_28 rfl (j := 0) rfl ?_
  refine ax_bipush B (v := 8) (by decide) d_V_init_29 ?_
  refine ax_newarray B hR (t := 0) (N := 8) d_V_init_31 rfl (by decide) (by decide) (by decide) (by decide) (ax_cvr (by simp) ax_cv0) (ax_cvr (by simp) ax_cv0) (by decide) (by decide) hf (fun M10 ad11 hag2 hf => ?_)
  replace hag := ax_ag (gs := [g + 1, g + 2, g + 3, g + 4, g + 5, g + 6, g + 7, g + 8, g + 9]) hag2 (by simp) hag
  refine ax_putFR B d_V_init_33 kf_V_20 hin rfl hf (fun M12 hf => ?_)
  refine ax_iconst B (v := 0) (by decide) d_V_init_36 ?_
  refine ax_istore_n B (lv' := [(1, ax_I 0), (0, ax_O (some o))]) d_V_init_37 rfl (by rw [hn]; decide) rfl ?_
  refine ax_sub [1, 0] rfl ?_
  exact L_V_init_38 B hn hR hE hin hag 64 M12 (some o) 0 hf
def G_V_isOutside_15  (M : ax_M) (s0 : Int32) : Option (Int32 × ax_M) := (ax_bo s0).bind (fun _ => some (s0, M))
set_option maxRecDepth 100000 in
set_option maxHeartbeats 4000000 in
theorem K_V_isOutside_15 {Z : ax_Z} {ad0 ad : Nat → Nat} {q : Int32 × ax_M} (B : ax_B Z "VoteAuctions" b_V_isOutside (some .boolean)) (hn : Z.2.2.2.2.2.2.2.2.2.2.2.1 = 3) (hR : ax_R Z 0 0 0) (hE : ax_E Z ad0 [] 0 0 (some (ax_I q.1)) q.2) (hag : ∀ a, a ∉ ([] : List Nat) → ad a = ad0 a)   : ∀ (M : ax_M) (s0 : Int32), G_V_isOutside_15  M s0 = some q → ax_W Z ad 0 0 15 [] [ax_I s0] M := by
  intro M s0 hf
  unfold G_V_isOutside_15 at hf
  obtain ⟨_, hb, hf⟩ := ax_bd hf
  exact ax_ireturn B hE d_V_isOutside_15 hf (ax_bo_n hb) hag (by decide) (by decide)
def G_V_isOutside_10  (M : ax_M)  : Option (Int32 × ax_M) := G_V_isOutside_15 M 1
set_option maxRecDepth 100000 in
set_option maxHeartbeats 4000000 in
theorem K_V_isOutside_10 {Z : ax_Z} {ad0 ad : Nat → Nat} {q : Int32 × ax_M} (B : ax_B Z "VoteAuctions" b_V_isOutside (some .boolean)) (hn : Z.2.2.2.2.2.2.2.2.2.2.2.1 = 3) (hR : ax_R Z 0 0 0) (hE : ax_E Z ad0 [] 0 0 (some (ax_I q.1)) q.2) (hag : ∀ a, a ∉ ([] : List Nat) → ad a = ad0 a)   : ∀ (M : ax_M) , G_V_isOutside_10  M  = some q → ax_W Z ad 0 0 10 [] [] M := by
  intro M  hf
  unfold G_V_isOutside_10 at hf
  refine ax_iconst B (v := 1) (by decide) d_V_isOutside_10 ?_
  refine ax_goto B (tgt := 15) d_V_isOutside_11 (by decide) ?_
  exact K_V_isOutside_15 B hn hR hE hag M 1 hf
def f_V_isOutside (M : ax_M) (p0 : Int32) (p1 : Int32) (p2 : Int32) : Option (Int32 × ax_M) := if p0 < p1 then G_V_isOutside_10 M else if p0 ≤ p2 then G_V_isOutside_15 M 0 else G_V_isOutside_10 M
set_option maxRecDepth 100000 in
set_option maxHeartbeats 4000000 in
theorem c_V_isOutside (l : Launch) (G : ax_G) (M : ax_M) (p0 : Int32) (p1 : Int32) (p2 : Int32) {q : Int32 × ax_M} (hf : f_V_isOutside M p0 p1 p2 = some q) : ax_C l G y_V_isOutside b_V_isOutside 3 (some .boolean) [] 0 0 0 [ax_I p0, ax_I p1, ax_I p2] M (some (ax_I q.1)) q.2 := by
  refine ax_ofW (by decide +kernel) (lv0 := [(0, ax_I p0), (1, ax_I p1), (2, ax_I p2)]) (Nat.le_of_ble_eq_true rfl) rfl ?_
  intro Z ad B hin _ _ hn hR hE
  have hag : ∀ a, a ∉ ([] : List Nat) → ad a = ad a := fun _ _ => rfl
  unfold f_V_isOutside at hf
  refine ax_iload_n B d_V_isOutside_0 rfl (j := 0) rfl ?_
  refine ax_iload_n B d_V_isOutside_1 rfl (j := 1) rfl ?_
  refine ax_icmp_lt B (tgt := 10) d_V_isOutside_2 (by decide) hf (fun hf => ?_) (fun hf => ?_)
  · refine ax_sub [] rfl ?_
    exact K_V_isOutside_10 B hn hR hE hag M hf
  · refine ax_iload_n B d_V_isOutside_5 rfl (j := 0) rfl ?_
    refine ax_iload_n B d_V_isOutside_6 rfl (j := 2) rfl ?_
    refine ax_icmp_le B (tgt := 14) d_V_isOutside_7 (by decide) hf (fun hf => ?_) (fun hf => ?_)
    · refine ax_iconst B (v := 0) (by decide) d_V_isOutside_14 ?_
      refine ax_sub [] rfl ?_
      exact K_V_isOutside_15 B hn hR hE hag M 0 hf
    · refine ax_sub [] rfl ?_
      exact K_V_isOutside_10 B hn hR hE hag M hf
def G_V_account_21  (M : ax_M)  : Option (Int32 × ax_M) := some ((-2), M)
set_option maxRecDepth 100000 in
set_option maxHeartbeats 4000000 in
theorem K_V_account_21 {Z : ax_Z} {ad0 ad : Nat → Nat} {q : Int32 × ax_M} (B : ax_B Z "VoteAuctions" b_V_account (some .int)) (hn : Z.2.2.2.2.2.2.2.2.2.2.2.1 = 4) (hR : ax_R Z 1 0 0) (hE : ax_E Z ad0 [] 0 0 (some (ax_I q.1)) q.2) (hag : ∀ a, a ∉ ([] : List Nat) → ad a = ad0 a)   : ∀ (M : ax_M) , G_V_account_21  M  = some q → ax_W Z ad 0 0 21 [] [] M := by
  intro M  hf
  unfold G_V_account_21 at hf
  refine ax_bipush B (v := (-2)) (by decide) d_V_account_21 ?_
  exact ax_ireturn B hE d_V_account_23 hf rfl hag (by decide) (by decide)
def f_V_account (M : ax_M) (x0 : Option Nat) (p0 : Int32) (p1 : Int32) : Option (Int32 × ax_M) := (f_V_isOutside M p0 0 1000).bind (fun q1 => if q1.1 = 0 then (f_V_isOutside q1.2 p1 0 1000000).bind (fun q2 => if q2.1 = 0 then (ax_gi q2.2 0 2 x0).bind (fun x3 => if x3 < 8 then (ax_gi q2.2 0 2 x0).bind (fun x4 => (ax_gr q2.2 0 3 x0).bind (fun x5 => (ax_ti q2.2 0 x5 x4 p0).bind (fun M6 => (ax_gr M6 0 4 x0).bind (fun x7 => (ax_tl M6 1 x7 x4 (p1.toInt64)).bind (fun M8 => (ax_gi M8 0 2 x0).bind (fun x9 => (ax_pi M8 0 2 x0 (x9 + 1)).bind (fun M10 => some (x4, M10)))))))) else some ((-4), q2.2)) else G_V_account_21 q2.2) else G_V_account_21 q1.2)
set_option maxRecDepth 100000 in
set_option maxHeartbeats 4000000 in
theorem c_V_account (l : Launch) (G : ax_G) (M : ax_M) (x0 : Option Nat) (p0 : Int32) (p1 : Int32) {q : Int32 × ax_M} (hf : f_V_account M x0 p0 p1 = some q) : ax_C l G y_V_account b_V_account 4 (some .int) [] 1 0 0 [ax_O x0, ax_I p0, ax_I p1] M (some (ax_I q.1)) q.2 := by
  refine ax_ofW (by decide +kernel) (lv0 := [(0, ax_O x0), (1, ax_I p0), (2, ax_I p1)]) (Nat.le_of_ble_eq_true rfl) rfl ?_
  intro Z ad B hin _ _ hn hR hE
  have hag : ∀ a, a ∉ ([] : List Nat) → ad a = ad a := fun _ _ => rfl
  unfold f_V_account at hf
  refine ax_iload_n B d_V_account_0 rfl (j := 1) rfl ?_
  refine ax_iconst B (v := 0) (by decide) d_V_account_1 ?_
  refine ax_sipush B (v := 1000) (by decide) d_V_account_2 ?_
  refine ax_cSV B hR (as := [ax_I p0, ax_I 0, ax_I 1000]) (V := fun q => ax_I q.1) (N := fun q => q.2) d_V_account_5 l_V_44 m_V_isOutside hf (fun q h => c_V_isOutside _ _ _ _ _ _ h) rfl rfl (by decide) (by decide) (by decide) (by decide) (Nat.le_of_ble_eq_true rfl) (fun q1 hf => ?_)
  refine ax_if_ne B (tgt := 21) d_V_account_8 (by decide) hf (fun hf => ?_) (fun hf => ?_)
  · refine ax_iload_n B d_V_account_11 rfl (j := 2) rfl ?_
    refine ax_iconst B (v := 0) (by decide) d_V_account_12 ?_
    refine ax_ldc B (v := 1000000) n_V_48 d_V_account_13 ?_
    refine ax_cSV B hR (as := [ax_I p1, ax_I 0, ax_I 1000000]) (V := fun q => ax_I q.1) (N := fun q => q.2) d_V_account_15 l_V_44 m_V_isOutside hf (fun q h => c_V_isOutside _ _ _ _ _ _ h) rfl rfl (by decide) (by decide) (by decide) (by decide) (Nat.le_of_ble_eq_true rfl) (fun q2 hf => ?_)
    refine ax_if_eq B (tgt := 24) d_V_account_18 (by decide) hf (fun hf => ?_) (fun hf => ?_)
    · refine ax_aload_n B d_V_account_24 rfl (j := 0) rfl ?_
      refine ax_getI B d_V_account_25 k_V_49 rfl hf (fun x3 hf => ?_)
      refine ax_bipush B (v := 8) (by decide) d_V_account_28 ?_
      refine ax_icmp_lt B (tgt := 36) d_V_account_30 (by decide) hf (fun hf => ?_) (fun hf => ?_)
      · refine ax_aload_n B d_V_account_36 rfl (j := 0) rfl ?_
        refine ax_getI B d_V_account_37 k_V_49 rfl hf (fun x4 hf => ?_)
        refine ax_istore_n B (lv' := [(3, ax_I x4), (0, ax_O x0), (1, ax_I p0), (2, ax_I p1)]) d_V_account_40 rfl (by rw [hn]; decide) rfl ?_
        refine ax_aload_n B d_V_account_41 rfl (j := 1) rfl ?_
        refine ax_getR B d_V_account_42 k_V_9 rfl hf (fun x5 hf => ?_)
        refine ax_iload_n B d_V_account_45 rfl (j := 0) rfl ?_
        refine ax_iload_n B d_V_account_46 rfl (j := 2) rfl ?_
        refine ax_iast B d_V_account_47 (t := 0) (by decide) rfl hf (fun M6 hf => ?_)
        refine ax_aload_n B d_V_account_48 rfl (j := 1) rfl ?_
        refine ax_getR B d_V_account_49 k_V_13 rfl hf (fun x7 hf => ?_)
        refine ax_iload_n B d_V_account_52 rfl (j := 0) rfl ?_
        refine ax_iload_n B d_V_account_53 rfl (j := 3) rfl ?_
        refine ax_i2l B d_V_account_54 ?_
        refine ax_last B d_V_account_55 (t := 1) (by decide) rfl hf (fun M8 hf => ?_)
        refine ax_aload_n B d_V_account_56 rfl (j := 1) rfl ?_
        refine ax_dup B rfl d_V_account_57 ?_
        refine ax_getI B d_V_account_58 k_V_49 rfl hf (fun x9 hf => ?_)
        refine ax_iconst B (v := 1) (by decide) d_V_account_61 ?_
        refine ax_iadd B d_V_account_62 ?_
        refine ax_putI B d_V_account_63 k_V_49 rfl rfl rfl rfl hf (fun M10 hf => ?_)
        refine ax_iload_n B d_V_account_66 rfl (j := 0) rfl ?_
        exact ax_ireturn B hE d_V_account_67 hf rfl hag (by decide) (by decide)
      · refine ax_bipush B (v := (-4)) (by decide) d_V_account_33 ?_
        exact ax_ireturn B hE d_V_account_35 hf rfl hag (by decide) (by decide)
    · refine ax_sub [] rfl ?_
      exact K_V_account_21 B hn hR hE hag q2.2 hf
  · refine ax_sub [] rfl ?_
    exact K_V_account_21 B hn hR hE hag q1.2 hf
def G_V_isNoAccount_23  (M : ax_M) (s0 : Int32) : Option (Int32 × ax_M) := (ax_bo s0).bind (fun _ => some (s0, M))
set_option maxRecDepth 100000 in
set_option maxHeartbeats 4000000 in
theorem K_V_isNoAccount_23 {Z : ax_Z} {ad0 ad : Nat → Nat} {q : Int32 × ax_M} (B : ax_B Z "VoteAuctions" b_V_isNoAccount (some .boolean)) (hn : Z.2.2.2.2.2.2.2.2.2.2.2.1 = 2) (hR : ax_R Z 0 0 0) (hE : ax_E Z ad0 [] 0 0 (some (ax_I q.1)) q.2) (hag : ∀ a, a ∉ ([] : List Nat) → ad a = ad0 a)   : ∀ (M : ax_M) (s0 : Int32), G_V_isNoAccount_23  M s0 = some q → ax_W Z ad 0 0 23 [] [ax_I s0] M := by
  intro M s0 hf
  unfold G_V_isNoAccount_23 at hf
  obtain ⟨_, hb, hf⟩ := ax_bd hf
  exact ax_ireturn B hE d_V_isNoAccount_23 hf (ax_bo_n hb) hag (by decide) (by decide)
def G_V_isNoAccount_18  (M : ax_M)  : Option (Int32 × ax_M) := G_V_isNoAccount_23 M 1
set_option maxRecDepth 100000 in
set_option maxHeartbeats 4000000 in
theorem K_V_isNoAccount_18 {Z : ax_Z} {ad0 ad : Nat → Nat} {q : Int32 × ax_M} (B : ax_B Z "VoteAuctions" b_V_isNoAccount (some .boolean)) (hn : Z.2.2.2.2.2.2.2.2.2.2.2.1 = 2) (hR : ax_R Z 0 0 0) (hE : ax_E Z ad0 [] 0 0 (some (ax_I q.1)) q.2) (hag : ∀ a, a ∉ ([] : List Nat) → ad a = ad0 a)   : ∀ (M : ax_M) , G_V_isNoAccount_18  M  = some q → ax_W Z ad 0 0 18 [] [] M := by
  intro M  hf
  unfold G_V_isNoAccount_18 at hf
  refine ax_iconst B (v := 1) (by decide) d_V_isNoAccount_18 ?_
  refine ax_goto B (tgt := 23) d_V_isNoAccount_19 (by decide) ?_
  exact K_V_isNoAccount_23 B hn hR hE hag M 1 hf
def f_V_isNoAccount (M : ax_M) (x0 : Option Nat) (p0 : Int32) : Option (Int32 × ax_M) := if p0 < 0 then G_V_isNoAccount_18 M else (ax_gi M 0 2 x0).bind (fun x1 => if x1 ≤ p0 then G_V_isNoAccount_18 M else if p0 < 8 then G_V_isNoAccount_23 M 0 else G_V_isNoAccount_18 M)
set_option maxRecDepth 100000 in
set_option maxHeartbeats 4000000 in
theorem c_V_isNoAccount (l : Launch) (G : ax_G) (M : ax_M) (x0 : Option Nat) (p0 : Int32) {q : Int32 × ax_M} (hf : f_V_isNoAccount M x0 p0 = some q) : ax_C l G y_V_isNoAccount b_V_isNoAccount 2 (some .boolean) [] 0 0 0 [ax_O x0, ax_I p0] M (some (ax_I q.1)) q.2 := by
  refine ax_ofW (by decide +kernel) (lv0 := [(0, ax_O x0), (1, ax_I p0)]) (Nat.le_of_ble_eq_true rfl) rfl ?_
  intro Z ad B hin _ _ hn hR hE
  have hag : ∀ a, a ∉ ([] : List Nat) → ad a = ad a := fun _ _ => rfl
  unfold f_V_isNoAccount at hf
  refine ax_iload_n B d_V_isNoAccount_0 rfl (j := 1) rfl ?_
  refine ax_if_lt B (tgt := 18) d_V_isNoAccount_1 (by decide) hf (fun hf => ?_) (fun hf => ?_)
  · refine ax_sub [] rfl ?_
    exact K_V_isNoAccount_18 B hn hR hE hag M hf
  · refine ax_iload_n B d_V_isNoAccount_4 rfl (j := 1) rfl ?_
    refine ax_aload_n B d_V_isNoAccount_5 rfl (j := 0) rfl ?_
    refine ax_getI B d_V_isNoAccount_6 k_V_49 rfl hf (fun x1 hf => ?_)
    refine ax_icmp_ge B (tgt := 18) d_V_isNoAccount_9 (by decide) hf (fun hf => ?_) (fun hf => ?_)
    · refine ax_sub [] rfl ?_
      exact K_V_isNoAccount_18 B hn hR hE hag M hf
    · refine ax_iload_n B d_V_isNoAccount_12 rfl (j := 1) rfl ?_
      refine ax_bipush B (v := 8) (by decide) d_V_isNoAccount_13 ?_
      refine ax_icmp_lt B (tgt := 22) d_V_isNoAccount_15 (by decide) hf (fun hf => ?_) (fun hf => ?_)
      · refine ax_iconst B (v := 0) (by decide) d_V_isNoAccount_22 ?_
        refine ax_sub [] rfl ?_
        exact K_V_isNoAccount_23 B hn hR hE hag M 0 hf
      · refine ax_sub [] rfl ?_
        exact K_V_isNoAccount_18 B hn hR hE hag M hf
def f_V_weigh (M : ax_M) (x0 : Option Nat) (p0 : Int32) (p1 : Int32) : Option (Int32 × ax_M) := (ax_ob M 0 x0).bind (fun _ => (f_V_isNoAccount M x0 p0).bind (fun q1 => if q1.1 = 0 then (f_V_isOutside q1.2 p1 0 1000).bind (fun q2 => if q2.1 = 0 then (ax_gr q2.2 0 3 x0).bind (fun x3 => (ax_ri q2.2 0 x3 p0).bind (fun x4 => (ax_gr q2.2 0 3 x0).bind (fun x5 => (ax_ti q2.2 0 x5 p0 p1).bind (fun M6 => some (x4, M6))))) else some ((-2), q2.2)) else some ((-1), q1.2)))
set_option maxRecDepth 100000 in
set_option maxHeartbeats 4000000 in
theorem c_V_weigh (l : Launch) (G : ax_G) (M : ax_M) (x0 : Option Nat) (p0 : Int32) (p1 : Int32) {q : Int32 × ax_M} (hf : f_V_weigh M x0 p0 p1 = some q) : ax_C l G y_V_weigh b_V_weigh 4 (some .int) [] 1 0 0 [ax_O x0, ax_I p0, ax_I p1] M (some (ax_I q.1)) q.2 := by
  refine ax_ofW (by decide +kernel) (lv0 := [(0, ax_O x0), (1, ax_I p0), (2, ax_I p1)]) (Nat.le_of_ble_eq_true rfl) rfl ?_
  intro Z ad B hin _ _ hn hR hE
  have hag : ∀ a, a ∉ ([] : List Nat) → ad a = ad a := fun _ _ => rfl
  unfold f_V_weigh at hf
  refine ax_aload_n B d_V_weigh_0 rfl (j := 0) rfl ?_
  refine ax_iload_n B d_V_weigh_1 rfl (j := 1) rfl ?_
  refine ax_cVV B hR (as := [ax_I p0]) (V := fun q => ax_I q.1) (N := fun q => q.2) d_V_weigh_2 l_V_53 m_V_isNoAccount hf (fun q h => c_V_isNoAccount _ _ _ _ _ h) rfl rfl (by decide) (by decide) (by decide) (by decide) (Nat.le_of_ble_eq_true rfl) (fun q1 hf => ?_)
  refine ax_if_eq B (tgt := 10) d_V_weigh_5 (by decide) hf (fun hf => ?_) (fun hf => ?_)
  · refine ax_iload_n B d_V_weigh_10 rfl (j := 2) rfl ?_
    refine ax_iconst B (v := 0) (by decide) d_V_weigh_11 ?_
    refine ax_sipush B (v := 1000) (by decide) d_V_weigh_12 ?_
    refine ax_cSV B hR (as := [ax_I p1, ax_I 0, ax_I 1000]) (V := fun q => ax_I q.1) (N := fun q => q.2) d_V_weigh_15 l_V_44 m_V_isOutside hf (fun q h => c_V_isOutside _ _ _ _ _ _ h) rfl rfl (by decide) (by decide) (by decide) (by decide) (Nat.le_of_ble_eq_true rfl) (fun q2 hf => ?_)
    refine ax_if_eq B (tgt := 24) d_V_weigh_18 (by decide) hf (fun hf => ?_) (fun hf => ?_)
    · refine ax_aload_n B d_V_weigh_24 rfl (j := 0) rfl ?_
      refine ax_getR B d_V_weigh_25 k_V_9 rfl hf (fun x3 hf => ?_)
      refine ax_iload_n B d_V_weigh_28 rfl (j := 1) rfl ?_
      refine ax_iald B d_V_weigh_29 (t := 0) (by decide) rfl hf (fun x4 hf => ?_)
      refine ax_istore_n B (lv' := [(3, ax_I x4), (0, ax_O x0), (1, ax_I p0), (2, ax_I p1)]) d_V_weigh_30 rfl (by rw [hn]; decide) rfl ?_
      refine ax_aload_n B d_V_weigh_31 rfl (j := 1) rfl ?_
      refine ax_getR B d_V_weigh_32 k_V_9 rfl hf (fun x5 hf => ?_)
      refine ax_iload_n B d_V_weigh_35 rfl (j := 2) rfl ?_
      refine ax_iload_n B d_V_weigh_36 rfl (j := 3) rfl ?_
      refine ax_iast B d_V_weigh_37 (t := 0) (by decide) rfl hf (fun M6 hf => ?_)
      refine ax_iload_n B d_V_weigh_38 rfl (j := 0) rfl ?_
      exact ax_ireturn B hE d_V_weigh_39 hf rfl hag (by decide) (by decide)
    · refine ax_bipush B (v := (-2)) (by decide) d_V_weigh_21 ?_
      exact ax_ireturn B hE d_V_weigh_23 hf rfl hag (by decide) (by decide)
  · refine ax_iconst B (v := (-1)) (by decide) d_V_weigh_8 ?_
    exact ax_ireturn B hE d_V_weigh_9 hf rfl hag (by decide) (by decide)
def f_V_fund (M : ax_M) (x0 : Option Nat) (p0 : Int32) (p1 : Int32) : Option (Int32 × ax_M) := (ax_ob M 0 x0).bind (fun _ => (f_V_isNoAccount M x0 p0).bind (fun q1 => if q1.1 = 0 then (f_V_isOutside q1.2 p1 0 100000).bind (fun q2 => if q2.1 = 0 then (ax_gr q2.2 0 4 x0).bind (fun x3 => (ax_rl q2.2 1 x3 p0).bind (fun x4 => (ax_tl q2.2 1 x3 p0 (x4 + (p1.toInt64))).bind (fun M5 => some (1, M5)))) else some ((-2), q2.2)) else some ((-1), q1.2)))
set_option maxRecDepth 100000 in
set_option maxHeartbeats 4000000 in
theorem c_V_fund (l : Launch) (G : ax_G) (M : ax_M) (x0 : Option Nat) (p0 : Int32) (p1 : Int32) {q : Int32 × ax_M} (hf : f_V_fund M x0 p0 p1 = some q) : ax_C l G y_V_fund b_V_fund 3 (some .int) [] 1 0 0 [ax_O x0, ax_I p0, ax_I p1] M (some (ax_I q.1)) q.2 := by
  refine ax_ofW (by decide +kernel) (lv0 := [(0, ax_O x0), (1, ax_I p0), (2, ax_I p1)]) (Nat.le_of_ble_eq_true rfl) rfl ?_
  intro Z ad B hin _ _ hn hR hE
  have hag : ∀ a, a ∉ ([] : List Nat) → ad a = ad a := fun _ _ => rfl
  unfold f_V_fund at hf
  refine ax_aload_n B d_V_fund_0 rfl (j := 0) rfl ?_
  refine ax_iload_n B d_V_fund_1 rfl (j := 1) rfl ?_
  refine ax_cVV B hR (as := [ax_I p0]) (V := fun q => ax_I q.1) (N := fun q => q.2) d_V_fund_2 l_V_53 m_V_isNoAccount hf (fun q h => c_V_isNoAccount _ _ _ _ _ h) rfl rfl (by decide) (by decide) (by decide) (by decide) (Nat.le_of_ble_eq_true rfl) (fun q1 hf => ?_)
  refine ax_if_eq B (tgt := 10) d_V_fund_5 (by decide) hf (fun hf => ?_) (fun hf => ?_)
  · refine ax_iload_n B d_V_fund_10 rfl (j := 2) rfl ?_
    refine ax_iconst B (v := 0) (by decide) d_V_fund_11 ?_
    refine ax_ldc B (v := 100000) n_V_57 d_V_fund_12 ?_
    refine ax_cSV B hR (as := [ax_I p1, ax_I 0, ax_I 100000]) (V := fun q => ax_I q.1) (N := fun q => q.2) d_V_fund_14 l_V_44 m_V_isOutside hf (fun q h => c_V_isOutside _ _ _ _ _ _ h) rfl rfl (by decide) (by decide) (by decide) (by decide) (Nat.le_of_ble_eq_true rfl) (fun q2 hf => ?_)
    refine ax_if_eq B (tgt := 23) d_V_fund_17 (by decide) hf (fun hf => ?_) (fun hf => ?_)
    · refine ax_aload_n B d_V_fund_23 rfl (j := 0) rfl ?_
      refine ax_getR B d_V_fund_24 k_V_13 rfl hf (fun x3 hf => ?_)
      refine ax_iload_n B d_V_fund_27 rfl (j := 1) rfl ?_
      refine ax_dup2_11 B rfl rfl d_V_fund_28 ?_
      refine ax_lald B d_V_fund_29 (t := 1) (by decide) rfl hf (fun x4 hf => ?_)
      refine ax_iload_n B d_V_fund_30 rfl (j := 2) rfl ?_
      refine ax_i2l B d_V_fund_31 ?_
      refine ax_ladd B d_V_fund_32 ?_
      refine ax_last B d_V_fund_33 (t := 1) (by decide) rfl hf (fun M5 hf => ?_)
      refine ax_iconst B (v := 1) (by decide) d_V_fund_34 ?_
      exact ax_ireturn B hE d_V_fund_35 hf rfl hag (by decide) (by decide)
    · refine ax_bipush B (v := (-2)) (by decide) d_V_fund_20 ?_
      exact ax_ireturn B hE d_V_fund_22 hf rfl hag (by decide) (by decide)
  · refine ax_iconst B (v := (-1)) (by decide) d_V_fund_8 ?_
    exact ax_ireturn B hE d_V_fund_9 hf rfl hag (by decide) (by decide)
def G_V_speak_16  (M : ax_M)  : Option (Int32 × ax_M) := some ((-1), M)
set_option maxRecDepth 100000 in
set_option maxHeartbeats 4000000 in
theorem K_V_speak_16 {Z : ax_Z} {ad0 ad : Nat → Nat} {q : Int32 × ax_M} (B : ax_B Z "VoteAuctions" b_V_speak (some .int)) (hn : Z.2.2.2.2.2.2.2.2.2.2.2.1 = 4) (hR : ax_R Z 1 0 0) (hE : ax_E Z ad0 [] 0 0 (some (ax_I q.1)) q.2) (hag : ∀ a, a ∉ ([] : List Nat) → ad a = ad0 a)   : ∀ (M : ax_M) , G_V_speak_16  M  = some q → ax_W Z ad 0 0 16 [] [] M := by
  intro M  hf
  unfold G_V_speak_16 at hf
  refine ax_iconst B (v := (-1)) (by decide) d_V_speak_16 ?_
  exact ax_ireturn B hE d_V_speak_17 hf rfl hag (by decide) (by decide)
def G_V_speak_51  (M : ax_M) (s0 : Int32) : Option (Int32 × ax_M) := some (s0, M)
set_option maxRecDepth 100000 in
set_option maxHeartbeats 4000000 in
theorem K_V_speak_51 {Z : ax_Z} {ad0 ad : Nat → Nat} {q : Int32 × ax_M} (B : ax_B Z "VoteAuctions" b_V_speak (some .int)) (hn : Z.2.2.2.2.2.2.2.2.2.2.2.1 = 4) (hR : ax_R Z 1 0 0) (hE : ax_E Z ad0 [] 0 0 (some (ax_I q.1)) q.2) (hag : ∀ a, a ∉ ([] : List Nat) → ad a = ad0 a)   : ∀ (M : ax_M) (s0 : Int32), G_V_speak_51  M s0 = some q → ax_W Z ad 0 0 51 [] [ax_I s0] M := by
  intro M s0 hf
  unfold G_V_speak_51 at hf
  exact ax_ireturn B hE d_V_speak_51 hf rfl hag (by decide) (by decide)
def G_V_speak_40  (M : ax_M) (v1 : Int32) (v3 : Int32) (s0 : Int32) (s1 : Int32) (s2 : Option Nat) : Option (Int32 × ax_M) := (ax_ti M 0 s2 s1 s0).bind (fun M1 => if v3 = (-1) then G_V_speak_51 M1 v1 else G_V_speak_51 M1 v3)
set_option maxRecDepth 100000 in
set_option maxHeartbeats 4000000 in
theorem K_V_speak_40 {Z : ax_Z} {ad0 ad : Nat → Nat} {q : Int32 × ax_M} (B : ax_B Z "VoteAuctions" b_V_speak (some .int)) (hn : Z.2.2.2.2.2.2.2.2.2.2.2.1 = 4) (hR : ax_R Z 1 0 0) (hE : ax_E Z ad0 [] 0 0 (some (ax_I q.1)) q.2) (hag : ∀ a, a ∉ ([] : List Nat) → ad a = ad0 a)   : ∀ (M : ax_M) (v1 : Int32) (v3 : Int32) (s0 : Int32) (s1 : Int32) (s2 : Option Nat), G_V_speak_40  M v1 v3 s0 s1 s2 = some q → ax_W Z ad 0 0 40 [(1, ax_I v1), (3, ax_I v3)] [ax_I s0, ax_I s1, ax_O s2] M := by
  intro M v1 v3 s0 s1 s2 hf
  unfold G_V_speak_40 at hf
  refine ax_iast B d_V_speak_40 (t := 0) (by decide) rfl hf (fun M1 hf => ?_)
  refine ax_iload_n B d_V_speak_41 rfl (j := 1) rfl ?_
  refine ax_iconst B (v := (-1)) (by decide) d_V_speak_42 ?_
  refine ax_icmp_ne B (tgt := 50) d_V_speak_43 (by decide) hf (fun hf => ?_) (fun hf => ?_)
  · refine ax_iload_n B d_V_speak_46 rfl (j := 0) rfl ?_
    refine ax_goto B (tgt := 51) d_V_speak_47 (by decide) ?_
    refine ax_sub [] rfl ?_
    exact K_V_speak_51 B hn hR hE hag M1 v1 hf
  · refine ax_iload_n B d_V_speak_50 rfl (j := 1) rfl ?_
    refine ax_sub [] rfl ?_
    exact K_V_speak_51 B hn hR hE hag M1 v3 hf
def f_V_speak (M : ax_M) (x0 : Option Nat) (p0 : Int32) (p1 : Int32) : Option (Int32 × ax_M) := (ax_ob M 0 x0).bind (fun _ => (f_V_isNoAccount M x0 p0).bind (fun q1 => if q1.1 = 0 then (ax_ob q1.2 0 x0).bind (fun _ => (f_V_isNoAccount q1.2 x0 p1).bind (fun q2 => if q2.1 = 0 then (ax_gr q2.2 0 6 x0).bind (fun x3 => (ax_ri q2.2 0 x3 p0).bind (fun x4 => (ax_gr q2.2 0 6 x0).bind (fun x5 => if p1 = p0 then G_V_speak_40 q2.2 p0 x4 (-1) p0 x5 else G_V_speak_40 q2.2 p0 x4 p1 p0 x5))) else G_V_speak_16 q2.2)) else G_V_speak_16 q1.2))
set_option maxRecDepth 100000 in
set_option maxHeartbeats 4000000 in
theorem c_V_speak (l : Launch) (G : ax_G) (M : ax_M) (x0 : Option Nat) (p0 : Int32) (p1 : Int32) {q : Int32 × ax_M} (hf : f_V_speak M x0 p0 p1 = some q) : ax_C l G y_V_speak b_V_speak 4 (some .int) [] 1 0 0 [ax_O x0, ax_I p0, ax_I p1] M (some (ax_I q.1)) q.2 := by
  refine ax_ofW (by decide +kernel) (lv0 := [(0, ax_O x0), (1, ax_I p0), (2, ax_I p1)]) (Nat.le_of_ble_eq_true rfl) rfl ?_
  intro Z ad B hin _ _ hn hR hE
  have hag : ∀ a, a ∉ ([] : List Nat) → ad a = ad a := fun _ _ => rfl
  unfold f_V_speak at hf
  refine ax_aload_n B d_V_speak_0 rfl (j := 0) rfl ?_
  refine ax_iload_n B d_V_speak_1 rfl (j := 1) rfl ?_
  refine ax_cVV B hR (as := [ax_I p0]) (V := fun q => ax_I q.1) (N := fun q => q.2) d_V_speak_2 l_V_53 m_V_isNoAccount hf (fun q h => c_V_isNoAccount _ _ _ _ _ h) rfl rfl (by decide) (by decide) (by decide) (by decide) (Nat.le_of_ble_eq_true rfl) (fun q1 hf => ?_)
  refine ax_if_ne B (tgt := 16) d_V_speak_5 (by decide) hf (fun hf => ?_) (fun hf => ?_)
  · refine ax_aload_n B d_V_speak_8 rfl (j := 0) rfl ?_
    refine ax_iload_n B d_V_speak_9 rfl (j := 2) rfl ?_
    refine ax_cVV B hR (as := [ax_I p1]) (V := fun q => ax_I q.1) (N := fun q => q.2) d_V_speak_10 l_V_53 m_V_isNoAccount hf (fun q h => c_V_isNoAccount _ _ _ _ _ h) rfl rfl (by decide) (by decide) (by decide) (by decide) (Nat.le_of_ble_eq_true rfl) (fun q2 hf => ?_)
    refine ax_if_eq B (tgt := 18) d_V_speak_13 (by decide) hf (fun hf => ?_) (fun hf => ?_)
    · refine ax_aload_n B d_V_speak_18 rfl (j := 0) rfl ?_
      refine ax_getR B d_V_speak_19 k_V_20 rfl hf (fun x3 hf => ?_)
      refine ax_iload_n B d_V_speak_22 rfl (j := 1) rfl ?_
      refine ax_iald B d_V_speak_23 (t := 0) (by decide) rfl hf (fun x4 hf => ?_)
      refine ax_istore_n B (lv' := [(3, ax_I x4), (0, ax_O x0), (1, ax_I p0), (2, ax_I p1)]) d_V_speak_24 rfl (by rw [hn]; decide) rfl ?_
      refine ax_aload_n B d_V_speak_25 rfl (j := 1) rfl ?_
      refine ax_getR B d_V_speak_26 k_V_20 rfl hf (fun x5 hf => ?_)
      refine ax_iload_n B d_V_speak_29 rfl (j := 2) rfl ?_
      refine ax_iload_n B d_V_speak_30 rfl (j := 3) rfl ?_
      refine ax_iload_n B d_V_speak_31 rfl (j := 2) rfl ?_
      refine ax_icmp_ne B (tgt := 39) d_V_speak_32 (by decide) hf (fun hf => ?_) (fun hf => ?_)
      · refine ax_iconst B (v := (-1)) (by decide) d_V_speak_35 ?_
        refine ax_goto B (tgt := 40) d_V_speak_36 (by decide) ?_
        refine ax_sub [2, 0] rfl ?_
        exact K_V_speak_40 B hn hR hE hag q2.2 p0 x4 (-1) p0 x5 hf
      · refine ax_iload_n B d_V_speak_39 rfl (j := 3) rfl ?_
        refine ax_sub [2, 0] rfl ?_
        exact K_V_speak_40 B hn hR hE hag q2.2 p0 x4 p1 p0 x5 hf
    · refine ax_sub [] rfl ?_
      exact K_V_speak_16 B hn hR hE hag q2.2 hf
  · refine ax_sub [] rfl ?_
    exact K_V_speak_16 B hn hR hE hag q1.2 hf
def f_V_holds (M : ax_M) (x0 : Option Nat) (p0 : Int32) (p1 : Int32) : Option (Int64 × ax_M) := (ax_ob M 0 x0).bind (fun _ => (f_V_isNoAccount M x0 p0).bind (fun q1 => if q1.1 = 0 then if p1 = 0 then (ax_gr q1.2 0 3 x0).bind (fun x2 => (ax_ri q1.2 0 x2 p0).bind (fun x3 => some ((x3.toInt64), q1.2))) else if p1 = 1 then (ax_gr q1.2 0 4 x0).bind (fun x4 => (ax_rl q1.2 1 x4 p0).bind (fun x5 => some (x5, q1.2))) else if p1 = 2 then (ax_gr q1.2 0 5 x0).bind (fun x6 => (ax_rl q1.2 1 x6 p0).bind (fun x7 => some (x7, q1.2))) else some ((-2), q1.2) else some ((-1), q1.2)))
set_option maxRecDepth 100000 in
set_option maxHeartbeats 4000000 in
theorem c_V_holds (l : Launch) (G : ax_G) (M : ax_M) (x0 : Option Nat) (p0 : Int32) (p1 : Int32) {q : Int64 × ax_M} (hf : f_V_holds M x0 p0 p1 = some q) : ax_C l G y_V_holds b_V_holds 3 (some .long) [] 1 0 0 [ax_O x0, ax_I p0, ax_I p1] M (some (ax_L q.1)) q.2 := by
  refine ax_ofW (by decide +kernel) (lv0 := [(0, ax_O x0), (1, ax_I p0), (2, ax_I p1)]) (Nat.le_of_ble_eq_true rfl) rfl ?_
  intro Z ad B hin _ _ hn hR hE
  have hag : ∀ a, a ∉ ([] : List Nat) → ad a = ad a := fun _ _ => rfl
  unfold f_V_holds at hf
  refine ax_aload_n B d_V_holds_0 rfl (j := 0) rfl ?_
  refine ax_iload_n B d_V_holds_1 rfl (j := 1) rfl ?_
  refine ax_cVV B hR (as := [ax_I p0]) (V := fun q => ax_I q.1) (N := fun q => q.2) d_V_holds_2 l_V_53 m_V_isNoAccount hf (fun q h => c_V_isNoAccount _ _ _ _ _ h) rfl rfl (by decide) (by decide) (by decide) (by decide) (Nat.le_of_ble_eq_true rfl) (fun q1 hf => ?_)
  refine ax_if_eq B (tgt := 12) d_V_holds_5 (by decide) hf (fun hf => ?_) (fun hf => ?_)
  · refine ax_iload_n B d_V_holds_12 rfl (j := 2) rfl ?_
    refine ax_tsw3 B (t0 := 40) (t1 := 48) (t2 := 55) (t3 := 62) d_V_holds_13 (by decide) (by decide) (by decide) (by decide) hf (fun hf => ?_) (fun hf => ?_) (fun hf => ?_) (fun hf => ?_)
    · refine ax_aload_n B d_V_holds_40 rfl (j := 0) rfl ?_
      refine ax_getR B d_V_holds_41 k_V_9 rfl hf (fun x2 hf => ?_)
      refine ax_iload_n B d_V_holds_44 rfl (j := 1) rfl ?_
      refine ax_iald B d_V_holds_45 (t := 0) (by decide) rfl hf (fun x3 hf => ?_)
      refine ax_i2l B d_V_holds_46 ?_
      exact ax_lreturn B hE d_V_holds_47 hf hag (by decide) (by decide)
    · refine ax_aload_n B d_V_holds_48 rfl (j := 0) rfl ?_
      refine ax_getR B d_V_holds_49 k_V_13 rfl hf (fun x4 hf => ?_)
      refine ax_iload_n B d_V_holds_52 rfl (j := 1) rfl ?_
      refine ax_lald B d_V_holds_53 (t := 1) (by decide) rfl hf (fun x5 hf => ?_)
      exact ax_lreturn B hE d_V_holds_54 hf hag (by decide) (by decide)
    · refine ax_aload_n B d_V_holds_55 rfl (j := 0) rfl ?_
      refine ax_getR B d_V_holds_56 k_V_17 rfl hf (fun x6 hf => ?_)
      refine ax_iload_n B d_V_holds_59 rfl (j := 1) rfl ?_
      refine ax_lald B d_V_holds_60 (t := 1) (by decide) rfl hf (fun x7 hf => ?_)
      exact ax_lreturn B hE d_V_holds_61 hf hag (by decide) (by decide)
    · refine ax_ldc2 B (v := (-2)) n_V_60 d_V_holds_62 ?_
      exact ax_lreturn B hE d_V_holds_65 hf hag (by decide) (by decide)
  · refine ax_ldc2 B (v := (-1)) n_V_58 d_V_holds_8 ?_
    exact ax_lreturn B hE d_V_holds_11 hf hag (by decide) (by decide)
def f_V_pot (M : ax_M) (x0 : Option Nat) : Option (Int64 × ax_M) := (ax_gl M 0 1 x0).bind (fun x1 => some (x1, M))
set_option maxRecDepth 100000 in
set_option maxHeartbeats 4000000 in
theorem c_V_pot (l : Launch) (G : ax_G) (M : ax_M) (x0 : Option Nat) {q : Int64 × ax_M} (hf : f_V_pot M x0 = some q) : ax_C l G y_V_pot b_V_pot 1 (some .long) [] 0 0 0 [ax_O x0] M (some (ax_L q.1)) q.2 := by
  refine ax_ofW (by decide +kernel) (lv0 := [(0, ax_O x0)]) (Nat.le_of_ble_eq_true rfl) rfl ?_
  intro Z ad B hin _ _ hn hR hE
  have hag : ∀ a, a ∉ ([] : List Nat) → ad a = ad a := fun _ _ => rfl
  unfold f_V_pot at hf
  refine ax_aload_n B d_V_pot_0 rfl (j := 0) rfl ?_
  refine ax_getL B d_V_pot_1 k_V_62 rfl hf (fun x1 hf => ?_)
  exact ax_lreturn B hE d_V_pot_4 hf hag (by decide) (by decide)
def G_V_endQuestions_45 (rec2 : ax_M → Option Nat → Int32 → Option (ax_M)) (M : ax_M) (v0 : Option Nat) (v1 : Int32) : Option (ax_M) := (some (v1 + 1)).bind (fun y1 => rec2 M v0 y1)
set_option maxRecDepth 100000 in
set_option maxHeartbeats 4000000 in
theorem K_V_endQuestions_45 {Z : ax_Z} {ad0 ad : Nat → Nat} {q : ax_M} (B : ax_B Z "VoteAuctions" b_V_endQuestions none) (hn : Z.2.2.2.2.2.2.2.2.2.2.2.1 = 3) (hR : ax_R Z 1 0 0) (hE : ax_E Z ad0 [] 0 0 none q) (hag : ∀ a, a ∉ ([] : List Nat) → ad a = ad0 a) {rec2 : ax_M → Option Nat → Int32 → Option (ax_M)} (hr2 : ∀ (M : ax_M) (v0 : Option Nat) (v1 : Int32), rec2 M v0 v1 = some q → ax_W Z ad 0 0 2 [(0, ax_O v0), (1, ax_I v1)] [] M) : ∀ (M : ax_M) (v0 : Option Nat) (v1 : Int32), G_V_endQuestions_45 rec2 M v0 v1 = some q → ax_W Z ad 0 0 45 [(0, ax_O v0), (1, ax_I v1)] [] M := by
  intro M v0 v1 hf
  unfold G_V_endQuestions_45 at hf
  refine ax_iincN B (j := 1) (lv' := fun y => [(1, ax_I y), (0, ax_O v0)]) d_V_endQuestions_45 rfl hf rfl (by rw [hn]; decide) (fun _ => rfl) (fun y1 hf => ?_)
  refine ax_goto B (tgt := 2) d_V_endQuestions_48 (by decide) ?_
  refine ax_sub [1, 0] rfl ?_
  exact hr2 M v0 y1 hf
def G_V_endQuestions_2 (rec2 : ax_M → Option Nat → Int32 → Option (ax_M)) (M : ax_M) (v0 : Option Nat) (v1 : Int32) : Option (ax_M) := if 6 ≤ v1 then some M else (ax_gr M 0 8 v0).bind (fun x1 => (ax_rr M 3 x1 v1).bind (fun x2 => if x2 = none then G_V_endQuestions_45 rec2 M v0 v1 else (ax_gi M 1 3 x2).bind (fun x3 => (ax_gi M 0 0 v0).bind (fun x4 => if x3 = x4 then (ax_gr M 0 6 v0).bind (fun x5 => (ax_gr M 1 9 x2).bind (fun x6 => (ax_cp M 0 x5 0 x6 0 8).bind (fun M7 => G_V_endQuestions_45 rec2 M7 v0 v1))) else G_V_endQuestions_45 rec2 M v0 v1))))
set_option maxRecDepth 100000 in
set_option maxHeartbeats 4000000 in
theorem K_V_endQuestions_2 {Z : ax_Z} {ad0 ad : Nat → Nat} {q : ax_M} (B : ax_B Z "VoteAuctions" b_V_endQuestions none) (hn : Z.2.2.2.2.2.2.2.2.2.2.2.1 = 3) (hR : ax_R Z 1 0 0) (hE : ax_E Z ad0 [] 0 0 none q) (hag : ∀ a, a ∉ ([] : List Nat) → ad a = ad0 a) {rec2 : ax_M → Option Nat → Int32 → Option (ax_M)} (hr2 : ∀ (M : ax_M) (v0 : Option Nat) (v1 : Int32), rec2 M v0 v1 = some q → ax_W Z ad 0 0 2 [(0, ax_O v0), (1, ax_I v1)] [] M) : ∀ (M : ax_M) (v0 : Option Nat) (v1 : Int32), G_V_endQuestions_2 rec2 M v0 v1 = some q → ax_W Z ad 0 0 2 [(0, ax_O v0), (1, ax_I v1)] [] M := by
  intro M v0 v1 hf
  unfold G_V_endQuestions_2 at hf
  refine ax_iload_n B d_V_endQuestions_2 rfl (j := 1) rfl ?_
  refine ax_bipush B (v := 6) (by decide) d_V_endQuestions_3 ?_
  refine ax_icmp_ge B (tgt := 51) d_V_endQuestions_5 (by decide) hf (fun hf => ?_) (fun hf => ?_)
  · exact ax_vreturn B hE d_V_endQuestions_51 hf hag (by decide) (by decide)
  · refine ax_aload_n B d_V_endQuestions_8 rfl (j := 0) rfl ?_
    refine ax_getR B d_V_endQuestions_9 k_V_25 rfl hf (fun x1 hf => ?_)
    refine ax_iload_n B d_V_endQuestions_12 rfl (j := 1) rfl ?_
    refine ax_aald B d_V_endQuestions_13 (t := 3) (C := "VoteAuctions$Question") (by decide) rfl hf (fun x2 hf => ?_)
    refine ax_astore_n B (lv' := [(2, ax_O x2), (0, ax_O v0), (1, ax_I v1)]) d_V_endQuestions_14 rfl (by rw [hn]; decide) rfl ?_
    refine ax_aload_n B d_V_endQuestions_15 rfl (j := 0) rfl ?_
    refine ax_ifnull B (tgt := 45) d_V_endQuestions_16 (by decide) hf (fun hf => ?_) (fun hf => ?_)
    · refine ax_sub [1, 2] rfl ?_
      exact K_V_endQuestions_45 B hn hR hE hag hr2 M v0 v1 hf
    · refine ax_aload_n B d_V_endQuestions_19 rfl (j := 0) rfl ?_
      refine ax_getI B d_V_endQuestions_20 k_V_105 rfl hf (fun x3 hf => ?_)
      refine ax_aload_n B d_V_endQuestions_23 rfl (j := 1) rfl ?_
      refine ax_getI B d_V_endQuestions_24 k_V_66 rfl hf (fun x4 hf => ?_)
      refine ax_icmp_ne B (tgt := 45) d_V_endQuestions_27 (by decide) hf (fun hf => ?_) (fun hf => ?_)
      · refine ax_aload_n B d_V_endQuestions_30 rfl (j := 1) rfl ?_
        refine ax_getR B d_V_endQuestions_31 k_V_20 rfl hf (fun x5 hf => ?_)
        refine ax_iconst B (v := 0) (by decide) d_V_endQuestions_34 ?_
        refine ax_aload_n B d_V_endQuestions_35 rfl (j := 0) rfl ?_
        refine ax_getR B d_V_endQuestions_36 k_V_260 rfl hf (fun x6 hf => ?_)
        refine ax_iconst B (v := 0) (by decide) d_V_endQuestions_39 ?_
        refine ax_bipush B (v := 8) (by decide) d_V_endQuestions_40 ?_
        refine ax_copy B hR d_V_endQuestions_42 l_V_86 (by decide) (Nat.le_of_ble_eq_true rfl) hf (fun M7 hf => ?_)
        refine ax_sub [1, 2] rfl ?_
        exact K_V_endQuestions_45 B hn hR hE hag hr2 M7 v0 v1 hf
      · refine ax_sub [1, 2] rfl ?_
        exact K_V_endQuestions_45 B hn hR hE hag hr2 M v0 v1 hf
def F_V_endQuestions_2  : Nat → ax_M → Option Nat → Int32 → Option (ax_M)
  | 0 => fun _ _ _ => none
  | n + 1 => G_V_endQuestions_2 (F_V_endQuestions_2  n)
set_option maxRecDepth 100000 in
set_option maxHeartbeats 4000000 in
theorem L_V_endQuestions_2 {Z : ax_Z} {ad0 ad : Nat → Nat} {q : ax_M} (B : ax_B Z "VoteAuctions" b_V_endQuestions none) (hn : Z.2.2.2.2.2.2.2.2.2.2.2.1 = 3) (hR : ax_R Z 1 0 0) (hE : ax_E Z ad0 [] 0 0 none q) (hag : ∀ a, a ∉ ([] : List Nat) → ad a = ad0 a)   : ∀ (n : Nat) (M : ax_M) (v0 : Option Nat) (v1 : Int32), F_V_endQuestions_2  n M v0 v1 = some q → ax_W Z ad 0 0 2 [(0, ax_O v0), (1, ax_I v1)] [] M := by
  intro n
  induction n with
  | zero => intro M v0 v1 hf; cases hf
  | succ n ih => exact K_V_endQuestions_2 B hn hR hE hag ih
def f_V_endQuestions (M : ax_M) (x0 : Option Nat) : Option (ax_M) := F_V_endQuestions_2 64 M x0 0
set_option maxRecDepth 100000 in
set_option maxHeartbeats 4000000 in
theorem c_V_endQuestions (l : Launch) (G : ax_G) (M : ax_M) (x0 : Option Nat) {q : ax_M} (hf : f_V_endQuestions M x0 = some q) : ax_C l G y_V_endQuestions b_V_endQuestions 3 none [] 1 0 0 [ax_O x0] M none q := by
  refine ax_ofW (by decide +kernel) (lv0 := [(0, ax_O x0)]) (Nat.le_of_ble_eq_true rfl) rfl ?_
  intro Z ad B hin _ _ hn hR hE
  have hag : ∀ a, a ∉ ([] : List Nat) → ad a = ad a := fun _ _ => rfl
  unfold f_V_endQuestions at hf
  refine ax_iconst B (v := 0) (by decide) d_V_endQuestions_0 ?_
  refine ax_istore_n B (lv' := [(1, ax_I 0), (0, ax_O x0)]) d_V_endQuestions_1 rfl (by rw [hn]; decide) rfl ?_
  refine ax_sub [1, 0] rfl ?_
  exact L_V_endQuestions_2 B hn hR hE hag 64 M x0 0 hf
def G_A_isSealed_16  (M : ax_M) (s0 : Int32) : Option (Int32 × ax_M) := (ax_bo s0).bind (fun _ => some (s0, M))
set_option maxRecDepth 100000 in
set_option maxHeartbeats 4000000 in
theorem K_A_isSealed_16 {Z : ax_Z} {ad0 ad : Nat → Nat} {q : Int32 × ax_M} (B : ax_B Z "VoteAuctions$Auction" b_A_isSealed (some .boolean)) (hn : Z.2.2.2.2.2.2.2.2.2.2.2.1 = 1) (hR : ax_R Z 0 0 0) (hE : ax_E Z ad0 [] 0 0 (some (ax_I q.1)) q.2) (hag : ∀ a, a ∉ ([] : List Nat) → ad a = ad0 a)   : ∀ (M : ax_M) (s0 : Int32), G_A_isSealed_16  M s0 = some q → ax_W Z ad 0 0 16 [] [ax_I s0] M := by
  intro M s0 hf
  unfold G_A_isSealed_16 at hf
  obtain ⟨_, hb, hf⟩ := ax_bd hf
  exact ax_ireturn B hE d_A_isSealed_16 hf (ax_bo_n hb) hag (by decide) (by decide)
def f_A_isSealed (M : ax_M) (x0 : Option Nat) : Option (Int32 × ax_M) := (ax_gi M 2 5 x0).bind (fun x1 => (ax_gi M 2 4 x0).bind (fun x2 => if x1 ≤ x2 then G_A_isSealed_16 M 0 else G_A_isSealed_16 M 1))
set_option maxRecDepth 100000 in
set_option maxHeartbeats 4000000 in
theorem c_A_isSealed (l : Launch) (G : ax_G) (M : ax_M) (x0 : Option Nat) {q : Int32 × ax_M} (hf : f_A_isSealed M x0 = some q) : ax_C l G y_A_isSealed b_A_isSealed 1 (some .boolean) [] 0 0 0 [ax_O x0] M (some (ax_I q.1)) q.2 := by
  refine ax_ofW (by decide +kernel) (lv0 := [(0, ax_O x0)]) (Nat.le_of_ble_eq_true rfl) rfl ?_
  intro Z ad B hin _ _ hn hR hE
  have hag : ∀ a, a ∉ ([] : List Nat) → ad a = ad a := fun _ _ => rfl
  unfold f_A_isSealed at hf
  refine ax_aload_n B d_A_isSealed_0 rfl (j := 0) rfl ?_
  refine ax_getI B d_A_isSealed_1 k_A_27 rfl hf (fun x1 hf => ?_)
  refine ax_aload_n B d_A_isSealed_4 rfl (j := 0) rfl ?_
  refine ax_getI B d_A_isSealed_5 k_A_24 rfl hf (fun x2 hf => ?_)
  refine ax_icmp_le B (tgt := 15) d_A_isSealed_8 (by decide) hf (fun hf => ?_) (fun hf => ?_)
  · refine ax_iconst B (v := 0) (by decide) d_A_isSealed_15 ?_
    refine ax_sub [] rfl ?_
    exact K_A_isSealed_16 B hn hR hE hag M 0 hf
  · refine ax_iconst B (v := 1) (by decide) d_A_isSealed_11 ?_
    refine ax_goto B (tgt := 16) d_A_isSealed_12 (by decide) ?_
    refine ax_sub [] rfl ?_
    exact K_A_isSealed_16 B hn hR hE hag M 1 hf
def f_V_payAside (M : ax_M) (x0 : Option Nat) (p0 : Int32) (p1 : Int64) : Option (ax_M) := (ax_gr M 0 5 x0).bind (fun x1 => (ax_rl M 1 x1 p0).bind (fun x2 => (ax_tl M 1 x1 p0 (x2 - p1)).bind (fun M3 => (ax_gl M3 0 1 x0).bind (fun x4 => (ax_pl M3 0 1 x0 (x4 + p1)).bind (fun M5 => some M5)))))
set_option maxRecDepth 100000 in
set_option maxHeartbeats 4000000 in
theorem c_V_payAside (l : Launch) (G : ax_G) (M : ax_M) (x0 : Option Nat) (p0 : Int32) (p1 : Int64) {q : ax_M} (hf : f_V_payAside M x0 p0 p1 = some q) : ax_C l G y_V_payAside b_V_payAside 4 none [] 0 0 0 [ax_O x0, ax_I p0, ax_L p1] M none q := by
  refine ax_ofW (by decide +kernel) (lv0 := [(0, ax_O x0), (1, ax_I p0), (2, ax_L p1)]) (Nat.le_of_ble_eq_true rfl) rfl ?_
  intro Z ad B hin _ _ hn hR hE
  have hag : ∀ a, a ∉ ([] : List Nat) → ad a = ad a := fun _ _ => rfl
  unfold f_V_payAside at hf
  refine ax_aload_n B d_V_payAside_0 rfl (j := 0) rfl ?_
  refine ax_getR B d_V_payAside_1 k_V_17 rfl hf (fun x1 hf => ?_)
  refine ax_iload_n B d_V_payAside_4 rfl (j := 1) rfl ?_
  refine ax_dup2_11 B rfl rfl d_V_payAside_5 ?_
  refine ax_lald B d_V_payAside_6 (t := 1) (by decide) rfl hf (fun x2 hf => ?_)
  refine ax_lload_n B d_V_payAside_7 rfl (j := 2) rfl ?_
  refine ax_lsub B d_V_payAside_8 ?_
  refine ax_last B d_V_payAside_9 (t := 1) (by decide) rfl hf (fun M3 hf => ?_)
  refine ax_aload_n B d_V_payAside_10 rfl (j := 0) rfl ?_
  refine ax_dup B rfl d_V_payAside_11 ?_
  refine ax_getL B d_V_payAside_12 k_V_62 rfl hf (fun x4 hf => ?_)
  refine ax_lload_n B d_V_payAside_15 rfl (j := 2) rfl ?_
  refine ax_ladd B d_V_payAside_16 ?_
  refine ax_putL B d_V_payAside_17 k_V_62 rfl rfl hf (fun M5 hf => ?_)
  exact ax_vreturn B hE d_V_payAside_20 hf hag (by decide) (by decide)
def G_V_payUnopened_36 (rec2 : ax_M → Option Nat → Option Nat → Int32 → Option (ax_M)) (M : ax_M) (v0 : Option Nat) (v1 : Option Nat) (v2 : Int32) : Option (ax_M) := (some (v2 + 1)).bind (fun y1 => rec2 M v0 v1 y1)
set_option maxRecDepth 100000 in
set_option maxHeartbeats 4000000 in
theorem K_V_payUnopened_36 {Z : ax_Z} {ad0 ad : Nat → Nat} {q : ax_M} (B : ax_B Z "VoteAuctions" b_V_payUnopened none) (hn : Z.2.2.2.2.2.2.2.2.2.2.2.1 = 3) (hR : ax_R Z 1 0 0) (hE : ax_E Z ad0 [] 0 0 none q) (hag : ∀ a, a ∉ ([] : List Nat) → ad a = ad0 a) {rec2 : ax_M → Option Nat → Option Nat → Int32 → Option (ax_M)} (hr2 : ∀ (M : ax_M) (v0 : Option Nat) (v1 : Option Nat) (v2 : Int32), rec2 M v0 v1 v2 = some q → ax_W Z ad 0 0 2 [(0, ax_O v0), (1, ax_O v1), (2, ax_I v2)] [] M) : ∀ (M : ax_M) (v0 : Option Nat) (v1 : Option Nat) (v2 : Int32), G_V_payUnopened_36 rec2 M v0 v1 v2 = some q → ax_W Z ad 0 0 36 [(0, ax_O v0), (1, ax_O v1), (2, ax_I v2)] [] M := by
  intro M v0 v1 v2 hf
  unfold G_V_payUnopened_36 at hf
  refine ax_iincN B (j := 2) (lv' := fun y => [(2, ax_I y), (0, ax_O v0), (1, ax_O v1)]) d_V_payUnopened_36 rfl hf rfl (by rw [hn]; decide) (fun _ => rfl) (fun y1 hf => ?_)
  refine ax_goto B (tgt := 2) d_V_payUnopened_39 (by decide) ?_
  refine ax_sub [1, 2, 0] rfl ?_
  exact hr2 M v0 v1 y1 hf
def G_V_payUnopened_2 (rec2 : ax_M → Option Nat → Option Nat → Int32 → Option (ax_M)) (M : ax_M) (v0 : Option Nat) (v1 : Option Nat) (v2 : Int32) : Option (ax_M) := if 8 ≤ v2 then some M else (ax_gr M 2 6 v1).bind (fun x1 => (ax_ri M 0 x1 v2).bind (fun x2 => if x2 = 0 then G_V_payUnopened_36 rec2 M v0 v1 v2 else (ax_gr M 2 9 v1).bind (fun x3 => (ax_ri M 0 x3 v2).bind (fun x4 => if x4 = 0 then (ax_gi M 2 2 v1).bind (fun x5 => (ax_ob M 0 v0).bind (fun _ => (f_V_payAside M v0 v2 (x5.toInt64)).bind (fun q6 => G_V_payUnopened_36 rec2 q6 v0 v1 v2))) else G_V_payUnopened_36 rec2 M v0 v1 v2))))
set_option maxRecDepth 100000 in
set_option maxHeartbeats 4000000 in
theorem K_V_payUnopened_2 {Z : ax_Z} {ad0 ad : Nat → Nat} {q : ax_M} (B : ax_B Z "VoteAuctions" b_V_payUnopened none) (hn : Z.2.2.2.2.2.2.2.2.2.2.2.1 = 3) (hR : ax_R Z 1 0 0) (hE : ax_E Z ad0 [] 0 0 none q) (hag : ∀ a, a ∉ ([] : List Nat) → ad a = ad0 a) {rec2 : ax_M → Option Nat → Option Nat → Int32 → Option (ax_M)} (hr2 : ∀ (M : ax_M) (v0 : Option Nat) (v1 : Option Nat) (v2 : Int32), rec2 M v0 v1 v2 = some q → ax_W Z ad 0 0 2 [(0, ax_O v0), (1, ax_O v1), (2, ax_I v2)] [] M) : ∀ (M : ax_M) (v0 : Option Nat) (v1 : Option Nat) (v2 : Int32), G_V_payUnopened_2 rec2 M v0 v1 v2 = some q → ax_W Z ad 0 0 2 [(0, ax_O v0), (1, ax_O v1), (2, ax_I v2)] [] M := by
  intro M v0 v1 v2 hf
  unfold G_V_payUnopened_2 at hf
  refine ax_iload_n B d_V_payUnopened_2 rfl (j := 2) rfl ?_
  refine ax_bipush B (v := 8) (by decide) d_V_payUnopened_3 ?_
  refine ax_icmp_ge B (tgt := 42) d_V_payUnopened_5 (by decide) hf (fun hf => ?_) (fun hf => ?_)
  · exact ax_vreturn B hE d_V_payUnopened_42 hf hag (by decide) (by decide)
  · refine ax_aload_n B d_V_payUnopened_8 rfl (j := 1) rfl ?_
    refine ax_getR B d_V_payUnopened_9 k_V_208 rfl hf (fun x1 hf => ?_)
    refine ax_iload_n B d_V_payUnopened_12 rfl (j := 2) rfl ?_
    refine ax_iald B d_V_payUnopened_13 (t := 0) (by decide) rfl hf (fun x2 hf => ?_)
    refine ax_if_eq B (tgt := 36) d_V_payUnopened_14 (by decide) hf (fun hf => ?_) (fun hf => ?_)
    · exact K_V_payUnopened_36 B hn hR hE hag hr2 M v0 v1 v2 hf
    · refine ax_aload_n B d_V_payUnopened_17 rfl (j := 1) rfl ?_
      refine ax_getR B d_V_payUnopened_18 k_V_201 rfl hf (fun x3 hf => ?_)
      refine ax_iload_n B d_V_payUnopened_21 rfl (j := 2) rfl ?_
      refine ax_iald B d_V_payUnopened_22 (t := 0) (by decide) rfl hf (fun x4 hf => ?_)
      refine ax_if_ne B (tgt := 36) d_V_payUnopened_23 (by decide) hf (fun hf => ?_) (fun hf => ?_)
      · refine ax_aload_n B d_V_payUnopened_26 rfl (j := 0) rfl ?_
        refine ax_iload_n B d_V_payUnopened_27 rfl (j := 2) rfl ?_
        refine ax_aload_n B d_V_payUnopened_28 rfl (j := 1) rfl ?_
        refine ax_getI B d_V_payUnopened_29 k_V_171 rfl hf (fun x5 hf => ?_)
        refine ax_i2l B d_V_payUnopened_32 ?_
        refine ax_cVN B hR (as := [ax_I v2, ax_L (x5.toInt64)]) (N := fun q => q) d_V_payUnopened_33 l_V_223 m_V_payAside hf (fun q h => c_V_payAside _ _ _ _ _ _ h) rfl rfl (by decide) (by decide) (by decide) (by decide) (Nat.le_of_ble_eq_true rfl) (fun q6 hf => ?_)
        exact K_V_payUnopened_36 B hn hR hE hag hr2 q6 v0 v1 v2 hf
      · exact K_V_payUnopened_36 B hn hR hE hag hr2 M v0 v1 v2 hf
def F_V_payUnopened_2  : Nat → ax_M → Option Nat → Option Nat → Int32 → Option (ax_M)
  | 0 => fun _ _ _ _ => none
  | n + 1 => G_V_payUnopened_2 (F_V_payUnopened_2  n)
set_option maxRecDepth 100000 in
set_option maxHeartbeats 4000000 in
theorem L_V_payUnopened_2 {Z : ax_Z} {ad0 ad : Nat → Nat} {q : ax_M} (B : ax_B Z "VoteAuctions" b_V_payUnopened none) (hn : Z.2.2.2.2.2.2.2.2.2.2.2.1 = 3) (hR : ax_R Z 1 0 0) (hE : ax_E Z ad0 [] 0 0 none q) (hag : ∀ a, a ∉ ([] : List Nat) → ad a = ad0 a)   : ∀ (n : Nat) (M : ax_M) (v0 : Option Nat) (v1 : Option Nat) (v2 : Int32), F_V_payUnopened_2  n M v0 v1 v2 = some q → ax_W Z ad 0 0 2 [(0, ax_O v0), (1, ax_O v1), (2, ax_I v2)] [] M := by
  intro n
  induction n with
  | zero => intro M v0 v1 v2 hf; cases hf
  | succ n ih => exact K_V_payUnopened_2 B hn hR hE hag ih
def f_V_payUnopened (M : ax_M) (x0 : Option Nat) (p0 : Option Nat) : Option (ax_M) := F_V_payUnopened_2 64 M x0 p0 0
set_option maxRecDepth 100000 in
set_option maxHeartbeats 4000000 in
theorem c_V_payUnopened (l : Launch) (G : ax_G) (M : ax_M) (x0 : Option Nat) (p0 : Option Nat) {q : ax_M} (hf : f_V_payUnopened M x0 p0 = some q) : ax_C l G y_V_payUnopened b_V_payUnopened 3 none [] 1 0 0 [ax_O x0, ax_O p0] M none q := by
  refine ax_ofW (by decide +kernel) (lv0 := [(0, ax_O x0), (1, ax_O p0)]) (Nat.le_of_ble_eq_true rfl) rfl ?_
  intro Z ad B hin _ _ hn hR hE
  have hag : ∀ a, a ∉ ([] : List Nat) → ad a = ad a := fun _ _ => rfl
  unfold f_V_payUnopened at hf
  refine ax_iconst B (v := 0) (by decide) d_V_payUnopened_0 ?_
  refine ax_istore_n B (lv' := [(2, ax_I 0), (0, ax_O x0), (1, ax_O p0)]) d_V_payUnopened_1 rfl (by rw [hn]; decide) rfl ?_
  refine ax_sub [1, 2, 0] rfl ?_
  exact L_V_payUnopened_2 B hn hR hE hag 64 M x0 p0 0 hf
def G_A_isAhead_50  (M : ax_M) (s0 : Int32) : Option (Int32 × ax_M) := (ax_bo s0).bind (fun _ => some (s0, M))
set_option maxRecDepth 100000 in
set_option maxHeartbeats 4000000 in
theorem K_A_isAhead_50 {Z : ax_Z} {ad0 ad : Nat → Nat} {q : Int32 × ax_M} (B : ax_B Z "VoteAuctions$Auction" b_A_isAhead (some .boolean)) (hn : Z.2.2.2.2.2.2.2.2.2.2.2.1 = 3) (hR : ax_R Z 0 0 0) (hE : ax_E Z ad0 [] 0 0 (some (ax_I q.1)) q.2) (hag : ∀ a, a ∉ ([] : List Nat) → ad a = ad0 a)   : ∀ (M : ax_M) (s0 : Int32), G_A_isAhead_50  M s0 = some q → ax_W Z ad 0 0 50 [] [ax_I s0] M := by
  intro M s0 hf
  unfold G_A_isAhead_50 at hf
  obtain ⟨_, hb, hf⟩ := ax_bd hf
  exact ax_ireturn B hE d_A_isAhead_50 hf (ax_bo_n hb) hag (by decide) (by decide)
def G_A_isAhead_45  (M : ax_M)  : Option (Int32 × ax_M) := G_A_isAhead_50 M 1
set_option maxRecDepth 100000 in
set_option maxHeartbeats 4000000 in
theorem K_A_isAhead_45 {Z : ax_Z} {ad0 ad : Nat → Nat} {q : Int32 × ax_M} (B : ax_B Z "VoteAuctions$Auction" b_A_isAhead (some .boolean)) (hn : Z.2.2.2.2.2.2.2.2.2.2.2.1 = 3) (hR : ax_R Z 0 0 0) (hE : ax_E Z ad0 [] 0 0 (some (ax_I q.1)) q.2) (hag : ∀ a, a ∉ ([] : List Nat) → ad a = ad0 a)   : ∀ (M : ax_M) , G_A_isAhead_45  M  = some q → ax_W Z ad 0 0 45 [] [] M := by
  intro M  hf
  unfold G_A_isAhead_45 at hf
  refine ax_iconst B (v := 1) (by decide) d_A_isAhead_45 ?_
  refine ax_goto B (tgt := 50) d_A_isAhead_46 (by decide) ?_
  exact K_A_isAhead_50 B hn hR hE hag M 1 hf
def G_A_isAhead_49  (M : ax_M)  : Option (Int32 × ax_M) := G_A_isAhead_50 M 0
set_option maxRecDepth 100000 in
set_option maxHeartbeats 4000000 in
theorem K_A_isAhead_49 {Z : ax_Z} {ad0 ad : Nat → Nat} {q : Int32 × ax_M} (B : ax_B Z "VoteAuctions$Auction" b_A_isAhead (some .boolean)) (hn : Z.2.2.2.2.2.2.2.2.2.2.2.1 = 3) (hR : ax_R Z 0 0 0) (hE : ax_E Z ad0 [] 0 0 (some (ax_I q.1)) q.2) (hag : ∀ a, a ∉ ([] : List Nat) → ad a = ad0 a)   : ∀ (M : ax_M) , G_A_isAhead_49  M  = some q → ax_W Z ad 0 0 49 [] [] M := by
  intro M  hf
  unfold G_A_isAhead_49 at hf
  refine ax_iconst B (v := 0) (by decide) d_A_isAhead_49 ?_
  exact K_A_isAhead_50 B hn hR hE hag M 0 hf
def f_A_isAhead (M : ax_M) (x0 : Option Nat) (p0 : Int32) (p1 : Int32) : Option (Int32 × ax_M) := (ax_gr M 2 9 x0).bind (fun x1 => (ax_ri M 0 x1 p0).bind (fun x2 => (ax_gr M 2 9 x0).bind (fun x3 => (ax_ri M 0 x3 p1).bind (fun x4 => if x4 < x2 then G_A_isAhead_45 M else (ax_gr M 2 9 x0).bind (fun x5 => (ax_ri M 0 x5 p0).bind (fun x6 => (ax_gr M 2 9 x0).bind (fun x7 => (ax_ri M 0 x7 p1).bind (fun x8 => if x6 = x8 then (ax_gr M 2 6 x0).bind (fun x9 => (ax_ri M 0 x9 p0).bind (fun x10 => (ax_gr M 2 6 x0).bind (fun x11 => (ax_ri M 0 x11 p1).bind (fun x12 => if x12 ≤ x10 then G_A_isAhead_49 M else G_A_isAhead_45 M)))) else G_A_isAhead_49 M))))))))
set_option maxRecDepth 100000 in
set_option maxHeartbeats 4000000 in
theorem c_A_isAhead (l : Launch) (G : ax_G) (M : ax_M) (x0 : Option Nat) (p0 : Int32) (p1 : Int32) {q : Int32 × ax_M} (hf : f_A_isAhead M x0 p0 p1 = some q) : ax_C l G y_A_isAhead b_A_isAhead 3 (some .boolean) [] 0 0 0 [ax_O x0, ax_I p0, ax_I p1] M (some (ax_I q.1)) q.2 := by
  refine ax_ofW (by decide +kernel) (lv0 := [(0, ax_O x0), (1, ax_I p0), (2, ax_I p1)]) (Nat.le_of_ble_eq_true rfl) rfl ?_
  intro Z ad B hin _ _ hn hR hE
  have hag : ∀ a, a ∉ ([] : List Nat) → ad a = ad a := fun _ _ => rfl
  unfold f_A_isAhead at hf
  refine ax_aload_n B d_A_isAhead_0 rfl (j := 0) rfl ?_
  refine ax_getR B d_A_isAhead_1 k_A_41 rfl hf (fun x1 hf => ?_)
  refine ax_iload_n B d_A_isAhead_4 rfl (j := 1) rfl ?_
  refine ax_iald B d_A_isAhead_5 (t := 0) (by decide) rfl hf (fun x2 hf => ?_)
  refine ax_aload_n B d_A_isAhead_6 rfl (j := 0) rfl ?_
  refine ax_getR B d_A_isAhead_7 k_A_41 rfl hf (fun x3 hf => ?_)
  refine ax_iload_n B d_A_isAhead_10 rfl (j := 2) rfl ?_
  refine ax_iald B d_A_isAhead_11 (t := 0) (by decide) rfl hf (fun x4 hf => ?_)
  refine ax_icmp_gt B (tgt := 45) d_A_isAhead_12 (by decide) hf (fun hf => ?_) (fun hf => ?_)
  · refine ax_sub [] rfl ?_
    exact K_A_isAhead_45 B hn hR hE hag M hf
  · refine ax_aload_n B d_A_isAhead_15 rfl (j := 0) rfl ?_
    refine ax_getR B d_A_isAhead_16 k_A_41 rfl hf (fun x5 hf => ?_)
    refine ax_iload_n B d_A_isAhead_19 rfl (j := 1) rfl ?_
    refine ax_iald B d_A_isAhead_20 (t := 0) (by decide) rfl hf (fun x6 hf => ?_)
    refine ax_aload_n B d_A_isAhead_21 rfl (j := 0) rfl ?_
    refine ax_getR B d_A_isAhead_22 k_A_41 rfl hf (fun x7 hf => ?_)
    refine ax_iload_n B d_A_isAhead_25 rfl (j := 2) rfl ?_
    refine ax_iald B d_A_isAhead_26 (t := 0) (by decide) rfl hf (fun x8 hf => ?_)
    refine ax_icmp_ne B (tgt := 49) d_A_isAhead_27 (by decide) hf (fun hf => ?_) (fun hf => ?_)
    · refine ax_aload_n B d_A_isAhead_30 rfl (j := 0) rfl ?_
      refine ax_getR B d_A_isAhead_31 k_A_30 rfl hf (fun x9 hf => ?_)
      refine ax_iload_n B d_A_isAhead_34 rfl (j := 1) rfl ?_
      refine ax_iald B d_A_isAhead_35 (t := 0) (by decide) rfl hf (fun x10 hf => ?_)
      refine ax_aload_n B d_A_isAhead_36 rfl (j := 0) rfl ?_
      refine ax_getR B d_A_isAhead_37 k_A_30 rfl hf (fun x11 hf => ?_)
      refine ax_iload_n B d_A_isAhead_40 rfl (j := 2) rfl ?_
      refine ax_iald B d_A_isAhead_41 (t := 0) (by decide) rfl hf (fun x12 hf => ?_)
      refine ax_icmp_ge B (tgt := 49) d_A_isAhead_42 (by decide) hf (fun hf => ?_) (fun hf => ?_)
      · refine ax_sub [] rfl ?_
        exact K_A_isAhead_49 B hn hR hE hag M hf
      · refine ax_sub [] rfl ?_
        exact K_A_isAhead_45 B hn hR hE hag M hf
    · refine ax_sub [] rfl ?_
      exact K_A_isAhead_49 B hn hR hE hag M hf
def G_A_bestWithout_44 (rec4 : ax_M → Option Nat → Int32 → Int32 → Option (Int32 × ax_M)) (M : ax_M) (v0 : Option Nat) (v1 : Int32) (v2 : Int32) : Option (Int32 × ax_M) := (some (v2 + 1)).bind (fun y1 => rec4 M v0 v1 y1)
set_option maxRecDepth 100000 in
set_option maxHeartbeats 4000000 in
theorem K_A_bestWithout_44 {Z : ax_Z} {ad0 ad : Nat → Nat} {q : Int32 × ax_M} (B : ax_B Z "VoteAuctions$Auction" b_A_bestWithout (some .int)) (hn : Z.2.2.2.2.2.2.2.2.2.2.2.1 = 3) (hR : ax_R Z 1 0 0) (hE : ax_E Z ad0 [] 0 0 (some (ax_I q.1)) q.2) (hag : ∀ a, a ∉ ([] : List Nat) → ad a = ad0 a) {rec4 : ax_M → Option Nat → Int32 → Int32 → Option (Int32 × ax_M)} (hr4 : ∀ (M : ax_M) (v0 : Option Nat) (v1 : Int32) (v2 : Int32), rec4 M v0 v1 v2 = some q → ax_W Z ad 0 0 4 [(0, ax_O v0), (1, ax_I v1), (2, ax_I v2)] [] M) : ∀ (M : ax_M) (v0 : Option Nat) (v1 : Int32) (v2 : Int32), G_A_bestWithout_44 rec4 M v0 v1 v2 = some q → ax_W Z ad 0 0 44 [(0, ax_O v0), (1, ax_I v1), (2, ax_I v2)] [] M := by
  intro M v0 v1 v2 hf
  unfold G_A_bestWithout_44 at hf
  refine ax_iincN B (j := 2) (lv' := fun y => [(2, ax_I y), (0, ax_O v0), (1, ax_I v1)]) d_A_bestWithout_44 rfl hf rfl (by rw [hn]; decide) (fun _ => rfl) (fun y1 hf => ?_)
  refine ax_goto B (tgt := 4) d_A_bestWithout_47 (by decide) ?_
  refine ax_sub [1, 2, 0] rfl ?_
  exact hr4 M v0 v1 y1 hf
def G_A_bestWithout_42 (rec4 : ax_M → Option Nat → Int32 → Int32 → Option (Int32 × ax_M)) (M : ax_M) (v0 : Option Nat) (v2 : Int32) : Option (Int32 × ax_M) := G_A_bestWithout_44 rec4 M v0 v2 v2
set_option maxRecDepth 100000 in
set_option maxHeartbeats 4000000 in
theorem K_A_bestWithout_42 {Z : ax_Z} {ad0 ad : Nat → Nat} {q : Int32 × ax_M} (B : ax_B Z "VoteAuctions$Auction" b_A_bestWithout (some .int)) (hn : Z.2.2.2.2.2.2.2.2.2.2.2.1 = 3) (hR : ax_R Z 1 0 0) (hE : ax_E Z ad0 [] 0 0 (some (ax_I q.1)) q.2) (hag : ∀ a, a ∉ ([] : List Nat) → ad a = ad0 a) {rec4 : ax_M → Option Nat → Int32 → Int32 → Option (Int32 × ax_M)} (hr4 : ∀ (M : ax_M) (v0 : Option Nat) (v1 : Int32) (v2 : Int32), rec4 M v0 v1 v2 = some q → ax_W Z ad 0 0 4 [(0, ax_O v0), (1, ax_I v1), (2, ax_I v2)] [] M) : ∀ (M : ax_M) (v0 : Option Nat) (v2 : Int32), G_A_bestWithout_42 rec4 M v0 v2 = some q → ax_W Z ad 0 0 42 [(0, ax_O v0), (2, ax_I v2)] [] M := by
  intro M v0 v2 hf
  unfold G_A_bestWithout_42 at hf
  refine ax_iload_n B d_A_bestWithout_42 rfl (j := 1) rfl ?_
  refine ax_istore_n B (lv' := [(1, ax_I v2), (0, ax_O v0), (2, ax_I v2)]) d_A_bestWithout_43 rfl (by rw [hn]; decide) rfl ?_
  refine ax_sub [1, 0, 2] rfl ?_
  exact K_A_bestWithout_44 B hn hR hE hag hr4 M v0 v2 v2 hf
def G_A_bestWithout_4 (rec4 : ax_M → Option Nat → Int32 → Int32 → Option (Int32 × ax_M)) (M : ax_M) (v0 : Option Nat) (v1 : Int32) (v2 : Int32) : Option (Int32 × ax_M) := if 8 ≤ v2 then some (v1, M) else (ax_gr M 2 8 v0).bind (fun x1 => (ax_ri M 0 x1 v2).bind (fun x2 => if x2 ≤ 0 then G_A_bestWithout_44 rec4 M v0 v1 v2 else (ax_gr M 2 10 v0).bind (fun x3 => (ax_ri M 0 x3 v2).bind (fun x4 => if x4 = 0 then if v1 = (-1) then G_A_bestWithout_42 rec4 M v0 v2 else (ax_ob M 2 v0).bind (fun _ => (f_A_isAhead M v0 v2 v1).bind (fun q5 => if q5.1 = 0 then G_A_bestWithout_44 rec4 q5.2 v0 v1 v2 else G_A_bestWithout_42 rec4 q5.2 v0 v2)) else G_A_bestWithout_44 rec4 M v0 v1 v2))))
set_option maxRecDepth 100000 in
set_option maxHeartbeats 4000000 in
theorem K_A_bestWithout_4 {Z : ax_Z} {ad0 ad : Nat → Nat} {q : Int32 × ax_M} (B : ax_B Z "VoteAuctions$Auction" b_A_bestWithout (some .int)) (hn : Z.2.2.2.2.2.2.2.2.2.2.2.1 = 3) (hR : ax_R Z 1 0 0) (hE : ax_E Z ad0 [] 0 0 (some (ax_I q.1)) q.2) (hag : ∀ a, a ∉ ([] : List Nat) → ad a = ad0 a) {rec4 : ax_M → Option Nat → Int32 → Int32 → Option (Int32 × ax_M)} (hr4 : ∀ (M : ax_M) (v0 : Option Nat) (v1 : Int32) (v2 : Int32), rec4 M v0 v1 v2 = some q → ax_W Z ad 0 0 4 [(0, ax_O v0), (1, ax_I v1), (2, ax_I v2)] [] M) : ∀ (M : ax_M) (v0 : Option Nat) (v1 : Int32) (v2 : Int32), G_A_bestWithout_4 rec4 M v0 v1 v2 = some q → ax_W Z ad 0 0 4 [(0, ax_O v0), (1, ax_I v1), (2, ax_I v2)] [] M := by
  intro M v0 v1 v2 hf
  unfold G_A_bestWithout_4 at hf
  refine ax_iload_n B d_A_bestWithout_4 rfl (j := 2) rfl ?_
  refine ax_bipush B (v := 8) (by decide) d_A_bestWithout_5 ?_
  refine ax_icmp_ge B (tgt := 50) d_A_bestWithout_7 (by decide) hf (fun hf => ?_) (fun hf => ?_)
  · refine ax_iload_n B d_A_bestWithout_50 rfl (j := 1) rfl ?_
    exact ax_ireturn B hE d_A_bestWithout_51 hf rfl hag (by decide) (by decide)
  · refine ax_aload_n B d_A_bestWithout_10 rfl (j := 0) rfl ?_
    refine ax_getR B d_A_bestWithout_11 k_A_38 rfl hf (fun x1 hf => ?_)
    refine ax_iload_n B d_A_bestWithout_14 rfl (j := 2) rfl ?_
    refine ax_iald B d_A_bestWithout_15 (t := 0) (by decide) rfl hf (fun x2 hf => ?_)
    refine ax_if_le B (tgt := 44) d_A_bestWithout_16 (by decide) hf (fun hf => ?_) (fun hf => ?_)
    · exact K_A_bestWithout_44 B hn hR hE hag hr4 M v0 v1 v2 hf
    · refine ax_aload_n B d_A_bestWithout_19 rfl (j := 0) rfl ?_
      refine ax_getR B d_A_bestWithout_20 k_A_44 rfl hf (fun x3 hf => ?_)
      refine ax_iload_n B d_A_bestWithout_23 rfl (j := 2) rfl ?_
      refine ax_iald B d_A_bestWithout_24 (t := 0) (by decide) rfl hf (fun x4 hf => ?_)
      refine ax_if_ne B (tgt := 44) d_A_bestWithout_25 (by decide) hf (fun hf => ?_) (fun hf => ?_)
      · refine ax_iload_n B d_A_bestWithout_28 rfl (j := 1) rfl ?_
        refine ax_iconst B (v := (-1)) (by decide) d_A_bestWithout_29 ?_
        refine ax_icmp_eq B (tgt := 42) d_A_bestWithout_30 (by decide) hf (fun hf => ?_) (fun hf => ?_)
        · refine ax_sub [0, 2] rfl ?_
          exact K_A_bestWithout_42 B hn hR hE hag hr4 M v0 v2 hf
        · refine ax_aload_n B d_A_bestWithout_33 rfl (j := 0) rfl ?_
          refine ax_iload_n B d_A_bestWithout_34 rfl (j := 2) rfl ?_
          refine ax_iload_n B d_A_bestWithout_35 rfl (j := 1) rfl ?_
          refine ax_cVV B hR (as := [ax_I v2, ax_I v1]) (V := fun q => ax_I q.1) (N := fun q => q.2) d_A_bestWithout_36 l_A_53 m_A_isAhead hf (fun q h => c_A_isAhead _ _ _ _ _ _ h) rfl rfl (by decide) (by decide) (by decide) (by decide) (Nat.le_of_ble_eq_true rfl) (fun q5 hf => ?_)
          refine ax_if_eq B (tgt := 44) d_A_bestWithout_39 (by decide) hf (fun hf => ?_) (fun hf => ?_)
          · exact K_A_bestWithout_44 B hn hR hE hag hr4 q5.2 v0 v1 v2 hf
          · refine ax_sub [0, 2] rfl ?_
            exact K_A_bestWithout_42 B hn hR hE hag hr4 q5.2 v0 v2 hf
      · exact K_A_bestWithout_44 B hn hR hE hag hr4 M v0 v1 v2 hf
def F_A_bestWithout_4  : Nat → ax_M → Option Nat → Int32 → Int32 → Option (Int32 × ax_M)
  | 0 => fun _ _ _ _ => none
  | n + 1 => G_A_bestWithout_4 (F_A_bestWithout_4  n)
set_option maxRecDepth 100000 in
set_option maxHeartbeats 4000000 in
theorem L_A_bestWithout_4 {Z : ax_Z} {ad0 ad : Nat → Nat} {q : Int32 × ax_M} (B : ax_B Z "VoteAuctions$Auction" b_A_bestWithout (some .int)) (hn : Z.2.2.2.2.2.2.2.2.2.2.2.1 = 3) (hR : ax_R Z 1 0 0) (hE : ax_E Z ad0 [] 0 0 (some (ax_I q.1)) q.2) (hag : ∀ a, a ∉ ([] : List Nat) → ad a = ad0 a)   : ∀ (n : Nat) (M : ax_M) (v0 : Option Nat) (v1 : Int32) (v2 : Int32), F_A_bestWithout_4  n M v0 v1 v2 = some q → ax_W Z ad 0 0 4 [(0, ax_O v0), (1, ax_I v1), (2, ax_I v2)] [] M := by
  intro n
  induction n with
  | zero => intro M v0 v1 v2 hf; cases hf
  | succ n ih => exact K_A_bestWithout_4 B hn hR hE hag ih
def f_A_bestWithout (M : ax_M) (x0 : Option Nat) : Option (Int32 × ax_M) := F_A_bestWithout_4 64 M x0 (-1) 0
set_option maxRecDepth 100000 in
set_option maxHeartbeats 4000000 in
theorem c_A_bestWithout (l : Launch) (G : ax_G) (M : ax_M) (x0 : Option Nat) {q : Int32 × ax_M} (hf : f_A_bestWithout M x0 = some q) : ax_C l G y_A_bestWithout b_A_bestWithout 3 (some .int) [] 1 0 0 [ax_O x0] M (some (ax_I q.1)) q.2 := by
  refine ax_ofW (by decide +kernel) (lv0 := [(0, ax_O x0)]) (Nat.le_of_ble_eq_true rfl) rfl ?_
  intro Z ad B hin _ _ hn hR hE
  have hag : ∀ a, a ∉ ([] : List Nat) → ad a = ad a := fun _ _ => rfl
  unfold f_A_bestWithout at hf
  refine ax_iconst B (v := (-1)) (by decide) d_A_bestWithout_0 ?_
  refine ax_istore_n B (lv' := [(1, ax_I (-1)), (0, ax_O x0)]) d_A_bestWithout_1 rfl (by rw [hn]; decide) rfl ?_
  refine ax_iconst B (v := 0) (by decide) d_A_bestWithout_2 ?_
  refine ax_istore_n B (lv' := [(2, ax_I 0), (1, ax_I (-1)), (0, ax_O x0)]) d_A_bestWithout_3 rfl (by rw [hn]; decide) rfl ?_
  refine ax_sub [2, 1, 0] rfl ?_
  exact L_A_bestWithout_4 B hn hR hE hag 64 M x0 (-1) 0 hf
def G_V_shareUnits_69  (M : ax_M)  : Option (ax_M) := some M
set_option maxRecDepth 100000 in
set_option maxHeartbeats 4000000 in
theorem K_V_shareUnits_69 {Z : ax_Z} {ad0 ad : Nat → Nat} {q : ax_M} (B : ax_B Z "VoteAuctions" b_V_shareUnits none) (hn : Z.2.2.2.2.2.2.2.2.2.2.2.1 = 5) (hR : ax_R Z 2 0 0) (hE : ax_E Z ad0 [] 0 0 none q) (hag : ∀ a, a ∉ ([] : List Nat) → ad a = ad0 a)   : ∀ (M : ax_M) , G_V_shareUnits_69  M  = some q → ax_W Z ad 0 0 69 [] [] M := by
  intro M  hf
  unfold G_V_shareUnits_69 at hf
  exact ax_vreturn B hE d_V_shareUnits_69 hf hag (by decide) (by decide)
def G_V_shareUnits_7 (rec7 : ax_M → Option Nat → Int32 → Int32 → Option (ax_M)) (M : ax_M) (v0 : Option Nat) (v1 : Int32) (v2 : Int32) : Option (ax_M) := if 8 ≤ v2 then G_V_shareUnits_69 M else if v1 ≤ 0 then G_V_shareUnits_69 M else (ax_ob M 2 v0).bind (fun _ => (f_A_bestWithout M v0 ).bind (fun q1 => if q1.1 = (-1) then some q1.2 else (ax_gr q1.2 2 8 v0).bind (fun x2 => (ax_ri q1.2 0 x2 q1.1).bind (fun x3 => (some (if x3 < v1 then x3 else v1)).bind (fun y4 => (ax_gr q1.2 2 10 v0).bind (fun x5 => (ax_ti q1.2 0 x5 q1.1 y4).bind (fun M6 => (ax_gr M6 2 9 v0).bind (fun x7 => (ax_ri M6 0 x7 q1.1).bind (fun x8 => (ax_pi M6 2 13 v0 x8).bind (fun M9 => (some (v1 - y4)).bind (fun y10 => (some (v2 + 1)).bind (fun y11 => rec7 M9 v0 y10 y11))))))))))))
set_option maxRecDepth 100000 in
set_option maxHeartbeats 4000000 in
theorem K_V_shareUnits_7 {Z : ax_Z} {ad0 ad : Nat → Nat} {q : ax_M} (B : ax_B Z "VoteAuctions" b_V_shareUnits none) (hn : Z.2.2.2.2.2.2.2.2.2.2.2.1 = 5) (hR : ax_R Z 2 0 0) (hE : ax_E Z ad0 [] 0 0 none q) (hag : ∀ a, a ∉ ([] : List Nat) → ad a = ad0 a) {rec7 : ax_M → Option Nat → Int32 → Int32 → Option (ax_M)} (hr7 : ∀ (M : ax_M) (v0 : Option Nat) (v1 : Int32) (v2 : Int32), rec7 M v0 v1 v2 = some q → ax_W Z ad 0 0 7 [(0, ax_O v0), (1, ax_I v1), (2, ax_I v2)] [] M) : ∀ (M : ax_M) (v0 : Option Nat) (v1 : Int32) (v2 : Int32), G_V_shareUnits_7 rec7 M v0 v1 v2 = some q → ax_W Z ad 0 0 7 [(0, ax_O v0), (1, ax_I v1), (2, ax_I v2)] [] M := by
  intro M v0 v1 v2 hf
  unfold G_V_shareUnits_7 at hf
  refine ax_iload_n B d_V_shareUnits_7 rfl (j := 2) rfl ?_
  refine ax_bipush B (v := 8) (by decide) d_V_shareUnits_8 ?_
  refine ax_icmp_ge B (tgt := 69) d_V_shareUnits_10 (by decide) hf (fun hf => ?_) (fun hf => ?_)
  · refine ax_sub [] rfl ?_
    exact K_V_shareUnits_69 B hn hR hE hag M hf
  · refine ax_iload_n B d_V_shareUnits_13 rfl (j := 1) rfl ?_
    refine ax_if_le B (tgt := 69) d_V_shareUnits_14 (by decide) hf (fun hf => ?_) (fun hf => ?_)
    · refine ax_sub [] rfl ?_
      exact K_V_shareUnits_69 B hn hR hE hag M hf
    · refine ax_aload_n B d_V_shareUnits_17 rfl (j := 0) rfl ?_
      refine ax_cVV B hR (as := []) (V := fun q => ax_I q.1) (N := fun q => q.2) d_V_shareUnits_18 l_V_292 m_A_bestWithout hf (fun q h => c_A_bestWithout _ _ _ _ h) rfl rfl (by decide) (by decide) (by decide) (by decide) (Nat.le_of_ble_eq_true rfl) (fun q1 hf => ?_)
      refine ax_istore_n B (lv' := [(3, ax_I q1.1), (0, ax_O v0), (1, ax_I v1), (2, ax_I v2)]) d_V_shareUnits_21 rfl (by rw [hn]; decide) rfl ?_
      refine ax_iload_n B d_V_shareUnits_22 rfl (j := 0) rfl ?_
      refine ax_iconst B (v := (-1)) (by decide) d_V_shareUnits_23 ?_
      refine ax_icmp_ne B (tgt := 28) d_V_shareUnits_24 (by decide) hf (fun hf => ?_) (fun hf => ?_)
      · exact ax_vreturn B hE d_V_shareUnits_27 hf hag (by decide) (by decide)
      · refine ax_iload_n B d_V_shareUnits_28 rfl (j := 2) rfl ?_
        refine ax_aload_n B d_V_shareUnits_29 rfl (j := 1) rfl ?_
        refine ax_getR B d_V_shareUnits_30 k_V_198 rfl hf (fun x2 hf => ?_)
        refine ax_iload_n B d_V_shareUnits_33 rfl (j := 0) rfl ?_
        refine ax_iald B d_V_shareUnits_34 (t := 0) (by decide) rfl hf (fun x3 hf => ?_)
        refine ax_mmin B hR d_V_shareUnits_35 l_V_299 (by decide) (by decide) (by decide) (Nat.le_of_ble_eq_true rfl) ?_
        refine ax_nmI hf (fun y4 hf => ?_)
        refine ax_istore B (lv' := [(4, ax_I y4), (3, ax_I q1.1), (0, ax_O v0), (1, ax_I v1), (2, ax_I v2)]) d_V_shareUnits_38 (by rw [hn]; decide) rfl ?_
        refine ax_aload_n B d_V_shareUnits_40 rfl (j := 2) rfl ?_
        refine ax_getR B d_V_shareUnits_41 k_V_226 rfl hf (fun x5 hf => ?_)
        refine ax_iload_n B d_V_shareUnits_44 rfl (j := 1) rfl ?_
        refine ax_iload B (j := 0) d_V_shareUnits_45 rfl ?_
        refine ax_iast B d_V_shareUnits_47 (t := 0) (by decide) rfl hf (fun M6 hf => ?_)
        refine ax_aload_n B d_V_shareUnits_48 rfl (j := 2) rfl ?_
        refine ax_aload_n B d_V_shareUnits_49 rfl (j := 2) rfl ?_
        refine ax_getR B d_V_shareUnits_50 k_V_201 rfl hf (fun x7 hf => ?_)
        refine ax_iload_n B d_V_shareUnits_53 rfl (j := 1) rfl ?_
        refine ax_iald B d_V_shareUnits_54 (t := 0) (by decide) rfl hf (fun x8 hf => ?_)
        refine ax_putI B d_V_shareUnits_55 k_V_191 rfl rfl rfl rfl hf (fun M9 hf => ?_)
        refine ax_iload_n B d_V_shareUnits_58 rfl (j := 3) rfl ?_
        refine ax_iload B (j := 0) d_V_shareUnits_59 rfl ?_
        refine ax_isub B d_V_shareUnits_61 ?_
        refine ax_nmI hf (fun y10 hf => ?_)
        refine ax_istore_n B (lv' := [(1, ax_I y10), (4, ax_I y4), (3, ax_I q1.1), (0, ax_O v0), (2, ax_I v2)]) d_V_shareUnits_62 rfl (by rw [hn]; decide) rfl ?_
        refine ax_iincN B (j := 4) (lv' := fun y => [(2, ax_I y), (1, ax_I y10), (4, ax_I y4), (3, ax_I q1.1), (0, ax_O v0)]) d_V_shareUnits_63 rfl hf rfl (by rw [hn]; decide) (fun _ => rfl) (fun y11 hf => ?_)
        refine ax_goto B (tgt := 7) d_V_shareUnits_66 (by decide) ?_
        refine ax_sub [4, 1, 0] rfl ?_
        exact hr7 M9 v0 y10 y11 hf
def F_V_shareUnits_7  : Nat → ax_M → Option Nat → Int32 → Int32 → Option (ax_M)
  | 0 => fun _ _ _ _ => none
  | n + 1 => G_V_shareUnits_7 (F_V_shareUnits_7  n)
set_option maxRecDepth 100000 in
set_option maxHeartbeats 4000000 in
theorem L_V_shareUnits_7 {Z : ax_Z} {ad0 ad : Nat → Nat} {q : ax_M} (B : ax_B Z "VoteAuctions" b_V_shareUnits none) (hn : Z.2.2.2.2.2.2.2.2.2.2.2.1 = 5) (hR : ax_R Z 2 0 0) (hE : ax_E Z ad0 [] 0 0 none q) (hag : ∀ a, a ∉ ([] : List Nat) → ad a = ad0 a)   : ∀ (n : Nat) (M : ax_M) (v0 : Option Nat) (v1 : Int32) (v2 : Int32), F_V_shareUnits_7  n M v0 v1 v2 = some q → ax_W Z ad 0 0 7 [(0, ax_O v0), (1, ax_I v1), (2, ax_I v2)] [] M := by
  intro n
  induction n with
  | zero => intro M v0 v1 v2 hf; cases hf
  | succ n ih => exact K_V_shareUnits_7 B hn hR hE hag ih
def f_V_shareUnits (M : ax_M) (p0 : Option Nat) : Option (ax_M) := (ax_gi M 2 1 p0).bind (fun x1 => F_V_shareUnits_7 64 M p0 x1 0)
set_option maxRecDepth 100000 in
set_option maxHeartbeats 4000000 in
theorem c_V_shareUnits (l : Launch) (G : ax_G) (M : ax_M) (p0 : Option Nat) {q : ax_M} (hf : f_V_shareUnits M p0 = some q) : ax_C l G y_V_shareUnits b_V_shareUnits 5 none [] 2 0 0 [ax_O p0] M none q := by
  refine ax_ofW (by decide +kernel) (lv0 := [(0, ax_O p0)]) (Nat.le_of_ble_eq_true rfl) rfl ?_
  intro Z ad B hin _ _ hn hR hE
  have hag : ∀ a, a ∉ ([] : List Nat) → ad a = ad a := fun _ _ => rfl
  unfold f_V_shareUnits at hf
  refine ax_aload_n B d_V_shareUnits_0 rfl (j := 0) rfl ?_
  refine ax_getI B d_V_shareUnits_1 k_V_168 rfl hf (fun x1 hf => ?_)
  refine ax_istore_n B (lv' := [(1, ax_I x1), (0, ax_O p0)]) d_V_shareUnits_4 rfl (by rw [hn]; decide) rfl ?_
  refine ax_iconst B (v := 0) (by decide) d_V_shareUnits_5 ?_
  refine ax_istore_n B (lv' := [(2, ax_I 0), (1, ax_I x1), (0, ax_O p0)]) d_V_shareUnits_6 rfl (by rw [hn]; decide) rfl ?_
  refine ax_sub [2, 1, 0] rfl ?_
  exact L_V_shareUnits_7 B hn hR hE hag 64 M p0 x1 0 hf
def f_A_costOf (M : ax_M) (x0 : Option Nat) (p0 : Int32) : Option (Int64 × ax_M) := (ax_gr M 2 8 x0).bind (fun x1 => (ax_ri M 0 x1 p0).bind (fun x2 => (ax_gr M 2 9 x0).bind (fun x3 => (ax_ri M 0 x3 p0).bind (fun x4 => some (((x2.toInt64) * (x4.toInt64)), M)))))
set_option maxRecDepth 100000 in
set_option maxHeartbeats 4000000 in
theorem c_A_costOf (l : Launch) (G : ax_G) (M : ax_M) (x0 : Option Nat) (p0 : Int32) {q : Int64 × ax_M} (hf : f_A_costOf M x0 p0 = some q) : ax_C l G y_A_costOf b_A_costOf 2 (some .long) [] 0 0 0 [ax_O x0, ax_I p0] M (some (ax_L q.1)) q.2 := by
  refine ax_ofW (by decide +kernel) (lv0 := [(0, ax_O x0), (1, ax_I p0)]) (Nat.le_of_ble_eq_true rfl) rfl ?_
  intro Z ad B hin _ _ hn hR hE
  have hag : ∀ a, a ∉ ([] : List Nat) → ad a = ad a := fun _ _ => rfl
  unfold f_A_costOf at hf
  refine ax_aload_n B d_A_costOf_0 rfl (j := 0) rfl ?_
  refine ax_getR B d_A_costOf_1 k_A_38 rfl hf (fun x1 hf => ?_)
  refine ax_iload_n B d_A_costOf_4 rfl (j := 1) rfl ?_
  refine ax_iald B d_A_costOf_5 (t := 0) (by decide) rfl hf (fun x2 hf => ?_)
  refine ax_i2l B d_A_costOf_6 ?_
  refine ax_aload_n B d_A_costOf_7 rfl (j := 0) rfl ?_
  refine ax_getR B d_A_costOf_8 k_A_41 rfl hf (fun x3 hf => ?_)
  refine ax_iload_n B d_A_costOf_11 rfl (j := 1) rfl ?_
  refine ax_iald B d_A_costOf_12 (t := 0) (by decide) rfl hf (fun x4 hf => ?_)
  refine ax_i2l B d_A_costOf_13 ?_
  refine ax_lmul B d_A_costOf_14 ?_
  exact ax_lreturn B hE d_A_costOf_15 hf hag (by decide) (by decide)
def f_V_giveBack (M : ax_M) (x0 : Option Nat) (p0 : Int32) (p1 : Int64) : Option (ax_M) := (ax_gr M 0 5 x0).bind (fun x1 => (ax_rl M 1 x1 p0).bind (fun x2 => (ax_tl M 1 x1 p0 (x2 - p1)).bind (fun M3 => (ax_gr M3 0 4 x0).bind (fun x4 => (ax_rl M3 1 x4 p0).bind (fun x5 => (ax_tl M3 1 x4 p0 (x5 + p1)).bind (fun M6 => some M6))))))
set_option maxRecDepth 100000 in
set_option maxHeartbeats 4000000 in
theorem c_V_giveBack (l : Launch) (G : ax_G) (M : ax_M) (x0 : Option Nat) (p0 : Int32) (p1 : Int64) {q : ax_M} (hf : f_V_giveBack M x0 p0 p1 = some q) : ax_C l G y_V_giveBack b_V_giveBack 4 none [] 0 0 0 [ax_O x0, ax_I p0, ax_L p1] M none q := by
  refine ax_ofW (by decide +kernel) (lv0 := [(0, ax_O x0), (1, ax_I p0), (2, ax_L p1)]) (Nat.le_of_ble_eq_true rfl) rfl ?_
  intro Z ad B hin _ _ hn hR hE
  have hag : ∀ a, a ∉ ([] : List Nat) → ad a = ad a := fun _ _ => rfl
  unfold f_V_giveBack at hf
  refine ax_aload_n B d_V_giveBack_0 rfl (j := 0) rfl ?_
  refine ax_getR B d_V_giveBack_1 k_V_17 rfl hf (fun x1 hf => ?_)
  refine ax_iload_n B d_V_giveBack_4 rfl (j := 1) rfl ?_
  refine ax_dup2_11 B rfl rfl d_V_giveBack_5 ?_
  refine ax_lald B d_V_giveBack_6 (t := 1) (by decide) rfl hf (fun x2 hf => ?_)
  refine ax_lload_n B d_V_giveBack_7 rfl (j := 2) rfl ?_
  refine ax_lsub B d_V_giveBack_8 ?_
  refine ax_last B d_V_giveBack_9 (t := 1) (by decide) rfl hf (fun M3 hf => ?_)
  refine ax_aload_n B d_V_giveBack_10 rfl (j := 0) rfl ?_
  refine ax_getR B d_V_giveBack_11 k_V_13 rfl hf (fun x4 hf => ?_)
  refine ax_iload_n B d_V_giveBack_14 rfl (j := 1) rfl ?_
  refine ax_dup2_11 B rfl rfl d_V_giveBack_15 ?_
  refine ax_lald B d_V_giveBack_16 (t := 1) (by decide) rfl hf (fun x5 hf => ?_)
  refine ax_lload_n B d_V_giveBack_17 rfl (j := 2) rfl ?_
  refine ax_ladd B d_V_giveBack_18 ?_
  refine ax_last B d_V_giveBack_19 (t := 1) (by decide) rfl hf (fun M6 hf => ?_)
  exact ax_vreturn B hE d_V_giveBack_20 hf hag (by decide) (by decide)
def G_V_settleBids_2 (rec2 : ax_M → Option Nat → Option Nat → Int32 → Option (ax_M)) (M : ax_M) (v0 : Option Nat) (v1 : Option Nat) (v2 : Int32) : Option (ax_M) := if 8 ≤ v2 then some M else (ax_ob M 2 v1).bind (fun _ => (f_A_costOf M v1 v2).bind (fun q1 => (ax_gr q1.2 2 10 v1).bind (fun x2 => (ax_ri q1.2 0 x2 v2).bind (fun x3 => (ax_gi q1.2 2 13 v1).bind (fun x4 => (some ((x3.toInt64) * (x4.toInt64))).bind (fun y5 => (ax_ob q1.2 0 v0).bind (fun _ => (f_V_payAside q1.2 v0 v2 y5).bind (fun q6 => (ax_ob q6 0 v0).bind (fun _ => (f_V_giveBack q6 v0 v2 (q1.1 - y5)).bind (fun q7 => (some (v2 + 1)).bind (fun y8 => rec2 q7 v0 v1 y8)))))))))))
set_option maxRecDepth 100000 in
set_option maxHeartbeats 4000000 in
theorem K_V_settleBids_2 {Z : ax_Z} {ad0 ad : Nat → Nat} {q : ax_M} (B : ax_B Z "VoteAuctions" b_V_settleBids none) (hn : Z.2.2.2.2.2.2.2.2.2.2.2.1 = 7) (hR : ax_R Z 1 0 0) (hE : ax_E Z ad0 [] 0 0 none q) (hag : ∀ a, a ∉ ([] : List Nat) → ad a = ad0 a) {rec2 : ax_M → Option Nat → Option Nat → Int32 → Option (ax_M)} (hr2 : ∀ (M : ax_M) (v0 : Option Nat) (v1 : Option Nat) (v2 : Int32), rec2 M v0 v1 v2 = some q → ax_W Z ad 0 0 2 [(0, ax_O v0), (1, ax_O v1), (2, ax_I v2)] [] M) : ∀ (M : ax_M) (v0 : Option Nat) (v1 : Option Nat) (v2 : Int32), G_V_settleBids_2 rec2 M v0 v1 v2 = some q → ax_W Z ad 0 0 2 [(0, ax_O v0), (1, ax_O v1), (2, ax_I v2)] [] M := by
  intro M v0 v1 v2 hf
  unfold G_V_settleBids_2 at hf
  refine ax_iload_n B d_V_settleBids_2 rfl (j := 2) rfl ?_
  refine ax_bipush B (v := 8) (by decide) d_V_settleBids_3 ?_
  refine ax_icmp_ge B (tgt := 51) d_V_settleBids_5 (by decide) hf (fun hf => ?_) (fun hf => ?_)
  · exact ax_vreturn B hE d_V_settleBids_51 hf hag (by decide) (by decide)
  · refine ax_aload_n B d_V_settleBids_8 rfl (j := 1) rfl ?_
    refine ax_iload_n B d_V_settleBids_9 rfl (j := 2) rfl ?_
    refine ax_cVV B hR (as := [ax_I v2]) (V := fun q => ax_L q.1) (N := fun q => q.2) d_V_settleBids_10 l_V_180 m_A_costOf hf (fun q h => c_A_costOf _ _ _ _ _ h) rfl rfl (by decide) (by decide) (by decide) (by decide) (Nat.le_of_ble_eq_true rfl) (fun q1 hf => ?_)
    refine ax_lstore_n B (lv' := [(3, ax_L q1.1), (0, ax_O v0), (1, ax_O v1), (2, ax_I v2)]) d_V_settleBids_13 rfl (by rw [hn]; decide) rfl ?_
    refine ax_aload_n B d_V_settleBids_14 rfl (j := 2) rfl ?_
    refine ax_getR B d_V_settleBids_15 k_V_226 rfl hf (fun x2 hf => ?_)
    refine ax_iload_n B d_V_settleBids_18 rfl (j := 3) rfl ?_
    refine ax_iald B d_V_settleBids_19 (t := 0) (by decide) rfl hf (fun x3 hf => ?_)
    refine ax_i2l B d_V_settleBids_20 ?_
    refine ax_aload_n B d_V_settleBids_21 rfl (j := 2) rfl ?_
    refine ax_getI B d_V_settleBids_22 k_V_191 rfl hf (fun x4 hf => ?_)
    refine ax_i2l B d_V_settleBids_25 ?_
    refine ax_lmul B d_V_settleBids_26 ?_
    refine ax_nmL hf (fun y5 hf => ?_)
    refine ax_lstore B (lv' := [(5, ax_L y5), (3, ax_L q1.1), (0, ax_O v0), (1, ax_O v1), (2, ax_I v2)]) d_V_settleBids_27 (by rw [hn]; decide) rfl ?_
    refine ax_aload_n B d_V_settleBids_29 rfl (j := 2) rfl ?_
    refine ax_iload_n B d_V_settleBids_30 rfl (j := 4) rfl ?_
    refine ax_lload B (j := 0) d_V_settleBids_31 rfl ?_
    refine ax_cVN B hR (as := [ax_I v2, ax_L y5]) (N := fun q => q) d_V_settleBids_33 l_V_223 m_V_payAside hf (fun q h => c_V_payAside _ _ _ _ _ _ h) rfl rfl (by decide) (by decide) (by decide) (by decide) (Nat.le_of_ble_eq_true rfl) (fun q6 hf => ?_)
    refine ax_aload_n B d_V_settleBids_36 rfl (j := 2) rfl ?_
    refine ax_iload_n B d_V_settleBids_37 rfl (j := 4) rfl ?_
    refine ax_lload_n B d_V_settleBids_38 rfl (j := 1) rfl ?_
    refine ax_lload B (j := 0) d_V_settleBids_39 rfl ?_
    refine ax_lsub B d_V_settleBids_41 ?_
    refine ax_cVN B hR (as := [ax_I v2, ax_L (q1.1 - y5)]) (N := fun q => q) d_V_settleBids_42 l_V_216 m_V_giveBack hf (fun q h => c_V_giveBack _ _ _ _ _ _ h) rfl rfl (by decide) (by decide) (by decide) (by decide) (Nat.le_of_ble_eq_true rfl) (fun q7 hf => ?_)
    refine ax_iincN B (j := 4) (lv' := fun y => [(2, ax_I y), (5, ax_L y5), (3, ax_L q1.1), (0, ax_O v0), (1, ax_O v1)]) d_V_settleBids_45 rfl hf rfl (by rw [hn]; decide) (fun _ => rfl) (fun y8 hf => ?_)
    refine ax_goto B (tgt := 2) d_V_settleBids_48 (by decide) ?_
    refine ax_sub [3, 4, 0] rfl ?_
    exact hr2 q7 v0 v1 y8 hf
def F_V_settleBids_2  : Nat → ax_M → Option Nat → Option Nat → Int32 → Option (ax_M)
  | 0 => fun _ _ _ _ => none
  | n + 1 => G_V_settleBids_2 (F_V_settleBids_2  n)
set_option maxRecDepth 100000 in
set_option maxHeartbeats 4000000 in
theorem L_V_settleBids_2 {Z : ax_Z} {ad0 ad : Nat → Nat} {q : ax_M} (B : ax_B Z "VoteAuctions" b_V_settleBids none) (hn : Z.2.2.2.2.2.2.2.2.2.2.2.1 = 7) (hR : ax_R Z 1 0 0) (hE : ax_E Z ad0 [] 0 0 none q) (hag : ∀ a, a ∉ ([] : List Nat) → ad a = ad0 a)   : ∀ (n : Nat) (M : ax_M) (v0 : Option Nat) (v1 : Option Nat) (v2 : Int32), F_V_settleBids_2  n M v0 v1 v2 = some q → ax_W Z ad 0 0 2 [(0, ax_O v0), (1, ax_O v1), (2, ax_I v2)] [] M := by
  intro n
  induction n with
  | zero => intro M v0 v1 v2 hf; cases hf
  | succ n ih => exact K_V_settleBids_2 B hn hR hE hag ih
def f_V_settleBids (M : ax_M) (x0 : Option Nat) (p0 : Option Nat) : Option (ax_M) := F_V_settleBids_2 64 M x0 p0 0
set_option maxRecDepth 100000 in
set_option maxHeartbeats 4000000 in
theorem c_V_settleBids (l : Launch) (G : ax_G) (M : ax_M) (x0 : Option Nat) (p0 : Option Nat) {q : ax_M} (hf : f_V_settleBids M x0 p0 = some q) : ax_C l G y_V_settleBids b_V_settleBids 7 none [] 1 0 0 [ax_O x0, ax_O p0] M none q := by
  refine ax_ofW (by decide +kernel) (lv0 := [(0, ax_O x0), (1, ax_O p0)]) (Nat.le_of_ble_eq_true rfl) rfl ?_
  intro Z ad B hin _ _ hn hR hE
  have hag : ∀ a, a ∉ ([] : List Nat) → ad a = ad a := fun _ _ => rfl
  unfold f_V_settleBids at hf
  refine ax_iconst B (v := 0) (by decide) d_V_settleBids_0 ?_
  refine ax_istore_n B (lv' := [(2, ax_I 0), (0, ax_O x0), (1, ax_O p0)]) d_V_settleBids_1 rfl (by rw [hn]; decide) rfl ?_
  refine ax_sub [1, 2, 0] rfl ?_
  exact L_V_settleBids_2 B hn hR hE hag 64 M x0 p0 0 hf
