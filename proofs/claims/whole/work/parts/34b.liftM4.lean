def G_M_winner_17  (M : ax_M) (s0 : Int32) : Option (Int32 × ax_M) := some (s0, M)
set_option maxRecDepth 100000 in
set_option maxHeartbeats 4000000 in
theorem K_M_winner_17 {Z : ax_Z} {ad0 ad : Nat → Nat} {q : Int32 × ax_M} (B : ax_B Z "VoteAuctionsModel" b_M_winner (some .int)) (hn : Z.2.2.2.2.2.2.2.2.2.2.2.1 = 2) (hR : ax_R Z 4 0 0) (hE : ax_E Z ad0 [] 0 0 (some (ax_I q.1)) q.2) (hag : ∀ a, a ∉ ([] : List Nat) → ad a = ad0 a)   : ∀ (M : ax_M) (s0 : Int32), G_M_winner_17  M s0 = some q → ax_W Z ad 0 0 17 [] [ax_I s0] M := by
  intro M s0 hf
  unfold G_M_winner_17 at hf
  exact ax_ireturn B hE d_M_winner_17 hf rfl hag (by decide) (by decide)
def f_M_winner (M : ax_M) (x0 : Option Nat) (p0 : Int32) : Option (Int32 × ax_M) := (ax_ob M 3 x0).bind (fun _ => (f_M_isQuestion M x0 p0).bind (fun q1 => if q1.1 = 0 then G_M_winner_17 q1.2 (-1) else (ax_ob q1.2 3 x0).bind (fun _ => (f_M_first q1.2 x0 p0).bind (fun q2 => G_M_winner_17 q2.2 q2.1))))
set_option maxRecDepth 100000 in
set_option maxHeartbeats 4000000 in
theorem c_M_winner (l : Launch) (G : ax_G) (M : ax_M) (x0 : Option Nat) (p0 : Int32) {q : Int32 × ax_M} (hf : f_M_winner M x0 p0 = some q) : ax_C l G y_M_winner b_M_winner 2 (some .int) [] 4 0 0 [ax_O x0, ax_I p0] M (some (ax_I q.1)) q.2 := by
  refine ax_ofW (by decide +kernel) (lv0 := [(0, ax_O x0), (1, ax_I p0)]) (Nat.le_of_ble_eq_true rfl) rfl ?_
  intro Z ad B hin _ _ hn hR hE
  have hag : ∀ a, a ∉ ([] : List Nat) → ad a = ad a := fun _ _ => rfl
  unfold f_M_winner at hf
  refine ax_aload_n B d_M_winner_0 rfl (j := 0) rfl ?_
  refine ax_iload_n B d_M_winner_1 rfl (j := 1) rfl ?_
  refine ax_cVV B hR (as := [ax_I p0]) (V := fun q => ax_I q.1) (N := fun q => q.2) d_M_winner_2 l_M_173 m_M_isQuestion hf (fun q h => c_M_isQuestion _ _ _ _ _ h) rfl rfl (by decide) (by decide) (by decide) (by decide) (Nat.le_of_ble_eq_true rfl) (fun q1 hf => ?_)
  refine ax_if_eq B (tgt := 16) d_M_winner_5 (by decide) hf (fun hf => ?_) (fun hf => ?_)
  · refine ax_iconst B (v := (-1)) (by decide) d_M_winner_16 ?_
    refine ax_sub [] rfl ?_
    exact K_M_winner_17 B hn hR hE hag q1.2 (-1) hf
  · refine ax_aload_n B d_M_winner_8 rfl (j := 0) rfl ?_
    refine ax_iload_n B d_M_winner_9 rfl (j := 1) rfl ?_
    refine ax_cVV B hR (as := [ax_I p0]) (V := fun q => ax_I q.1) (N := fun q => q.2) d_M_winner_10 l_M_220 m_M_first hf (fun q h => c_M_first _ _ _ _ _ h) rfl rfl (by decide) (by decide) (by decide) (by decide) (Nat.le_of_ble_eq_true rfl) (fun q2 hf => ?_)
    refine ax_goto B (tgt := 17) d_M_winner_13 (by decide) ?_
    refine ax_sub [] rfl ?_
    exact K_M_winner_17 B hn hR hE hag q2.2 q2.1 hf
def G_M_isPassed_21  (M : ax_M)  : Option (Int32 × ax_M) := some (0, M)
set_option maxRecDepth 100000 in
set_option maxHeartbeats 4000000 in
theorem K_M_isPassed_21 {Z : ax_Z} {ad0 ad : Nat → Nat} {q : Int32 × ax_M} (B : ax_B Z "VoteAuctionsModel" b_M_isPassed (some .boolean)) (hn : Z.2.2.2.2.2.2.2.2.2.2.2.1 = 4) (hR : ax_R Z 4 0 0) (hE : ax_E Z ad0 [] 0 0 (some (ax_I q.1)) q.2) (hag : ∀ a, a ∉ ([] : List Nat) → ad a = ad0 a)   : ∀ (M : ax_M) , G_M_isPassed_21  M  = some q → ax_W Z ad 0 0 21 [] [] M := by
  intro M  hf
  unfold G_M_isPassed_21 at hf
  refine ax_iconst B (v := 0) (by decide) d_M_isPassed_21 ?_
  exact ax_ireturn B hE d_M_isPassed_22 hf rfl hag (by decide) (by decide)
def G_M_isPassed_71  (M : ax_M) (s0 : Int32) : Option (Int32 × ax_M) := (ax_bo s0).bind (fun _ => some (s0, M))
set_option maxRecDepth 100000 in
set_option maxHeartbeats 4000000 in
theorem K_M_isPassed_71 {Z : ax_Z} {ad0 ad : Nat → Nat} {q : Int32 × ax_M} (B : ax_B Z "VoteAuctionsModel" b_M_isPassed (some .boolean)) (hn : Z.2.2.2.2.2.2.2.2.2.2.2.1 = 4) (hR : ax_R Z 4 0 0) (hE : ax_E Z ad0 [] 0 0 (some (ax_I q.1)) q.2) (hag : ∀ a, a ∉ ([] : List Nat) → ad a = ad0 a)   : ∀ (M : ax_M) (s0 : Int32), G_M_isPassed_71  M s0 = some q → ax_W Z ad 0 0 71 [] [ax_I s0] M := by
  intro M s0 hf
  unfold G_M_isPassed_71 at hf
  obtain ⟨_, hb, hf⟩ := ax_bd hf
  exact ax_ireturn B hE d_M_isPassed_71 hf (ax_bo_n hb) hag (by decide) (by decide)
def G_M_isPassed_27 (rec27 : ax_M → Option Nat → Int32 → Int32 → Int32 → Option (Int32 × ax_M)) (M : ax_M) (v0 : Option Nat) (v1 : Int32) (v2 : Int32) (v3 : Int32) : Option (Int32 × ax_M) := if 8 ≤ v3 then (ax_gi M 3 48 v0).bind (fun x1 => (ax_gr M 3 13 v0).bind (fun x2 => (ax_ri M 0 x2 v1).bind (fun x3 => if (100 * x1) < (x3 * v2) then G_M_isPassed_71 M 0 else G_M_isPassed_71 M 1))) else (ax_ob M 3 v0).bind (fun _ => (f_M_weightOf M v0 v1 v3).bind (fun q4 => (some (v2 + q4.1)).bind (fun y5 => (some (v3 + 1)).bind (fun y6 => rec27 q4.2 v0 v1 y5 y6))))
set_option maxRecDepth 100000 in
set_option maxHeartbeats 4000000 in
theorem K_M_isPassed_27 {Z : ax_Z} {ad0 ad : Nat → Nat} {q : Int32 × ax_M} (B : ax_B Z "VoteAuctionsModel" b_M_isPassed (some .boolean)) (hn : Z.2.2.2.2.2.2.2.2.2.2.2.1 = 4) (hR : ax_R Z 4 0 0) (hE : ax_E Z ad0 [] 0 0 (some (ax_I q.1)) q.2) (hag : ∀ a, a ∉ ([] : List Nat) → ad a = ad0 a) {rec27 : ax_M → Option Nat → Int32 → Int32 → Int32 → Option (Int32 × ax_M)} (hr27 : ∀ (M : ax_M) (v0 : Option Nat) (v1 : Int32) (v2 : Int32) (v3 : Int32), rec27 M v0 v1 v2 v3 = some q → ax_W Z ad 0 0 27 [(0, ax_O v0), (1, ax_I v1), (2, ax_I v2), (3, ax_I v3)] [] M) : ∀ (M : ax_M) (v0 : Option Nat) (v1 : Int32) (v2 : Int32) (v3 : Int32), G_M_isPassed_27 rec27 M v0 v1 v2 v3 = some q → ax_W Z ad 0 0 27 [(0, ax_O v0), (1, ax_I v1), (2, ax_I v2), (3, ax_I v3)] [] M := by
  intro M v0 v1 v2 v3 hf
  unfold G_M_isPassed_27 at hf
  refine ax_iload_n B d_M_isPassed_27 rfl (j := 3) rfl ?_
  refine ax_bipush B (v := 8) (by decide) d_M_isPassed_28 ?_
  refine ax_icmp_ge B (tgt := 48) d_M_isPassed_30 (by decide) hf (fun hf => ?_) (fun hf => ?_)
  · refine ax_bipush B (v := 100) (by decide) d_M_isPassed_48 ?_
    refine ax_aload_n B d_M_isPassed_50 rfl (j := 0) rfl ?_
    refine ax_getI B d_M_isPassed_51 k_M_197 rfl hf (fun x1 hf => ?_)
    refine ax_imul B d_M_isPassed_54 ?_
    refine ax_aload_n B d_M_isPassed_55 rfl (j := 0) rfl ?_
    refine ax_getR B d_M_isPassed_56 k_M_35 rfl hf (fun x2 hf => ?_)
    refine ax_iload_n B d_M_isPassed_59 rfl (j := 1) rfl ?_
    refine ax_iald B d_M_isPassed_60 (t := 0) (by decide) rfl hf (fun x3 hf => ?_)
    refine ax_iload_n B d_M_isPassed_61 rfl (j := 2) rfl ?_
    refine ax_imul B d_M_isPassed_62 ?_
    refine ax_icmp_lt B (tgt := 70) d_M_isPassed_63 (by decide) hf (fun hf => ?_) (fun hf => ?_)
    · refine ax_iconst B (v := 0) (by decide) d_M_isPassed_70 ?_
      refine ax_sub [] rfl ?_
      exact K_M_isPassed_71 B hn hR hE hag M 0 hf
    · refine ax_iconst B (v := 1) (by decide) d_M_isPassed_66 ?_
      refine ax_goto B (tgt := 71) d_M_isPassed_67 (by decide) ?_
      refine ax_sub [] rfl ?_
      exact K_M_isPassed_71 B hn hR hE hag M 1 hf
  · refine ax_iload_n B d_M_isPassed_33 rfl (j := 2) rfl ?_
    refine ax_aload_n B d_M_isPassed_34 rfl (j := 0) rfl ?_
    refine ax_iload_n B d_M_isPassed_35 rfl (j := 1) rfl ?_
    refine ax_iload_n B d_M_isPassed_36 rfl (j := 3) rfl ?_
    refine ax_cVV B hR (as := [ax_I v1, ax_I v3]) (V := fun q => ax_I q.1) (N := fun q => q.2) d_M_isPassed_37 l_M_203 m_M_weightOf hf (fun q h => c_M_weightOf _ _ _ _ _ _ h) rfl rfl (by decide) (by decide) (by decide) (by decide) (Nat.le_of_ble_eq_true rfl) (fun q4 hf => ?_)
    refine ax_iadd B d_M_isPassed_40 ?_
    refine ax_nmI hf (fun y5 hf => ?_)
    refine ax_istore_n B (lv' := [(2, ax_I y5), (0, ax_O v0), (1, ax_I v1), (3, ax_I v3)]) d_M_isPassed_41 rfl (by rw [hn]; decide) rfl ?_
    refine ax_iincN B (j := 3) (lv' := fun y => [(3, ax_I y), (2, ax_I y5), (0, ax_O v0), (1, ax_I v1)]) d_M_isPassed_42 rfl hf rfl (by rw [hn]; decide) (fun _ => rfl) (fun y6 hf => ?_)
    refine ax_goto B (tgt := 27) d_M_isPassed_45 (by decide) ?_
    refine ax_sub [2, 3, 1, 0] rfl ?_
    exact hr27 q4.2 v0 v1 y5 y6 hf
def F_M_isPassed_27  : Nat → ax_M → Option Nat → Int32 → Int32 → Int32 → Option (Int32 × ax_M)
  | 0 => fun _ _ _ _ _ => none
  | n + 1 => G_M_isPassed_27 (F_M_isPassed_27  n)
set_option maxRecDepth 100000 in
set_option maxHeartbeats 4000000 in
theorem L_M_isPassed_27 {Z : ax_Z} {ad0 ad : Nat → Nat} {q : Int32 × ax_M} (B : ax_B Z "VoteAuctionsModel" b_M_isPassed (some .boolean)) (hn : Z.2.2.2.2.2.2.2.2.2.2.2.1 = 4) (hR : ax_R Z 4 0 0) (hE : ax_E Z ad0 [] 0 0 (some (ax_I q.1)) q.2) (hag : ∀ a, a ∉ ([] : List Nat) → ad a = ad0 a)   : ∀ (n : Nat) (M : ax_M) (v0 : Option Nat) (v1 : Int32) (v2 : Int32) (v3 : Int32), F_M_isPassed_27  n M v0 v1 v2 v3 = some q → ax_W Z ad 0 0 27 [(0, ax_O v0), (1, ax_I v1), (2, ax_I v2), (3, ax_I v3)] [] M := by
  intro n
  induction n with
  | zero => intro M v0 v1 v2 v3 hf; cases hf
  | succ n ih => exact K_M_isPassed_27 B hn hR hE hag ih
def f_M_isPassed (M : ax_M) (x0 : Option Nat) (p0 : Int32) : Option (Int32 × ax_M) := (ax_gi M 3 1 x0).bind (fun x1 => (ax_gr M 3 12 x0).bind (fun x2 => (ax_ri M 0 x2 p0).bind (fun x3 => if x1 < x3 then G_M_isPassed_21 M else (ax_ob M 3 x0).bind (fun _ => (f_M_first M x0 p0).bind (fun q4 => if q4.1 = 0 then F_M_isPassed_27 64 q4.2 x0 p0 0 0 else G_M_isPassed_21 q4.2)))))
set_option maxRecDepth 100000 in
set_option maxHeartbeats 4000000 in
theorem c_M_isPassed (l : Launch) (G : ax_G) (M : ax_M) (x0 : Option Nat) (p0 : Int32) {q : Int32 × ax_M} (hf : f_M_isPassed M x0 p0 = some q) : ax_C l G y_M_isPassed b_M_isPassed 4 (some .boolean) [] 4 0 0 [ax_O x0, ax_I p0] M (some (ax_I q.1)) q.2 := by
  refine ax_ofW (by decide +kernel) (lv0 := [(0, ax_O x0), (1, ax_I p0)]) (Nat.le_of_ble_eq_true rfl) rfl ?_
  intro Z ad B hin _ _ hn hR hE
  have hag : ∀ a, a ∉ ([] : List Nat) → ad a = ad a := fun _ _ => rfl
  unfold f_M_isPassed at hf
  refine ax_aload_n B d_M_isPassed_0 rfl (j := 0) rfl ?_
  refine ax_getI B d_M_isPassed_1 k_M_156 rfl hf (fun x1 hf => ?_)
  refine ax_aload_n B d_M_isPassed_4 rfl (j := 0) rfl ?_
  refine ax_getR B d_M_isPassed_5 k_M_32 rfl hf (fun x2 hf => ?_)
  refine ax_iload_n B d_M_isPassed_8 rfl (j := 1) rfl ?_
  refine ax_iald B d_M_isPassed_9 (t := 0) (by decide) rfl hf (fun x3 hf => ?_)
  refine ax_icmp_lt B (tgt := 21) d_M_isPassed_10 (by decide) hf (fun hf => ?_) (fun hf => ?_)
  · refine ax_sub [] rfl ?_
    exact K_M_isPassed_21 B hn hR hE hag M hf
  · refine ax_aload_n B d_M_isPassed_13 rfl (j := 0) rfl ?_
    refine ax_iload_n B d_M_isPassed_14 rfl (j := 1) rfl ?_
    refine ax_cVV B hR (as := [ax_I p0]) (V := fun q => ax_I q.1) (N := fun q => q.2) d_M_isPassed_15 l_M_220 m_M_first hf (fun q h => c_M_first _ _ _ _ _ h) rfl rfl (by decide) (by decide) (by decide) (by decide) (Nat.le_of_ble_eq_true rfl) (fun q4 hf => ?_)
    refine ax_if_eq B (tgt := 23) d_M_isPassed_18 (by decide) hf (fun hf => ?_) (fun hf => ?_)
    · refine ax_iconst B (v := 0) (by decide) d_M_isPassed_23 ?_
      refine ax_istore_n B (lv' := [(2, ax_I 0), (0, ax_O x0), (1, ax_I p0)]) d_M_isPassed_24 rfl (by rw [hn]; decide) rfl ?_
      refine ax_iconst B (v := 0) (by decide) d_M_isPassed_25 ?_
      refine ax_istore_n B (lv' := [(3, ax_I 0), (2, ax_I 0), (0, ax_O x0), (1, ax_I p0)]) d_M_isPassed_26 rfl (by rw [hn]; decide) rfl ?_
      refine ax_sub [2, 3, 1, 0] rfl ?_
      exact L_M_isPassed_27 B hn hR hE hag 64 q4.2 x0 p0 0 0 hf
    · refine ax_sub [] rfl ?_
      exact K_M_isPassed_21 B hn hR hE hag q4.2 hf
def G_M_passed_41  (M : ax_M) (s0 : Int32) : Option (Int32 × ax_M) := some (s0, M)
set_option maxRecDepth 100000 in
set_option maxHeartbeats 4000000 in
theorem K_M_passed_41 {Z : ax_Z} {ad0 ad : Nat → Nat} {q : Int32 × ax_M} (B : ax_B Z "VoteAuctionsModel" b_M_passed (some .int)) (hn : Z.2.2.2.2.2.2.2.2.2.2.2.1 = 2) (hR : ax_R Z 5 0 0) (hE : ax_E Z ad0 [] 0 0 (some (ax_I q.1)) q.2) (hag : ∀ a, a ∉ ([] : List Nat) → ad a = ad0 a)   : ∀ (M : ax_M) (s0 : Int32), G_M_passed_41  M s0 = some q → ax_W Z ad 0 0 41 [] [ax_I s0] M := by
  intro M s0 hf
  unfold G_M_passed_41 at hf
  exact ax_ireturn B hE d_M_passed_41 hf rfl hag (by decide) (by decide)
def f_M_passed (M : ax_M) (x0 : Option Nat) (p0 : Int32) : Option (Int32 × ax_M) := (ax_ob M 3 x0).bind (fun _ => (f_M_isQuestion M x0 p0).bind (fun q1 => if q1.1 = 0 then some ((-1), q1.2) else (ax_gi q1.2 3 1 x0).bind (fun x2 => (ax_gr q1.2 3 12 x0).bind (fun x3 => (ax_ri q1.2 0 x3 p0).bind (fun x4 => if x4 ≤ x2 then (ax_ob q1.2 3 x0).bind (fun _ => (f_M_isPassed q1.2 x0 p0).bind (fun q5 => if q5.1 = 0 then G_M_passed_41 q5.2 0 else G_M_passed_41 q5.2 1)) else G_M_passed_41 q1.2 (-3))))))
set_option maxRecDepth 100000 in
set_option maxHeartbeats 4000000 in
theorem c_M_passed (l : Launch) (G : ax_G) (M : ax_M) (x0 : Option Nat) (p0 : Int32) {q : Int32 × ax_M} (hf : f_M_passed M x0 p0 = some q) : ax_C l G y_M_passed b_M_passed 2 (some .int) [] 5 0 0 [ax_O x0, ax_I p0] M (some (ax_I q.1)) q.2 := by
  refine ax_ofW (by decide +kernel) (lv0 := [(0, ax_O x0), (1, ax_I p0)]) (Nat.le_of_ble_eq_true rfl) rfl ?_
  intro Z ad B hin _ _ hn hR hE
  have hag : ∀ a, a ∉ ([] : List Nat) → ad a = ad a := fun _ _ => rfl
  unfold f_M_passed at hf
  refine ax_aload_n B d_M_passed_0 rfl (j := 0) rfl ?_
  refine ax_iload_n B d_M_passed_1 rfl (j := 1) rfl ?_
  refine ax_cVV B hR (as := [ax_I p0]) (V := fun q => ax_I q.1) (N := fun q => q.2) d_M_passed_2 l_M_173 m_M_isQuestion hf (fun q h => c_M_isQuestion _ _ _ _ _ h) rfl rfl (by decide) (by decide) (by decide) (by decide) (Nat.le_of_ble_eq_true rfl) (fun q1 hf => ?_)
  refine ax_if_ne B (tgt := 10) d_M_passed_5 (by decide) hf (fun hf => ?_) (fun hf => ?_)
  · refine ax_iconst B (v := (-1)) (by decide) d_M_passed_8 ?_
    exact ax_ireturn B hE d_M_passed_9 hf rfl hag (by decide) (by decide)
  · refine ax_aload_n B d_M_passed_10 rfl (j := 0) rfl ?_
    refine ax_getI B d_M_passed_11 k_M_156 rfl hf (fun x2 hf => ?_)
    refine ax_aload_n B d_M_passed_14 rfl (j := 0) rfl ?_
    refine ax_getR B d_M_passed_15 k_M_32 rfl hf (fun x3 hf => ?_)
    refine ax_iload_n B d_M_passed_18 rfl (j := 1) rfl ?_
    refine ax_iald B d_M_passed_19 (t := 0) (by decide) rfl hf (fun x4 hf => ?_)
    refine ax_icmp_ge B (tgt := 28) d_M_passed_20 (by decide) hf (fun hf => ?_) (fun hf => ?_)
    · refine ax_aload_n B d_M_passed_28 rfl (j := 0) rfl ?_
      refine ax_iload_n B d_M_passed_29 rfl (j := 1) rfl ?_
      refine ax_cVV B hR (as := [ax_I p0]) (V := fun q => ax_I q.1) (N := fun q => q.2) d_M_passed_30 l_M_223 m_M_isPassed hf (fun q h => c_M_isPassed _ _ _ _ _ h) rfl rfl (by decide) (by decide) (by decide) (by decide) (Nat.le_of_ble_eq_true rfl) (fun q5 hf => ?_)
      refine ax_if_eq B (tgt := 40) d_M_passed_33 (by decide) hf (fun hf => ?_) (fun hf => ?_)
      · refine ax_iconst B (v := 0) (by decide) d_M_passed_40 ?_
        refine ax_sub [] rfl ?_
        exact K_M_passed_41 B hn hR hE hag q5.2 0 hf
      · refine ax_iconst B (v := 1) (by decide) d_M_passed_36 ?_
        refine ax_goto B (tgt := 41) d_M_passed_37 (by decide) ?_
        refine ax_sub [] rfl ?_
        exact K_M_passed_41 B hn hR hE hag q5.2 1 hf
    · refine ax_bipush B (v := (-3)) (by decide) d_M_passed_23 ?_
      refine ax_goto B (tgt := 41) d_M_passed_25 (by decide) ?_
      refine ax_sub [] rfl ?_
      exact K_M_passed_41 B hn hR hE hag q1.2 (-3) hf
def G_M_run_71  (M : ax_M)  : Option (Int32 × ax_M) := some ((-3), M)
set_option maxRecDepth 100000 in
set_option maxHeartbeats 4000000 in
theorem K_M_run_71 {Z : ax_Z} {ad0 ad : Nat → Nat} {q : Int32 × ax_M} (B : ax_B Z "VoteAuctionsModel" b_M_run (some .int)) (hn : Z.2.2.2.2.2.2.2.2.2.2.2.1 = 2) (hR : ax_R Z 5 0 0) (hE : ax_E Z ad0 [] 0 0 (some (ax_I q.1)) q.2) (hag : ∀ a, a ∉ ([] : List Nat) → ad a = ad0 a)   : ∀ (M : ax_M) , G_M_run_71  M  = some q → ax_W Z ad 0 0 71 [] [] M := by
  intro M  hf
  unfold G_M_run_71 at hf
  refine ax_bipush B (v := (-3)) (by decide) d_M_run_71 ?_
  exact ax_ireturn B hE d_M_run_73 hf rfl hag (by decide) (by decide)
def f_M_run (M : ax_M) (x0 : Option Nat) (p0 : Int32) : Option (Int32 × ax_M) := (ax_ob M 3 x0).bind (fun _ => (f_M_isQuestion M x0 p0).bind (fun q1 => if q1.1 = 0 then some ((-1), q1.2) else (ax_ob q1.2 3 x0).bind (fun _ => (f_M_isPassed q1.2 x0 p0).bind (fun q2 => if q2.1 = 0 then G_M_run_71 q2.2 else (ax_gr q2.2 3 14 x0).bind (fun x3 => (ax_ri q2.2 2 x3 p0).bind (fun x4 => if x4 = 0 then G_M_run_71 q2.2 else (ax_gr q2.2 3 15 x0).bind (fun x5 => (ax_ri q2.2 2 x5 p0).bind (fun x6 => if x6 = 0 then (ax_gi q2.2 3 1 x0).bind (fun x7 => (ax_gr q2.2 3 12 x0).bind (fun x8 => (ax_ri q2.2 0 x8 p0).bind (fun x9 => (ax_gr q2.2 3 18 x0).bind (fun x10 => (ax_ri q2.2 0 x10 p0).bind (fun x11 => if x7 < (x9 + x11) then G_M_run_71 q2.2 else (ax_gl q2.2 3 2 x0).bind (fun x12 => (ax_gr q2.2 3 17 x0).bind (fun x13 => (ax_ri q2.2 0 x13 p0).bind (fun x14 => if 0 ≤ (lg_cmp x12 (x14.toInt64)) then (ax_gr q2.2 3 15 x0).bind (fun x15 => (ax_ti q2.2 2 x15 p0 1).bind (fun M16 => (ax_gl M16 3 2 x0).bind (fun x17 => (ax_gr M16 3 17 x0).bind (fun x18 => (ax_ri M16 0 x18 p0).bind (fun x19 => (ax_pl M16 3 2 x0 (x17 - (x19.toInt64))).bind (fun M20 => (ax_gr M20 3 5 x0).bind (fun x21 => (ax_gr M20 3 16 x0).bind (fun x22 => (ax_ri M20 0 x22 p0).bind (fun x23 => (ax_rl M20 1 x21 x23).bind (fun x24 => (ax_gr M20 3 17 x0).bind (fun x25 => (ax_ri M20 0 x25 p0).bind (fun x26 => (ax_tl M20 1 x21 x23 (x24 + (x26.toInt64))).bind (fun M27 => some (1, M27)))))))))))))) else G_M_run_71 q2.2)))))))) else G_M_run_71 q2.2))))))))
set_option maxRecDepth 100000 in
set_option maxHeartbeats 4000000 in
theorem c_M_run (l : Launch) (G : ax_G) (M : ax_M) (x0 : Option Nat) (p0 : Int32) {q : Int32 × ax_M} (hf : f_M_run M x0 p0 = some q) : ax_C l G y_M_run b_M_run 2 (some .int) [] 5 0 0 [ax_O x0, ax_I p0] M (some (ax_I q.1)) q.2 := by
  refine ax_ofW (by decide +kernel) (lv0 := [(0, ax_O x0), (1, ax_I p0)]) (Nat.le_of_ble_eq_true rfl) rfl ?_
  intro Z ad B hin _ _ hn hR hE
  have hag : ∀ a, a ∉ ([] : List Nat) → ad a = ad a := fun _ _ => rfl
  unfold f_M_run at hf
  refine ax_aload_n B d_M_run_0 rfl (j := 0) rfl ?_
  refine ax_iload_n B d_M_run_1 rfl (j := 1) rfl ?_
  refine ax_cVV B hR (as := [ax_I p0]) (V := fun q => ax_I q.1) (N := fun q => q.2) d_M_run_2 l_M_173 m_M_isQuestion hf (fun q h => c_M_isQuestion _ _ _ _ _ h) rfl rfl (by decide) (by decide) (by decide) (by decide) (Nat.le_of_ble_eq_true rfl) (fun q1 hf => ?_)
  refine ax_if_ne B (tgt := 10) d_M_run_5 (by decide) hf (fun hf => ?_) (fun hf => ?_)
  · refine ax_iconst B (v := (-1)) (by decide) d_M_run_8 ?_
    exact ax_ireturn B hE d_M_run_9 hf rfl hag (by decide) (by decide)
  · refine ax_aload_n B d_M_run_10 rfl (j := 0) rfl ?_
    refine ax_iload_n B d_M_run_11 rfl (j := 1) rfl ?_
    refine ax_cVV B hR (as := [ax_I p0]) (V := fun q => ax_I q.1) (N := fun q => q.2) d_M_run_12 l_M_223 m_M_isPassed hf (fun q h => c_M_isPassed _ _ _ _ _ h) rfl rfl (by decide) (by decide) (by decide) (by decide) (Nat.le_of_ble_eq_true rfl) (fun q2 hf => ?_)
    refine ax_if_eq B (tgt := 71) d_M_run_15 (by decide) hf (fun hf => ?_) (fun hf => ?_)
    · refine ax_sub [] rfl ?_
      exact K_M_run_71 B hn hR hE hag q2.2 hf
    · refine ax_aload_n B d_M_run_18 rfl (j := 0) rfl ?_
      refine ax_getR B d_M_run_19 k_M_38 rfl hf (fun x3 hf => ?_)
      refine ax_iload_n B d_M_run_22 rfl (j := 1) rfl ?_
      refine ax_zald B d_M_run_23 (t := 2) (by decide) rfl hf (fun x4 hf => ?_)
      refine ax_if_eq B (tgt := 71) d_M_run_24 (by decide) hf (fun hf => ?_) (fun hf => ?_)
      · refine ax_sub [] rfl ?_
        exact K_M_run_71 B hn hR hE hag q2.2 hf
      · refine ax_aload_n B d_M_run_27 rfl (j := 0) rfl ?_
        refine ax_getR B d_M_run_28 k_M_42 rfl hf (fun x5 hf => ?_)
        refine ax_iload_n B d_M_run_31 rfl (j := 1) rfl ?_
        refine ax_zald B d_M_run_32 (t := 2) (by decide) rfl hf (fun x6 hf => ?_)
        refine ax_if_ne B (tgt := 71) d_M_run_33 (by decide) hf (fun hf => ?_) (fun hf => ?_)
        · refine ax_aload_n B d_M_run_36 rfl (j := 0) rfl ?_
          refine ax_getI B d_M_run_37 k_M_156 rfl hf (fun x7 hf => ?_)
          refine ax_aload_n B d_M_run_40 rfl (j := 0) rfl ?_
          refine ax_getR B d_M_run_41 k_M_32 rfl hf (fun x8 hf => ?_)
          refine ax_iload_n B d_M_run_44 rfl (j := 1) rfl ?_
          refine ax_iald B d_M_run_45 (t := 0) (by decide) rfl hf (fun x9 hf => ?_)
          refine ax_aload_n B d_M_run_46 rfl (j := 0) rfl ?_
          refine ax_getR B d_M_run_47 k_M_51 rfl hf (fun x10 hf => ?_)
          refine ax_iload_n B d_M_run_50 rfl (j := 1) rfl ?_
          refine ax_iald B d_M_run_51 (t := 0) (by decide) rfl hf (fun x11 hf => ?_)
          refine ax_iadd B d_M_run_52 ?_
          refine ax_icmp_lt B (tgt := 71) d_M_run_53 (by decide) hf (fun hf => ?_) (fun hf => ?_)
          · refine ax_sub [] rfl ?_
            exact K_M_run_71 B hn hR hE hag q2.2 hf
          · refine ax_aload_n B d_M_run_56 rfl (j := 0) rfl ?_
            refine ax_getL B d_M_run_57 k_M_152 rfl hf (fun x12 hf => ?_)
            refine ax_aload_n B d_M_run_60 rfl (j := 0) rfl ?_
            refine ax_getR B d_M_run_61 k_M_48 rfl hf (fun x13 hf => ?_)
            refine ax_iload_n B d_M_run_64 rfl (j := 1) rfl ?_
            refine ax_iald B d_M_run_65 (t := 0) (by decide) rfl hf (fun x14 hf => ?_)
            refine ax_i2l B d_M_run_66 ?_
            refine ax_lcmp B d_M_run_67 ?_
            refine ax_if_ge B (tgt := 74) d_M_run_68 (by decide) hf (fun hf => ?_) (fun hf => ?_)
            · refine ax_aload_n B d_M_run_74 rfl (j := 0) rfl ?_
              refine ax_getR B d_M_run_75 k_M_42 rfl hf (fun x15 hf => ?_)
              refine ax_iload_n B d_M_run_78 rfl (j := 1) rfl ?_
              refine ax_iconst B (v := 1) (by decide) d_M_run_79 ?_
              refine ax_zast B d_M_run_80 (t := 2) (by decide) rfl (by decide) hf (fun M16 hf => ?_)
              refine ax_aload_n B d_M_run_81 rfl (j := 0) rfl ?_
              refine ax_dup B rfl d_M_run_82 ?_
              refine ax_getL B d_M_run_83 k_M_152 rfl hf (fun x17 hf => ?_)
              refine ax_aload_n B d_M_run_86 rfl (j := 0) rfl ?_
              refine ax_getR B d_M_run_87 k_M_48 rfl hf (fun x18 hf => ?_)
              refine ax_iload_n B d_M_run_90 rfl (j := 1) rfl ?_
              refine ax_iald B d_M_run_91 (t := 0) (by decide) rfl hf (fun x19 hf => ?_)
              refine ax_i2l B d_M_run_92 ?_
              refine ax_lsub B d_M_run_93 ?_
              refine ax_putL B d_M_run_94 k_M_152 rfl rfl hf (fun M20 hf => ?_)
              refine ax_aload_n B d_M_run_97 rfl (j := 0) rfl ?_
              refine ax_getR B d_M_run_98 k_M_13 rfl hf (fun x21 hf => ?_)
              refine ax_aload_n B d_M_run_101 rfl (j := 0) rfl ?_
              refine ax_getR B d_M_run_102 k_M_45 rfl hf (fun x22 hf => ?_)
              refine ax_iload_n B d_M_run_105 rfl (j := 1) rfl ?_
              refine ax_iald B d_M_run_106 (t := 0) (by decide) rfl hf (fun x23 hf => ?_)
              refine ax_dup2_11 B rfl rfl d_M_run_107 ?_
              refine ax_lald B d_M_run_108 (t := 1) (by decide) rfl hf (fun x24 hf => ?_)
              refine ax_aload_n B d_M_run_109 rfl (j := 0) rfl ?_
              refine ax_getR B d_M_run_110 k_M_48 rfl hf (fun x25 hf => ?_)
              refine ax_iload_n B d_M_run_113 rfl (j := 1) rfl ?_
              refine ax_iald B d_M_run_114 (t := 0) (by decide) rfl hf (fun x26 hf => ?_)
              refine ax_i2l B d_M_run_115 ?_
              refine ax_ladd B d_M_run_116 ?_
              refine ax_last B d_M_run_117 (t := 1) (by decide) rfl hf (fun M27 hf => ?_)
              refine ax_iconst B (v := 1) (by decide) d_M_run_118 ?_
              exact ax_ireturn B hE d_M_run_119 hf rfl hag (by decide) (by decide)
            · refine ax_sub [] rfl ?_
              exact K_M_run_71 B hn hR hE hag q2.2 hf
        · refine ax_sub [] rfl ?_
          exact K_M_run_71 B hn hR hE hag q2.2 hf
def G_M_isAuction_17  (M : ax_M) (s0 : Int32) : Option (Int32 × ax_M) := (ax_bo s0).bind (fun _ => some (s0, M))
set_option maxRecDepth 100000 in
set_option maxHeartbeats 4000000 in
theorem K_M_isAuction_17 {Z : ax_Z} {ad0 ad : Nat → Nat} {q : Int32 × ax_M} (B : ax_B Z "VoteAuctionsModel" b_M_isAuction (some .boolean)) (hn : Z.2.2.2.2.2.2.2.2.2.2.2.1 = 2) (hR : ax_R Z 0 0 0) (hE : ax_E Z ad0 [] 0 0 (some (ax_I q.1)) q.2) (hag : ∀ a, a ∉ ([] : List Nat) → ad a = ad0 a)   : ∀ (M : ax_M) (s0 : Int32), G_M_isAuction_17  M s0 = some q → ax_W Z ad 0 0 17 [] [ax_I s0] M := by
  intro M s0 hf
  unfold G_M_isAuction_17 at hf
  obtain ⟨_, hb, hf⟩ := ax_bd hf
  exact ax_ireturn B hE d_M_isAuction_17 hf (ax_bo_n hb) hag (by decide) (by decide)
def G_M_isAuction_16  (M : ax_M)  : Option (Int32 × ax_M) := G_M_isAuction_17 M 0
set_option maxRecDepth 100000 in
set_option maxHeartbeats 4000000 in
theorem K_M_isAuction_16 {Z : ax_Z} {ad0 ad : Nat → Nat} {q : Int32 × ax_M} (B : ax_B Z "VoteAuctionsModel" b_M_isAuction (some .boolean)) (hn : Z.2.2.2.2.2.2.2.2.2.2.2.1 = 2) (hR : ax_R Z 0 0 0) (hE : ax_E Z ad0 [] 0 0 (some (ax_I q.1)) q.2) (hag : ∀ a, a ∉ ([] : List Nat) → ad a = ad0 a)   : ∀ (M : ax_M) , G_M_isAuction_16  M  = some q → ax_W Z ad 0 0 16 [] [] M := by
  intro M  hf
  unfold G_M_isAuction_16 at hf
  refine ax_iconst B (v := 0) (by decide) d_M_isAuction_16 ?_
  exact K_M_isAuction_17 B hn hR hE hag M 0 hf
def f_M_isAuction (M : ax_M) (x0 : Option Nat) (p0 : Int32) : Option (Int32 × ax_M) := if p0 < 0 then G_M_isAuction_16 M else (ax_gi M 3 25 x0).bind (fun x1 => if x1 ≤ p0 then G_M_isAuction_16 M else G_M_isAuction_17 M 1)
set_option maxRecDepth 100000 in
set_option maxHeartbeats 4000000 in
theorem c_M_isAuction (l : Launch) (G : ax_G) (M : ax_M) (x0 : Option Nat) (p0 : Int32) {q : Int32 × ax_M} (hf : f_M_isAuction M x0 p0 = some q) : ax_C l G y_M_isAuction b_M_isAuction 2 (some .boolean) [] 0 0 0 [ax_O x0, ax_I p0] M (some (ax_I q.1)) q.2 := by
  refine ax_ofW (by decide +kernel) (lv0 := [(0, ax_O x0), (1, ax_I p0)]) (Nat.le_of_ble_eq_true rfl) rfl ?_
  intro Z ad B hin _ _ hn hR hE
  have hag : ∀ a, a ∉ ([] : List Nat) → ad a = ad a := fun _ _ => rfl
  unfold f_M_isAuction at hf
  refine ax_iload_n B d_M_isAuction_0 rfl (j := 1) rfl ?_
  refine ax_if_lt B (tgt := 16) d_M_isAuction_1 (by decide) hf (fun hf => ?_) (fun hf => ?_)
  · refine ax_sub [] rfl ?_
    exact K_M_isAuction_16 B hn hR hE hag M hf
  · refine ax_iload_n B d_M_isAuction_4 rfl (j := 1) rfl ?_
    refine ax_aload_n B d_M_isAuction_5 rfl (j := 0) rfl ?_
    refine ax_getI B d_M_isAuction_6 k_M_162 rfl hf (fun x1 hf => ?_)
    refine ax_icmp_ge B (tgt := 16) d_M_isAuction_9 (by decide) hf (fun hf => ?_) (fun hf => ?_)
    · refine ax_sub [] rfl ?_
      exact K_M_isAuction_16 B hn hR hE hag M hf
    · refine ax_iconst B (v := 1) (by decide) d_M_isAuction_12 ?_
      refine ax_goto B (tgt := 17) d_M_isAuction_13 (by decide) ?_
      refine ax_sub [] rfl ?_
      exact K_M_isAuction_17 B hn hR hE hag M 1 hf
def G_M_auction_62  (M : ax_M)  : Option (Int32 × ax_M) := some ((-2), M)
set_option maxRecDepth 100000 in
set_option maxHeartbeats 4000000 in
theorem K_M_auction_62 {Z : ax_Z} {ad0 ad : Nat → Nat} {q : Int32 × ax_M} (B : ax_B Z "VoteAuctionsModel" b_M_auction (some .int)) (hn : Z.2.2.2.2.2.2.2.2.2.2.2.1 = 8) (hR : ax_R Z 1 0 0) (hE : ax_E Z ad0 [] 0 0 (some (ax_I q.1)) q.2) (hag : ∀ a, a ∉ ([] : List Nat) → ad a = ad0 a)   : ∀ (M : ax_M) , G_M_auction_62  M  = some q → ax_W Z ad 0 0 62 [] [] M := by
  intro M  hf
  unfold G_M_auction_62 at hf
  refine ax_bipush B (v := (-2)) (by decide) d_M_auction_62 ?_
  exact ax_ireturn B hE d_M_auction_64 hf rfl hag (by decide) (by decide)
def G_M_auction_181 (rec181 : ax_M → Option Nat → Int32 → Int32 → Option (Int32 × ax_M)) (M : ax_M) (v0 : Option Nat) (v6 : Int32) (v7 : Int32) : Option (Int32 × ax_M) := if 8 ≤ v7 then (ax_gi M 3 25 v0).bind (fun x1 => (ax_pi M 3 25 v0 (x1 + 1)).bind (fun M2 => some (v6, M2))) else (ax_gr M 3 35 v0).bind (fun x3 => (ax_ti M 2 x3 ((8 * v6) + v7) 0).bind (fun M4 => (ax_gr M4 3 40 v0).bind (fun x5 => (ax_ti M4 2 x5 ((8 * v6) + v7) 0).bind (fun M6 => (ax_gr M6 3 41 v0).bind (fun x7 => (ax_ti M6 0 x7 ((8 * v6) + v7) 0).bind (fun M8 => (some (v7 + 1)).bind (fun y9 => rec181 M8 v0 v6 y9)))))))
set_option maxRecDepth 100000 in
set_option maxHeartbeats 4000000 in
theorem K_M_auction_181 {Z : ax_Z} {ad0 ad : Nat → Nat} {q : Int32 × ax_M} (B : ax_B Z "VoteAuctionsModel" b_M_auction (some .int)) (hn : Z.2.2.2.2.2.2.2.2.2.2.2.1 = 8) (hR : ax_R Z 1 0 0) (hE : ax_E Z ad0 [] 0 0 (some (ax_I q.1)) q.2) (hag : ∀ a, a ∉ ([] : List Nat) → ad a = ad0 a) {rec181 : ax_M → Option Nat → Int32 → Int32 → Option (Int32 × ax_M)} (hr181 : ∀ (M : ax_M) (v0 : Option Nat) (v6 : Int32) (v7 : Int32), rec181 M v0 v6 v7 = some q → ax_W Z ad 0 0 181 [(0, ax_O v0), (6, ax_I v6), (7, ax_I v7)] [] M) : ∀ (M : ax_M) (v0 : Option Nat) (v6 : Int32) (v7 : Int32), G_M_auction_181 rec181 M v0 v6 v7 = some q → ax_W Z ad 0 0 181 [(0, ax_O v0), (6, ax_I v6), (7, ax_I v7)] [] M := by
  intro M v0 v6 v7 hf
  unfold G_M_auction_181 at hf
  refine ax_iload B (j := 2) d_M_auction_181 rfl ?_
  refine ax_bipush B (v := 8) (by decide) d_M_auction_183 ?_
  refine ax_icmp_ge B (tgt := 236) d_M_auction_185 (by decide) hf (fun hf => ?_) (fun hf => ?_)
  · refine ax_aload_n B d_M_auction_236 rfl (j := 0) rfl ?_
    refine ax_dup B rfl d_M_auction_237 ?_
    refine ax_getI B d_M_auction_238 k_M_162 rfl hf (fun x1 hf => ?_)
    refine ax_iconst B (v := 1) (by decide) d_M_auction_241 ?_
    refine ax_iadd B d_M_auction_242 ?_
    refine ax_putI B d_M_auction_243 k_M_162 rfl rfl rfl rfl hf (fun M2 hf => ?_)
    refine ax_iload B (j := 1) d_M_auction_246 rfl ?_
    exact ax_ireturn B hE d_M_auction_248 hf rfl hag (by decide) (by decide)
  · refine ax_aload_n B d_M_auction_188 rfl (j := 0) rfl ?_
    refine ax_getR B d_M_auction_189 k_M_96 rfl hf (fun x3 hf => ?_)
    refine ax_bipush B (v := 8) (by decide) d_M_auction_192 ?_
    refine ax_iload B (j := 1) d_M_auction_194 rfl ?_
    refine ax_imul B d_M_auction_196 ?_
    refine ax_iload B (j := 2) d_M_auction_197 rfl ?_
    refine ax_iadd B d_M_auction_199 ?_
    refine ax_iconst B (v := 0) (by decide) d_M_auction_200 ?_
    refine ax_zast B d_M_auction_201 (t := 2) (by decide) rfl (by decide) hf (fun M4 hf => ?_)
    refine ax_aload_n B d_M_auction_202 rfl (j := 0) rfl ?_
    refine ax_getR B d_M_auction_203 k_M_111 rfl hf (fun x5 hf => ?_)
    refine ax_bipush B (v := 8) (by decide) d_M_auction_206 ?_
    refine ax_iload B (j := 1) d_M_auction_208 rfl ?_
    refine ax_imul B d_M_auction_210 ?_
    refine ax_iload B (j := 2) d_M_auction_211 rfl ?_
    refine ax_iadd B d_M_auction_213 ?_
    refine ax_iconst B (v := 0) (by decide) d_M_auction_214 ?_
    refine ax_zast B d_M_auction_215 (t := 2) (by decide) rfl (by decide) hf (fun M6 hf => ?_)
    refine ax_aload_n B d_M_auction_216 rfl (j := 0) rfl ?_
    refine ax_getR B d_M_auction_217 k_M_114 rfl hf (fun x7 hf => ?_)
    refine ax_bipush B (v := 8) (by decide) d_M_auction_220 ?_
    refine ax_iload B (j := 1) d_M_auction_222 rfl ?_
    refine ax_imul B d_M_auction_224 ?_
    refine ax_iload B (j := 2) d_M_auction_225 rfl ?_
    refine ax_iadd B d_M_auction_227 ?_
    refine ax_iconst B (v := 0) (by decide) d_M_auction_228 ?_
    refine ax_iast B d_M_auction_229 (t := 0) (by decide) rfl hf (fun M8 hf => ?_)
    refine ax_iincN B (j := 2) (lv' := fun y => [(7, ax_I y), (0, ax_O v0), (6, ax_I v6)]) d_M_auction_230 rfl hf rfl (by rw [hn]; decide) (fun _ => rfl) (fun y9 hf => ?_)
    refine ax_goto B (tgt := 181) d_M_auction_233 (by decide) ?_
    refine ax_sub [1, 2, 0] rfl ?_
    exact hr181 M8 v0 v6 y9 hf
def F_M_auction_181  : Nat → ax_M → Option Nat → Int32 → Int32 → Option (Int32 × ax_M)
  | 0 => fun _ _ _ _ => none
  | n + 1 => G_M_auction_181 (F_M_auction_181  n)
set_option maxRecDepth 100000 in
set_option maxHeartbeats 4000000 in
theorem L_M_auction_181 {Z : ax_Z} {ad0 ad : Nat → Nat} {q : Int32 × ax_M} (B : ax_B Z "VoteAuctionsModel" b_M_auction (some .int)) (hn : Z.2.2.2.2.2.2.2.2.2.2.2.1 = 8) (hR : ax_R Z 1 0 0) (hE : ax_E Z ad0 [] 0 0 (some (ax_I q.1)) q.2) (hag : ∀ a, a ∉ ([] : List Nat) → ad a = ad0 a)   : ∀ (n : Nat) (M : ax_M) (v0 : Option Nat) (v6 : Int32) (v7 : Int32), F_M_auction_181  n M v0 v6 v7 = some q → ax_W Z ad 0 0 181 [(0, ax_O v0), (6, ax_I v6), (7, ax_I v7)] [] M := by
  intro n
  induction n with
  | zero => intro M v0 v6 v7 hf; cases hf
  | succ n ih => exact K_M_auction_181 B hn hR hE hag ih
def G_M_auction_158  (M : ax_M) (v0 : Option Nat) (v6 : Int32) (s0 : Int32) (s1 : Int32) (s2 : Int32) (s3 : Option Nat) : Option (Int32 × ax_M) := (ax_ti M 0 s3 s2 (s1 + s0)).bind (fun M1 => (ax_gr M1 3 33 v0).bind (fun x2 => (ax_tl M1 1 x2 v6 (-3)).bind (fun M3 => (ax_gr M3 3 34 v0).bind (fun x4 => (ax_ti M3 0 x4 v6 (-1)).bind (fun M5 => F_M_auction_181 64 M5 v0 v6 0)))))
set_option maxRecDepth 100000 in
set_option maxHeartbeats 4000000 in
theorem K_M_auction_158 {Z : ax_Z} {ad0 ad : Nat → Nat} {q : Int32 × ax_M} (B : ax_B Z "VoteAuctionsModel" b_M_auction (some .int)) (hn : Z.2.2.2.2.2.2.2.2.2.2.2.1 = 8) (hR : ax_R Z 1 0 0) (hE : ax_E Z ad0 [] 0 0 (some (ax_I q.1)) q.2) (hag : ∀ a, a ∉ ([] : List Nat) → ad a = ad0 a)   : ∀ (M : ax_M) (v0 : Option Nat) (v6 : Int32) (s0 : Int32) (s1 : Int32) (s2 : Int32) (s3 : Option Nat), G_M_auction_158  M v0 v6 s0 s1 s2 s3 = some q → ax_W Z ad 0 0 158 [(0, ax_O v0), (6, ax_I v6)] [ax_I s0, ax_I s1, ax_I s2, ax_O s3] M := by
  intro M v0 v6 s0 s1 s2 s3 hf
  unfold G_M_auction_158 at hf
  refine ax_iadd B d_M_auction_158 ?_
  refine ax_iast B d_M_auction_159 (t := 0) (by decide) rfl hf (fun M1 hf => ?_)
  refine ax_aload_n B d_M_auction_160 rfl (j := 0) rfl ?_
  refine ax_getR B d_M_auction_161 k_M_90 rfl hf (fun x2 hf => ?_)
  refine ax_iload B (j := 1) d_M_auction_164 rfl ?_
  refine ax_ldc2 B (v := (-3)) n_M_226 d_M_auction_166 ?_
  refine ax_last B d_M_auction_169 (t := 1) (by decide) rfl hf (fun M3 hf => ?_)
  refine ax_aload_n B d_M_auction_170 rfl (j := 0) rfl ?_
  refine ax_getR B d_M_auction_171 k_M_93 rfl hf (fun x4 hf => ?_)
  refine ax_iload B (j := 1) d_M_auction_174 rfl ?_
  refine ax_iconst B (v := (-1)) (by decide) d_M_auction_176 ?_
  refine ax_iast B d_M_auction_177 (t := 0) (by decide) rfl hf (fun M5 hf => ?_)
  refine ax_iconst B (v := 0) (by decide) d_M_auction_178 ?_
  refine ax_istore B (lv' := [(7, ax_I 0), (0, ax_O v0), (6, ax_I v6)]) d_M_auction_179 (by rw [hn]; decide) rfl ?_
  refine ax_sub [1, 2, 0] rfl ?_
  exact L_M_auction_181 B hn hR hE hag 64 M5 v0 v6 0 hf
def G_M_auction_153  (M : ax_M) (v0 : Option Nat) (v6 : Int32) (s0 : Int32) (s1 : Int32) (s2 : Option Nat) : Option (Int32 × ax_M) := G_M_auction_158 M v0 v6 5 s0 s1 s2
set_option maxRecDepth 100000 in
set_option maxHeartbeats 4000000 in
theorem K_M_auction_153 {Z : ax_Z} {ad0 ad : Nat → Nat} {q : Int32 × ax_M} (B : ax_B Z "VoteAuctionsModel" b_M_auction (some .int)) (hn : Z.2.2.2.2.2.2.2.2.2.2.2.1 = 8) (hR : ax_R Z 1 0 0) (hE : ax_E Z ad0 [] 0 0 (some (ax_I q.1)) q.2) (hag : ∀ a, a ∉ ([] : List Nat) → ad a = ad0 a)   : ∀ (M : ax_M) (v0 : Option Nat) (v6 : Int32) (s0 : Int32) (s1 : Int32) (s2 : Option Nat), G_M_auction_153  M v0 v6 s0 s1 s2 = some q → ax_W Z ad 0 0 153 [(0, ax_O v0), (6, ax_I v6)] [ax_I s0, ax_I s1, ax_O s2] M := by
  intro M v0 v6 s0 s1 s2 hf
  unfold G_M_auction_153 at hf
  refine ax_iconst B (v := 5) (by decide) d_M_auction_153 ?_
  refine ax_goto B (tgt := 158) d_M_auction_154 (by decide) ?_
  exact K_M_auction_158 B hn hR hE hag M v0 v6 5 s0 s1 s2 hf
def G_M_auction_22  (M : ax_M) (v0 : Option Nat) (v1 : Int32) (v2 : Int32) (v3 : Int32) (v4 : Int32) (v5 : Int32) (s0 : Int32) (s1 : Int32) (s2 : Int32) : Option (Int32 × ax_M) := (f_M_isIn M s2 s1 s0).bind (fun q1 => if q1.1 = 0 then G_M_auction_62 q1.2 else (f_M_isIn q1.2 v3 1 10000).bind (fun q2 => if q2.1 = 0 then G_M_auction_62 q2.2 else (f_M_isIn q2.2 v4 0 1000).bind (fun q3 => if q3.1 = 0 then G_M_auction_62 q3.2 else (f_M_isIn q3.2 v5 1 50).bind (fun q4 => if q4.1 = 0 then G_M_auction_62 q4.2 else (ax_gi q4.2 3 25 v0).bind (fun x5 => if x5 = 6 then some ((-4), q4.2) else (ax_gi q4.2 3 25 v0).bind (fun x6 => (ax_gr q4.2 3 27 v0).bind (fun x7 => (ax_ti q4.2 0 x7 x6 v1).bind (fun M8 => (ax_gr M8 3 28 v0).bind (fun x9 => (ax_ti M8 0 x9 x6 v2).bind (fun M10 => (ax_gr M10 3 29 v0).bind (fun x11 => (ax_ti M10 0 x11 x6 v3).bind (fun M12 => (ax_gr M12 3 30 v0).bind (fun x13 => (ax_ti M12 0 x13 x6 v4).bind (fun M14 => (ax_gr M14 3 31 v0).bind (fun x15 => (ax_gi M14 3 1 v0).bind (fun x16 => (ax_ti M14 0 x15 x6 (x16 + v5)).bind (fun M17 => (ax_gr M17 3 32 v0).bind (fun x18 => (ax_gi M17 3 1 v0).bind (fun x19 => if v1 = 1 then G_M_auction_153 M17 v0 x6 (x19 + v5) x6 x18 else if v1 = 2 then G_M_auction_153 M17 v0 x6 (x19 + v5) x6 x18 else G_M_auction_158 M17 v0 x6 0 (x19 + v5) x6 x18)))))))))))))))))))
set_option maxRecDepth 100000 in
set_option maxHeartbeats 4000000 in
theorem K_M_auction_22 {Z : ax_Z} {ad0 ad : Nat → Nat} {q : Int32 × ax_M} (B : ax_B Z "VoteAuctionsModel" b_M_auction (some .int)) (hn : Z.2.2.2.2.2.2.2.2.2.2.2.1 = 8) (hR : ax_R Z 1 0 0) (hE : ax_E Z ad0 [] 0 0 (some (ax_I q.1)) q.2) (hag : ∀ a, a ∉ ([] : List Nat) → ad a = ad0 a)   : ∀ (M : ax_M) (v0 : Option Nat) (v1 : Int32) (v2 : Int32) (v3 : Int32) (v4 : Int32) (v5 : Int32) (s0 : Int32) (s1 : Int32) (s2 : Int32), G_M_auction_22  M v0 v1 v2 v3 v4 v5 s0 s1 s2 = some q → ax_W Z ad 0 0 22 [(0, ax_O v0), (1, ax_I v1), (2, ax_I v2), (3, ax_I v3), (4, ax_I v4), (5, ax_I v5)] [ax_I s0, ax_I s1, ax_I s2] M := by
  intro M v0 v1 v2 v3 v4 v5 s0 s1 s2 hf
  unfold G_M_auction_22 at hf
  refine ax_cSV B hR (as := [ax_I s2, ax_I s1, ax_I s0]) (V := fun q => ax_I q.1) (N := fun q => q.2) d_M_auction_22 l_M_139 m_M_isIn hf (fun q h => c_M_isIn _ _ _ _ _ _ h) rfl rfl (by decide) (by decide) (by decide) (by decide) (Nat.le_of_ble_eq_true rfl) (fun q1 hf => ?_)
  refine ax_if_eq B (tgt := 62) d_M_auction_25 (by decide) hf (fun hf => ?_) (fun hf => ?_)
  · refine ax_sub [] rfl ?_
    exact K_M_auction_62 B hn hR hE hag q1.2 hf
  · refine ax_iload_n B d_M_auction_28 rfl (j := 3) rfl ?_
    refine ax_iconst B (v := 1) (by decide) d_M_auction_29 ?_
    refine ax_sipush B (v := 10000) (by decide) d_M_auction_30 ?_
    refine ax_cSV B hR (as := [ax_I v3, ax_I 1, ax_I 10000]) (V := fun q => ax_I q.1) (N := fun q => q.2) d_M_auction_33 l_M_139 m_M_isIn hf (fun q h => c_M_isIn _ _ _ _ _ _ h) rfl rfl (by decide) (by decide) (by decide) (by decide) (Nat.le_of_ble_eq_true rfl) (fun q2 hf => ?_)
    refine ax_if_eq B (tgt := 62) d_M_auction_36 (by decide) hf (fun hf => ?_) (fun hf => ?_)
    · refine ax_sub [] rfl ?_
      exact K_M_auction_62 B hn hR hE hag q2.2 hf
    · refine ax_iload B (j := 4) d_M_auction_39 rfl ?_
      refine ax_iconst B (v := 0) (by decide) d_M_auction_41 ?_
      refine ax_sipush B (v := 1000) (by decide) d_M_auction_42 ?_
      refine ax_cSV B hR (as := [ax_I v4, ax_I 0, ax_I 1000]) (V := fun q => ax_I q.1) (N := fun q => q.2) d_M_auction_45 l_M_139 m_M_isIn hf (fun q h => c_M_isIn _ _ _ _ _ _ h) rfl rfl (by decide) (by decide) (by decide) (by decide) (Nat.le_of_ble_eq_true rfl) (fun q3 hf => ?_)
      refine ax_if_eq B (tgt := 62) d_M_auction_48 (by decide) hf (fun hf => ?_) (fun hf => ?_)
      · refine ax_sub [] rfl ?_
        exact K_M_auction_62 B hn hR hE hag q3.2 hf
      · refine ax_iload B (j := 5) d_M_auction_51 rfl ?_
        refine ax_iconst B (v := 1) (by decide) d_M_auction_53 ?_
        refine ax_bipush B (v := 50) (by decide) d_M_auction_54 ?_
        refine ax_cSV B hR (as := [ax_I v5, ax_I 1, ax_I 50]) (V := fun q => ax_I q.1) (N := fun q => q.2) d_M_auction_56 l_M_139 m_M_isIn hf (fun q h => c_M_isIn _ _ _ _ _ _ h) rfl rfl (by decide) (by decide) (by decide) (by decide) (Nat.le_of_ble_eq_true rfl) (fun q4 hf => ?_)
        refine ax_if_ne B (tgt := 65) d_M_auction_59 (by decide) hf (fun hf => ?_) (fun hf => ?_)
        · refine ax_sub [] rfl ?_
          exact K_M_auction_62 B hn hR hE hag q4.2 hf
        · refine ax_aload_n B d_M_auction_65 rfl (j := 0) rfl ?_
          refine ax_getI B d_M_auction_66 k_M_162 rfl hf (fun x5 hf => ?_)
          refine ax_bipush B (v := 6) (by decide) d_M_auction_69 ?_
          refine ax_icmp_ne B (tgt := 77) d_M_auction_71 (by decide) hf (fun hf => ?_) (fun hf => ?_)
          · refine ax_bipush B (v := (-4)) (by decide) d_M_auction_74 ?_
            exact ax_ireturn B hE d_M_auction_76 hf rfl hag (by decide) (by decide)
          · refine ax_aload_n B d_M_auction_77 rfl (j := 0) rfl ?_
            refine ax_getI B d_M_auction_78 k_M_162 rfl hf (fun x6 hf => ?_)
            refine ax_istore B (lv' := [(6, ax_I x6), (0, ax_O v0), (1, ax_I v1), (2, ax_I v2), (3, ax_I v3), (4, ax_I v4), (5, ax_I v5)]) d_M_auction_81 (by rw [hn]; decide) rfl ?_
            refine ax_aload_n B d_M_auction_83 rfl (j := 1) rfl ?_
            refine ax_getR B d_M_auction_84 k_M_72 rfl hf (fun x7 hf => ?_)
            refine ax_iload B (j := 0) d_M_auction_87 rfl ?_
            refine ax_iload_n B d_M_auction_89 rfl (j := 2) rfl ?_
            refine ax_iast B d_M_auction_90 (t := 0) (by decide) rfl hf (fun M8 hf => ?_)
            refine ax_aload_n B d_M_auction_91 rfl (j := 1) rfl ?_
            refine ax_getR B d_M_auction_92 k_M_75 rfl hf (fun x9 hf => ?_)
            refine ax_iload B (j := 0) d_M_auction_95 rfl ?_
            refine ax_iload_n B d_M_auction_97 rfl (j := 3) rfl ?_
            refine ax_iast B d_M_auction_98 (t := 0) (by decide) rfl hf (fun M10 hf => ?_)
            refine ax_aload_n B d_M_auction_99 rfl (j := 1) rfl ?_
            refine ax_getR B d_M_auction_100 k_M_78 rfl hf (fun x11 hf => ?_)
            refine ax_iload B (j := 0) d_M_auction_103 rfl ?_
            refine ax_iload_n B d_M_auction_105 rfl (j := 4) rfl ?_
            refine ax_iast B d_M_auction_106 (t := 0) (by decide) rfl hf (fun M12 hf => ?_)
            refine ax_aload_n B d_M_auction_107 rfl (j := 1) rfl ?_
            refine ax_getR B d_M_auction_108 k_M_81 rfl hf (fun x13 hf => ?_)
            refine ax_iload B (j := 0) d_M_auction_111 rfl ?_
            refine ax_iload B (j := 5) d_M_auction_113 rfl ?_
            refine ax_iast B d_M_auction_115 (t := 0) (by decide) rfl hf (fun M14 hf => ?_)
            refine ax_aload_n B d_M_auction_116 rfl (j := 1) rfl ?_
            refine ax_getR B d_M_auction_117 k_M_84 rfl hf (fun x15 hf => ?_)
            refine ax_iload B (j := 0) d_M_auction_120 rfl ?_
            refine ax_aload_n B d_M_auction_122 rfl (j := 1) rfl ?_
            refine ax_getI B d_M_auction_123 k_M_156 rfl hf (fun x16 hf => ?_)
            refine ax_iload B (j := 6) d_M_auction_126 rfl ?_
            refine ax_iadd B d_M_auction_128 ?_
            refine ax_iast B d_M_auction_129 (t := 0) (by decide) rfl hf (fun M17 hf => ?_)
            refine ax_aload_n B d_M_auction_130 rfl (j := 1) rfl ?_
            refine ax_getR B d_M_auction_131 k_M_87 rfl hf (fun x18 hf => ?_)
            refine ax_iload B (j := 0) d_M_auction_134 rfl ?_
            refine ax_aload_n B d_M_auction_136 rfl (j := 1) rfl ?_
            refine ax_getI B d_M_auction_137 k_M_156 rfl hf (fun x19 hf => ?_)
            refine ax_iload B (j := 6) d_M_auction_140 rfl ?_
            refine ax_iadd B d_M_auction_142 ?_
            refine ax_iload_n B d_M_auction_143 rfl (j := 2) rfl ?_
            refine ax_iconst B (v := 1) (by decide) d_M_auction_144 ?_
            refine ax_icmp_eq B (tgt := 153) d_M_auction_145 (by decide) hf (fun hf => ?_) (fun hf => ?_)
            · refine ax_sub [1, 0] rfl ?_
              exact K_M_auction_153 B hn hR hE hag M17 v0 x6 (x19 + v5) x6 x18 hf
            · refine ax_iload_n B d_M_auction_148 rfl (j := 2) rfl ?_
              refine ax_iconst B (v := 2) (by decide) d_M_auction_149 ?_
              refine ax_icmp_ne B (tgt := 157) d_M_auction_150 (by decide) hf (fun hf => ?_) (fun hf => ?_)
              · refine ax_sub [1, 0] rfl ?_
                exact K_M_auction_153 B hn hR hE hag M17 v0 x6 (x19 + v5) x6 x18 hf
              · refine ax_iconst B (v := 0) (by decide) d_M_auction_157 ?_
                refine ax_sub [1, 0] rfl ?_
                exact K_M_auction_158 B hn hR hE hag M17 v0 x6 0 (x19 + v5) x6 x18 hf
def f_M_auction (M : ax_M) (x0 : Option Nat) (p0 : Int32) (p1 : Int32) (p2 : Int32) (p3 : Int32) (p4 : Int32) : Option (Int32 × ax_M) := (f_M_isIn M p0 0 4).bind (fun q1 => if q1.1 = 0 then G_M_auction_62 q1.2 else if p0 = 4 then G_M_auction_22 q1.2 x0 p0 p1 p2 p3 p4 20 1 p1 else G_M_auction_22 q1.2 x0 p0 p1 p2 p3 p4 1 1 p1)
set_option maxRecDepth 100000 in
set_option maxHeartbeats 4000000 in
theorem c_M_auction (l : Launch) (G : ax_G) (M : ax_M) (x0 : Option Nat) (p0 : Int32) (p1 : Int32) (p2 : Int32) (p3 : Int32) (p4 : Int32) {q : Int32 × ax_M} (hf : f_M_auction M x0 p0 p1 p2 p3 p4 = some q) : ax_C l G y_M_auction b_M_auction 8 (some .int) [] 1 0 0 [ax_O x0, ax_I p0, ax_I p1, ax_I p2, ax_I p3, ax_I p4] M (some (ax_I q.1)) q.2 := by
  refine ax_ofW (by decide +kernel) (lv0 := [(0, ax_O x0), (1, ax_I p0), (2, ax_I p1), (3, ax_I p2), (4, ax_I p3), (5, ax_I p4)]) (Nat.le_of_ble_eq_true rfl) rfl ?_
  intro Z ad B hin _ _ hn hR hE
  have hag : ∀ a, a ∉ ([] : List Nat) → ad a = ad a := fun _ _ => rfl
  unfold f_M_auction at hf
  refine ax_iload_n B d_M_auction_0 rfl (j := 1) rfl ?_
  refine ax_iconst B (v := 0) (by decide) d_M_auction_1 ?_
  refine ax_iconst B (v := 4) (by decide) d_M_auction_2 ?_
  refine ax_cSV B hR (as := [ax_I p0, ax_I 0, ax_I 4]) (V := fun q => ax_I q.1) (N := fun q => q.2) d_M_auction_3 l_M_139 m_M_isIn hf (fun q h => c_M_isIn _ _ _ _ _ _ h) rfl rfl (by decide) (by decide) (by decide) (by decide) (Nat.le_of_ble_eq_true rfl) (fun q1 hf => ?_)
  refine ax_if_eq B (tgt := 62) d_M_auction_6 (by decide) hf (fun hf => ?_) (fun hf => ?_)
  · refine ax_sub [] rfl ?_
    exact K_M_auction_62 B hn hR hE hag q1.2 hf
  · refine ax_iload_n B d_M_auction_9 rfl (j := 2) rfl ?_
    refine ax_iconst B (v := 1) (by decide) d_M_auction_10 ?_
    refine ax_iload_n B d_M_auction_11 rfl (j := 1) rfl ?_
    refine ax_iconst B (v := 4) (by decide) d_M_auction_12 ?_
    refine ax_icmp_ne B (tgt := 21) d_M_auction_13 (by decide) hf (fun hf => ?_) (fun hf => ?_)
    · refine ax_bipush B (v := 20) (by decide) d_M_auction_16 ?_
      refine ax_goto B (tgt := 22) d_M_auction_18 (by decide) ?_
      exact K_M_auction_22 B hn hR hE hag q1.2 x0 p0 p1 p2 p3 p4 20 1 p1 hf
    · refine ax_iconst B (v := 1) (by decide) d_M_auction_21 ?_
      exact K_M_auction_22 B hn hR hE hag q1.2 x0 p0 p1 p2 p3 p4 1 1 p1 hf
def G_M_isOver_27  (M : ax_M) (s0 : Int32) : Option (Int32 × ax_M) := (ax_bo s0).bind (fun _ => some (s0, M))
set_option maxRecDepth 100000 in
set_option maxHeartbeats 4000000 in
theorem K_M_isOver_27 {Z : ax_Z} {ad0 ad : Nat → Nat} {q : Int32 × ax_M} (B : ax_B Z "VoteAuctionsModel" b_M_isOver (some .boolean)) (hn : Z.2.2.2.2.2.2.2.2.2.2.2.1 = 2) (hR : ax_R Z 0 0 0) (hE : ax_E Z ad0 [] 0 0 (some (ax_I q.1)) q.2) (hag : ∀ a, a ∉ ([] : List Nat) → ad a = ad0 a)   : ∀ (M : ax_M) (s0 : Int32), G_M_isOver_27  M s0 = some q → ax_W Z ad 0 0 27 [] [ax_I s0] M := by
  intro M s0 hf
  unfold G_M_isOver_27 at hf
  obtain ⟨_, hb, hf⟩ := ax_bd hf
  exact ax_ireturn B hE d_M_isOver_27 hf (ax_bo_n hb) hag (by decide) (by decide)
def G_M_isOver_22  (M : ax_M)  : Option (Int32 × ax_M) := G_M_isOver_27 M 1
set_option maxRecDepth 100000 in
set_option maxHeartbeats 4000000 in
theorem K_M_isOver_22 {Z : ax_Z} {ad0 ad : Nat → Nat} {q : Int32 × ax_M} (B : ax_B Z "VoteAuctionsModel" b_M_isOver (some .boolean)) (hn : Z.2.2.2.2.2.2.2.2.2.2.2.1 = 2) (hR : ax_R Z 0 0 0) (hE : ax_E Z ad0 [] 0 0 (some (ax_I q.1)) q.2) (hag : ∀ a, a ∉ ([] : List Nat) → ad a = ad0 a)   : ∀ (M : ax_M) , G_M_isOver_22  M  = some q → ax_W Z ad 0 0 22 [] [] M := by
  intro M  hf
  unfold G_M_isOver_22 at hf
  refine ax_iconst B (v := 1) (by decide) d_M_isOver_22 ?_
  refine ax_goto B (tgt := 27) d_M_isOver_23 (by decide) ?_
  exact K_M_isOver_27 B hn hR hE hag M 1 hf
def f_M_isOver (M : ax_M) (x0 : Option Nat) (p0 : Int32) : Option (Int32 × ax_M) := (ax_gi M 3 1 x0).bind (fun x1 => (ax_gr M 3 32 x0).bind (fun x2 => (ax_ri M 0 x2 p0).bind (fun x3 => if x3 ≤ x1 then G_M_isOver_22 M else (ax_gr M 3 34 x0).bind (fun x4 => (ax_ri M 0 x4 p0).bind (fun x5 => if x5 < 0 then G_M_isOver_27 M 0 else G_M_isOver_22 M)))))
set_option maxRecDepth 100000 in
set_option maxHeartbeats 4000000 in
theorem c_M_isOver (l : Launch) (G : ax_G) (M : ax_M) (x0 : Option Nat) (p0 : Int32) {q : Int32 × ax_M} (hf : f_M_isOver M x0 p0 = some q) : ax_C l G y_M_isOver b_M_isOver 2 (some .boolean) [] 0 0 0 [ax_O x0, ax_I p0] M (some (ax_I q.1)) q.2 := by
  refine ax_ofW (by decide +kernel) (lv0 := [(0, ax_O x0), (1, ax_I p0)]) (Nat.le_of_ble_eq_true rfl) rfl ?_
  intro Z ad B hin _ _ hn hR hE
  have hag : ∀ a, a ∉ ([] : List Nat) → ad a = ad a := fun _ _ => rfl
  unfold f_M_isOver at hf
  refine ax_aload_n B d_M_isOver_0 rfl (j := 0) rfl ?_
  refine ax_getI B d_M_isOver_1 k_M_156 rfl hf (fun x1 hf => ?_)
  refine ax_aload_n B d_M_isOver_4 rfl (j := 0) rfl ?_
  refine ax_getR B d_M_isOver_5 k_M_87 rfl hf (fun x2 hf => ?_)
  refine ax_iload_n B d_M_isOver_8 rfl (j := 1) rfl ?_
  refine ax_iald B d_M_isOver_9 (t := 0) (by decide) rfl hf (fun x3 hf => ?_)
  refine ax_icmp_ge B (tgt := 22) d_M_isOver_10 (by decide) hf (fun hf => ?_) (fun hf => ?_)
  · refine ax_sub [] rfl ?_
    exact K_M_isOver_22 B hn hR hE hag M hf
  · refine ax_aload_n B d_M_isOver_13 rfl (j := 0) rfl ?_
    refine ax_getR B d_M_isOver_14 k_M_93 rfl hf (fun x4 hf => ?_)
    refine ax_iload_n B d_M_isOver_17 rfl (j := 1) rfl ?_
    refine ax_iald B d_M_isOver_18 (t := 0) (by decide) rfl hf (fun x5 hf => ?_)
    refine ax_if_lt B (tgt := 26) d_M_isOver_19 (by decide) hf (fun hf => ?_) (fun hf => ?_)
    · refine ax_iconst B (v := 0) (by decide) d_M_isOver_26 ?_
      refine ax_sub [] rfl ?_
      exact K_M_isOver_27 B hn hR hE hag M 0 hf
    · refine ax_sub [] rfl ?_
      exact K_M_isOver_22 B hn hR hE hag M hf
def G_M_bid_16  (M : ax_M)  : Option (Int32 × ax_M) := some ((-1), M)
set_option maxRecDepth 100000 in
set_option maxHeartbeats 4000000 in
theorem K_M_bid_16 {Z : ax_Z} {ad0 ad : Nat → Nat} {q : Int32 × ax_M} (B : ax_B Z "VoteAuctionsModel" b_M_bid (some .int)) (hn : Z.2.2.2.2.2.2.2.2.2.2.2.1 = 7) (hR : ax_R Z 1 0 0) (hE : ax_E Z ad0 [] 0 0 (some (ax_I q.1)) q.2) (hag : ∀ a, a ∉ ([] : List Nat) → ad a = ad0 a)   : ∀ (M : ax_M) , G_M_bid_16  M  = some q → ax_W Z ad 0 0 16 [] [] M := by
  intro M  hf
  unfold G_M_bid_16 at hf
  refine ax_iconst B (v := (-1)) (by decide) d_M_bid_16 ?_
  exact ax_ireturn B hE d_M_bid_17 hf rfl hag (by decide) (by decide)
def G_M_bid_48  (M : ax_M)  : Option (Int32 × ax_M) := some ((-2), M)
set_option maxRecDepth 100000 in
set_option maxHeartbeats 4000000 in
theorem K_M_bid_48 {Z : ax_Z} {ad0 ad : Nat → Nat} {q : Int32 × ax_M} (B : ax_B Z "VoteAuctionsModel" b_M_bid (some .int)) (hn : Z.2.2.2.2.2.2.2.2.2.2.2.1 = 7) (hR : ax_R Z 1 0 0) (hE : ax_E Z ad0 [] 0 0 (some (ax_I q.1)) q.2) (hag : ∀ a, a ∉ ([] : List Nat) → ad a = ad0 a)   : ∀ (M : ax_M) , G_M_bid_48  M  = some q → ax_W Z ad 0 0 48 [] [] M := by
  intro M  hf
  unfold G_M_bid_48 at hf
  refine ax_bipush B (v := (-2)) (by decide) d_M_bid_48 ?_
  exact ax_ireturn B hE d_M_bid_50 hf rfl hag (by decide) (by decide)
def G_M_bid_201  (M : ax_M) (v0 : Option Nat) (v2 : Int32) (v3 : Int32) (v4 : Int32) (v5 : Int32) : Option (Int32 × ax_M) := (ax_ob M 3 v0).bind (fun _ => (f_M_costOf M v0 v5).bind (fun q1 => (ax_ob q1.2 3 v0).bind (fun _ => (f_M_setAside q1.2 v0 v2 (-q1.1)).bind (fun q2 => (ax_gr q2 3 35 v0).bind (fun x3 => (ax_ti q2 2 x3 v5 1).bind (fun M4 => (ax_gr M4 3 36 v0).bind (fun x5 => (ax_ti M4 0 x5 v5 v3).bind (fun M6 => (ax_gr M6 3 37 v0).bind (fun x7 => (ax_ti M6 0 x7 v5 v4).bind (fun M8 => (ax_gr M8 3 38 v0).bind (fun x9 => (ax_gi M8 3 26 v0).bind (fun x10 => (ax_ti M8 0 x9 v5 x10).bind (fun M11 => (ax_gi M11 3 26 v0).bind (fun x12 => (ax_pi M11 3 26 v0 (x12 + 1)).bind (fun M13 => (ax_ob M13 3 v0).bind (fun _ => (f_M_costOf M13 v0 v5).bind (fun q14 => (ax_ob q14.2 3 v0).bind (fun _ => (f_M_setAside q14.2 v0 v2 q14.1).bind (fun q15 => some (1, q15))))))))))))))))))))
set_option maxRecDepth 100000 in
set_option maxHeartbeats 4000000 in
theorem K_M_bid_201 {Z : ax_Z} {ad0 ad : Nat → Nat} {q : Int32 × ax_M} (B : ax_B Z "VoteAuctionsModel" b_M_bid (some .int)) (hn : Z.2.2.2.2.2.2.2.2.2.2.2.1 = 7) (hR : ax_R Z 1 0 0) (hE : ax_E Z ad0 [] 0 0 (some (ax_I q.1)) q.2) (hag : ∀ a, a ∉ ([] : List Nat) → ad a = ad0 a)   : ∀ (M : ax_M) (v0 : Option Nat) (v2 : Int32) (v3 : Int32) (v4 : Int32) (v5 : Int32), G_M_bid_201  M v0 v2 v3 v4 v5 = some q → ax_W Z ad 0 0 201 [(0, ax_O v0), (2, ax_I v2), (3, ax_I v3), (4, ax_I v4), (5, ax_I v5)] [] M := by
  intro M v0 v2 v3 v4 v5 hf
  unfold G_M_bid_201 at hf
  refine ax_aload_n B d_M_bid_201 rfl (j := 0) rfl ?_
  refine ax_iload_n B d_M_bid_202 rfl (j := 1) rfl ?_
  refine ax_aload_n B d_M_bid_203 rfl (j := 0) rfl ?_
  refine ax_iload B (j := 4) d_M_bid_204 rfl ?_
  refine ax_cVV B hR (as := [ax_I v5]) (V := fun q => ax_L q.1) (N := fun q => q.2) d_M_bid_206 l_M_237 m_M_costOf hf (fun q h => c_M_costOf _ _ _ _ _ h) rfl rfl (by decide) (by decide) (by decide) (by decide) (Nat.le_of_ble_eq_true rfl) (fun q1 hf => ?_)
  refine ax_lneg B d_M_bid_209 ?_
  refine ax_cVN B hR (as := [ax_I v2, ax_L (-q1.1)]) (N := fun q => q) d_M_bid_210 l_M_241 m_M_setAside hf (fun q h => c_M_setAside _ _ _ _ _ _ h) rfl rfl (by decide) (by decide) (by decide) (by decide) (Nat.le_of_ble_eq_true rfl) (fun q2 hf => ?_)
  refine ax_aload_n B d_M_bid_213 rfl (j := 0) rfl ?_
  refine ax_getR B d_M_bid_214 k_M_96 rfl hf (fun x3 hf => ?_)
  refine ax_iload B (j := 4) d_M_bid_217 rfl ?_
  refine ax_iconst B (v := 1) (by decide) d_M_bid_219 ?_
  refine ax_zast B d_M_bid_220 (t := 2) (by decide) rfl (by decide) hf (fun M4 hf => ?_)
  refine ax_aload_n B d_M_bid_221 rfl (j := 0) rfl ?_
  refine ax_getR B d_M_bid_222 k_M_99 rfl hf (fun x5 hf => ?_)
  refine ax_iload B (j := 4) d_M_bid_225 rfl ?_
  refine ax_iload_n B d_M_bid_227 rfl (j := 2) rfl ?_
  refine ax_iast B d_M_bid_228 (t := 0) (by decide) rfl hf (fun M6 hf => ?_)
  refine ax_aload_n B d_M_bid_229 rfl (j := 0) rfl ?_
  refine ax_getR B d_M_bid_230 k_M_102 rfl hf (fun x7 hf => ?_)
  refine ax_iload B (j := 4) d_M_bid_233 rfl ?_
  refine ax_iload B (j := 3) d_M_bid_235 rfl ?_
  refine ax_iast B d_M_bid_237 (t := 0) (by decide) rfl hf (fun M8 hf => ?_)
  refine ax_aload_n B d_M_bid_238 rfl (j := 0) rfl ?_
  refine ax_getR B d_M_bid_239 k_M_105 rfl hf (fun x9 hf => ?_)
  refine ax_iload B (j := 4) d_M_bid_242 rfl ?_
  refine ax_aload_n B d_M_bid_244 rfl (j := 0) rfl ?_
  refine ax_getI B d_M_bid_245 k_M_245 rfl hf (fun x10 hf => ?_)
  refine ax_iast B d_M_bid_248 (t := 0) (by decide) rfl hf (fun M11 hf => ?_)
  refine ax_aload_n B d_M_bid_249 rfl (j := 0) rfl ?_
  refine ax_dup B rfl d_M_bid_250 ?_
  refine ax_getI B d_M_bid_251 k_M_245 rfl hf (fun x12 hf => ?_)
  refine ax_iconst B (v := 1) (by decide) d_M_bid_254 ?_
  refine ax_iadd B d_M_bid_255 ?_
  refine ax_putI B d_M_bid_256 k_M_245 rfl rfl rfl rfl hf (fun M13 hf => ?_)
  refine ax_aload_n B d_M_bid_259 rfl (j := 0) rfl ?_
  refine ax_iload_n B d_M_bid_260 rfl (j := 1) rfl ?_
  refine ax_aload_n B d_M_bid_261 rfl (j := 0) rfl ?_
  refine ax_iload B (j := 4) d_M_bid_262 rfl ?_
  refine ax_cVV B hR (as := [ax_I v5]) (V := fun q => ax_L q.1) (N := fun q => q.2) d_M_bid_264 l_M_237 m_M_costOf hf (fun q h => c_M_costOf _ _ _ _ _ h) rfl rfl (by decide) (by decide) (by decide) (by decide) (Nat.le_of_ble_eq_true rfl) (fun q14 hf => ?_)
  refine ax_cVN B hR (as := [ax_I v2, ax_L q14.1]) (N := fun q => q) d_M_bid_267 l_M_241 m_M_setAside hf (fun q h => c_M_setAside _ _ _ _ _ _ h) rfl rfl (by decide) (by decide) (by decide) (by decide) (Nat.le_of_ble_eq_true rfl) (fun q15 hf => ?_)
  refine ax_iconst B (v := 1) (by decide) d_M_bid_270 ?_
  exact ax_ireturn B hE d_M_bid_271 hf rfl hag (by decide) (by decide)
def G_M_bid_162  (M : ax_M)  : Option (Int32 × ax_M) := some ((-3), M)
set_option maxRecDepth 100000 in
set_option maxHeartbeats 4000000 in
theorem K_M_bid_162 {Z : ax_Z} {ad0 ad : Nat → Nat} {q : Int32 × ax_M} (B : ax_B Z "VoteAuctionsModel" b_M_bid (some .int)) (hn : Z.2.2.2.2.2.2.2.2.2.2.2.1 = 7) (hR : ax_R Z 1 0 0) (hE : ax_E Z ad0 [] 0 0 (some (ax_I q.1)) q.2) (hag : ∀ a, a ∉ ([] : List Nat) → ad a = ad0 a)   : ∀ (M : ax_M) , G_M_bid_162  M  = some q → ax_W Z ad 0 0 162 [] [] M := by
  intro M  hf
  unfold G_M_bid_162 at hf
  refine ax_bipush B (v := (-3)) (by decide) d_M_bid_162 ?_
  exact ax_ireturn B hE d_M_bid_164 hf rfl hag (by decide) (by decide)
def G_M_bid_139  (M : ax_M) (v0 : Option Nat) (v1 : Int32) (v2 : Int32) (v3 : Int32) (v4 : Int32) (v5 : Int32) (v6 : Int32) : Option (Int32 × ax_M) := (ax_gr M 3 5 v0).bind (fun x1 => (ax_rl M 1 x1 v2).bind (fun x2 => (ax_ob M 3 v0).bind (fun _ => (f_M_costOf M v0 v5).bind (fun q3 => if 0 ≤ (lg_cmp (x2 + q3.1) ((v3.toInt64) * (v4.toInt64))) then if v6 < 0 then G_M_bid_201 q3.2 v0 v2 v3 v4 v5 else (ax_ob q3.2 3 v0).bind (fun _ => (f_M_costOf q3.2 v0 ((8 * v1) + v6)).bind (fun q4 => (ax_ob q4.2 3 v0).bind (fun _ => (f_M_setAside q4.2 v0 v6 (-q4.1)).bind (fun q5 => (ax_gr q5 3 35 v0).bind (fun x6 => (ax_ti q5 2 x6 ((8 * v1) + v6) 0).bind (fun M7 => G_M_bid_201 M7 v0 v2 v3 v4 v5)))))) else G_M_bid_162 q3.2))))
set_option maxRecDepth 100000 in
set_option maxHeartbeats 4000000 in
theorem K_M_bid_139 {Z : ax_Z} {ad0 ad : Nat → Nat} {q : Int32 × ax_M} (B : ax_B Z "VoteAuctionsModel" b_M_bid (some .int)) (hn : Z.2.2.2.2.2.2.2.2.2.2.2.1 = 7) (hR : ax_R Z 1 0 0) (hE : ax_E Z ad0 [] 0 0 (some (ax_I q.1)) q.2) (hag : ∀ a, a ∉ ([] : List Nat) → ad a = ad0 a)   : ∀ (M : ax_M) (v0 : Option Nat) (v1 : Int32) (v2 : Int32) (v3 : Int32) (v4 : Int32) (v5 : Int32) (v6 : Int32), G_M_bid_139  M v0 v1 v2 v3 v4 v5 v6 = some q → ax_W Z ad 0 0 139 [(0, ax_O v0), (1, ax_I v1), (2, ax_I v2), (3, ax_I v3), (4, ax_I v4), (5, ax_I v5), (6, ax_I v6)] [] M := by
  intro M v0 v1 v2 v3 v4 v5 v6 hf
  unfold G_M_bid_139 at hf
  refine ax_aload_n B d_M_bid_139 rfl (j := 0) rfl ?_
  refine ax_getR B d_M_bid_140 k_M_13 rfl hf (fun x1 hf => ?_)
  refine ax_iload_n B d_M_bid_143 rfl (j := 2) rfl ?_
  refine ax_lald B d_M_bid_144 (t := 1) (by decide) rfl hf (fun x2 hf => ?_)
  refine ax_aload_n B d_M_bid_145 rfl (j := 0) rfl ?_
  refine ax_iload B (j := 5) d_M_bid_146 rfl ?_
  refine ax_cVV B hR (as := [ax_I v5]) (V := fun q => ax_L q.1) (N := fun q => q.2) d_M_bid_148 l_M_237 m_M_costOf hf (fun q h => c_M_costOf _ _ _ _ _ h) rfl rfl (by decide) (by decide) (by decide) (by decide) (Nat.le_of_ble_eq_true rfl) (fun q3 hf => ?_)
  refine ax_ladd B d_M_bid_151 ?_
  refine ax_iload_n B d_M_bid_152 rfl (j := 3) rfl ?_
  refine ax_i2l B d_M_bid_153 ?_
  refine ax_iload B (j := 4) d_M_bid_154 rfl ?_
  refine ax_i2l B d_M_bid_156 ?_
  refine ax_lmul B d_M_bid_157 ?_
  refine ax_lcmp B d_M_bid_158 ?_
  refine ax_if_ge B (tgt := 165) d_M_bid_159 (by decide) hf (fun hf => ?_) (fun hf => ?_)
  · refine ax_iload B (j := 6) d_M_bid_165 rfl ?_
    refine ax_if_lt B (tgt := 201) d_M_bid_167 (by decide) hf (fun hf => ?_) (fun hf => ?_)
    · refine ax_sub [0, 2, 3, 4, 5] rfl ?_
      exact K_M_bid_201 B hn hR hE hag q3.2 v0 v2 v3 v4 v5 hf
    · refine ax_aload_n B d_M_bid_170 rfl (j := 0) rfl ?_
      refine ax_iload B (j := 6) d_M_bid_171 rfl ?_
      refine ax_aload_n B d_M_bid_173 rfl (j := 0) rfl ?_
      refine ax_bipush B (v := 8) (by decide) d_M_bid_174 ?_
      refine ax_iload_n B d_M_bid_176 rfl (j := 1) rfl ?_
      refine ax_imul B d_M_bid_177 ?_
      refine ax_iload B (j := 6) d_M_bid_178 rfl ?_
      refine ax_iadd B d_M_bid_180 ?_
      refine ax_cVV B hR (as := [ax_I ((8 * v1) + v6)]) (V := fun q => ax_L q.1) (N := fun q => q.2) d_M_bid_181 l_M_237 m_M_costOf hf (fun q h => c_M_costOf _ _ _ _ _ h) rfl rfl (by decide) (by decide) (by decide) (by decide) (Nat.le_of_ble_eq_true rfl) (fun q4 hf => ?_)
      refine ax_lneg B d_M_bid_184 ?_
      refine ax_cVN B hR (as := [ax_I v6, ax_L (-q4.1)]) (N := fun q => q) d_M_bid_185 l_M_241 m_M_setAside hf (fun q h => c_M_setAside _ _ _ _ _ _ h) rfl rfl (by decide) (by decide) (by decide) (by decide) (Nat.le_of_ble_eq_true rfl) (fun q5 hf => ?_)
      refine ax_aload_n B d_M_bid_188 rfl (j := 0) rfl ?_
      refine ax_getR B d_M_bid_189 k_M_96 rfl hf (fun x6 hf => ?_)
      refine ax_bipush B (v := 8) (by decide) d_M_bid_192 ?_
      refine ax_iload_n B d_M_bid_194 rfl (j := 1) rfl ?_
      refine ax_imul B d_M_bid_195 ?_
      refine ax_iload B (j := 6) d_M_bid_196 rfl ?_
      refine ax_iadd B d_M_bid_198 ?_
      refine ax_iconst B (v := 0) (by decide) d_M_bid_199 ?_
      refine ax_zast B d_M_bid_200 (t := 2) (by decide) rfl (by decide) hf (fun M7 hf => ?_)
      refine ax_sub [0, 2, 3, 4, 5] rfl ?_
      exact K_M_bid_201 B hn hR hE hag M7 v0 v2 v3 v4 v5 hf
  · refine ax_sub [] rfl ?_
    exact K_M_bid_162 B hn hR hE hag q3.2 hf
def G_M_bid_108  (M : ax_M) (v0 : Option Nat) (v1 : Int32) (v2 : Int32) (v3 : Int32) (v4 : Int32) (v5 : Int32) (s0 : Int32) : Option (Int32 × ax_M) := if s0 < 0 then G_M_bid_139 M v0 v1 v2 v3 v4 v5 s0 else (ax_gr M 3 37 v0).bind (fun x1 => (ax_ri M 0 x1 ((8 * v1) + s0)).bind (fun x2 => (ax_gr M 3 30 v0).bind (fun x3 => (ax_ri M 0 x3 v1).bind (fun x4 => if v4 < (x2 + x4) then G_M_bid_162 M else G_M_bid_139 M v0 v1 v2 v3 v4 v5 s0))))
set_option maxRecDepth 100000 in
set_option maxHeartbeats 4000000 in
theorem K_M_bid_108 {Z : ax_Z} {ad0 ad : Nat → Nat} {q : Int32 × ax_M} (B : ax_B Z "VoteAuctionsModel" b_M_bid (some .int)) (hn : Z.2.2.2.2.2.2.2.2.2.2.2.1 = 7) (hR : ax_R Z 1 0 0) (hE : ax_E Z ad0 [] 0 0 (some (ax_I q.1)) q.2) (hag : ∀ a, a ∉ ([] : List Nat) → ad a = ad0 a)   : ∀ (M : ax_M) (v0 : Option Nat) (v1 : Int32) (v2 : Int32) (v3 : Int32) (v4 : Int32) (v5 : Int32) (s0 : Int32), G_M_bid_108  M v0 v1 v2 v3 v4 v5 s0 = some q → ax_W Z ad 0 0 108 [(0, ax_O v0), (1, ax_I v1), (2, ax_I v2), (3, ax_I v3), (4, ax_I v4), (5, ax_I v5)] [ax_I s0] M := by
  intro M v0 v1 v2 v3 v4 v5 s0 hf
  unfold G_M_bid_108 at hf
  refine ax_istore B (lv' := [(6, ax_I s0), (0, ax_O v0), (1, ax_I v1), (2, ax_I v2), (3, ax_I v3), (4, ax_I v4), (5, ax_I v5)]) d_M_bid_108 (by rw [hn]; decide) rfl ?_
  refine ax_iload B (j := 0) d_M_bid_110 rfl ?_
  refine ax_if_lt B (tgt := 139) d_M_bid_112 (by decide) hf (fun hf => ?_) (fun hf => ?_)
  · refine ax_sub [1, 2, 3, 4, 5, 6, 0] rfl ?_
    exact K_M_bid_139 B hn hR hE hag M v0 v1 v2 v3 v4 v5 s0 hf
  · refine ax_iload B (j := 5) d_M_bid_115 rfl ?_
    refine ax_aload_n B d_M_bid_117 rfl (j := 1) rfl ?_
    refine ax_getR B d_M_bid_118 k_M_102 rfl hf (fun x1 hf => ?_)
    refine ax_bipush B (v := 8) (by decide) d_M_bid_121 ?_
    refine ax_iload_n B d_M_bid_123 rfl (j := 2) rfl ?_
    refine ax_imul B d_M_bid_124 ?_
    refine ax_iload B (j := 0) d_M_bid_125 rfl ?_
    refine ax_iadd B d_M_bid_127 ?_
    refine ax_iald B d_M_bid_128 (t := 0) (by decide) rfl hf (fun x2 hf => ?_)
    refine ax_aload_n B d_M_bid_129 rfl (j := 1) rfl ?_
    refine ax_getR B d_M_bid_130 k_M_81 rfl hf (fun x3 hf => ?_)
    refine ax_iload_n B d_M_bid_133 rfl (j := 2) rfl ?_
    refine ax_iald B d_M_bid_134 (t := 0) (by decide) rfl hf (fun x4 hf => ?_)
    refine ax_iadd B d_M_bid_135 ?_
    refine ax_icmp_lt B (tgt := 162) d_M_bid_136 (by decide) hf (fun hf => ?_) (fun hf => ?_)
    · refine ax_sub [] rfl ?_
      exact K_M_bid_162 B hn hR hE hag M hf
    · refine ax_sub [1, 2, 3, 4, 5, 6, 0] rfl ?_
      exact K_M_bid_139 B hn hR hE hag M v0 v1 v2 v3 v4 v5 s0 hf
def G_M_bid_78  (M : ax_M)  : Option (Int32 × ax_M) := some ((-3), M)
set_option maxRecDepth 100000 in
set_option maxHeartbeats 4000000 in
theorem K_M_bid_78 {Z : ax_Z} {ad0 ad : Nat → Nat} {q : Int32 × ax_M} (B : ax_B Z "VoteAuctionsModel" b_M_bid (some .int)) (hn : Z.2.2.2.2.2.2.2.2.2.2.2.1 = 7) (hR : ax_R Z 1 0 0) (hE : ax_E Z ad0 [] 0 0 (some (ax_I q.1)) q.2) (hag : ∀ a, a ∉ ([] : List Nat) → ad a = ad0 a)   : ∀ (M : ax_M) , G_M_bid_78  M  = some q → ax_W Z ad 0 0 78 [] [] M := by
  intro M  hf
  unfold G_M_bid_78 at hf
  refine ax_bipush B (v := (-3)) (by decide) d_M_bid_78 ?_
  exact ax_ireturn B hE d_M_bid_80 hf rfl hag (by decide) (by decide)
def G_M_bid_70  (M : ax_M) (v0 : Option Nat) (v1 : Int32) (v2 : Int32) (v3 : Int32) (v4 : Int32) : Option (Int32 × ax_M) := (ax_ob M 3 v0).bind (fun _ => (f_M_isOver M v0 v1).bind (fun q1 => if q1.1 = 0 then (some ((8 * v1) + v2)).bind (fun y2 => (ax_gr q1.2 3 27 v0).bind (fun x3 => (ax_ri q1.2 0 x3 v1).bind (fun x4 => if x4 = 0 then (ax_ob q1.2 3 v0).bind (fun _ => (f_M_greatest q1.2 v0 v1 (-1)).bind (fun q5 => G_M_bid_108 q5.2 v0 v1 v2 v3 v4 y2 q5.1)) else G_M_bid_108 q1.2 v0 v1 v2 v3 v4 y2 (-1)))) else G_M_bid_78 q1.2))
set_option maxRecDepth 100000 in
set_option maxHeartbeats 4000000 in
theorem K_M_bid_70 {Z : ax_Z} {ad0 ad : Nat → Nat} {q : Int32 × ax_M} (B : ax_B Z "VoteAuctionsModel" b_M_bid (some .int)) (hn : Z.2.2.2.2.2.2.2.2.2.2.2.1 = 7) (hR : ax_R Z 1 0 0) (hE : ax_E Z ad0 [] 0 0 (some (ax_I q.1)) q.2) (hag : ∀ a, a ∉ ([] : List Nat) → ad a = ad0 a)   : ∀ (M : ax_M) (v0 : Option Nat) (v1 : Int32) (v2 : Int32) (v3 : Int32) (v4 : Int32), G_M_bid_70  M v0 v1 v2 v3 v4 = some q → ax_W Z ad 0 0 70 [(0, ax_O v0), (1, ax_I v1), (2, ax_I v2), (3, ax_I v3), (4, ax_I v4)] [] M := by
  intro M v0 v1 v2 v3 v4 hf
  unfold G_M_bid_70 at hf
  refine ax_aload_n B d_M_bid_70 rfl (j := 0) rfl ?_
  refine ax_iload_n B d_M_bid_71 rfl (j := 1) rfl ?_
  refine ax_cVV B hR (as := [ax_I v1]) (V := fun q => ax_I q.1) (N := fun q => q.2) d_M_bid_72 l_M_231 m_M_isOver hf (fun q h => c_M_isOver _ _ _ _ _ h) rfl rfl (by decide) (by decide) (by decide) (by decide) (Nat.le_of_ble_eq_true rfl) (fun q1 hf => ?_)
  refine ax_if_eq B (tgt := 81) d_M_bid_75 (by decide) hf (fun hf => ?_) (fun hf => ?_)
  · refine ax_bipush B (v := 8) (by decide) d_M_bid_81 ?_
    refine ax_iload_n B d_M_bid_83 rfl (j := 1) rfl ?_
    refine ax_imul B d_M_bid_84 ?_
    refine ax_iload_n B d_M_bid_85 rfl (j := 2) rfl ?_
    refine ax_iadd B d_M_bid_86 ?_
    refine ax_nmI hf (fun y2 hf => ?_)
    refine ax_istore B (lv' := [(5, ax_I y2), (0, ax_O v0), (1, ax_I v1), (2, ax_I v2), (3, ax_I v3), (4, ax_I v4)]) d_M_bid_87 (by rw [hn]; decide) rfl ?_
    refine ax_aload_n B d_M_bid_89 rfl (j := 1) rfl ?_
    refine ax_getR B d_M_bid_90 k_M_72 rfl hf (fun x3 hf => ?_)
    refine ax_iload_n B d_M_bid_93 rfl (j := 2) rfl ?_
    refine ax_iald B d_M_bid_94 (t := 0) (by decide) rfl hf (fun x4 hf => ?_)
    refine ax_if_ne B (tgt := 107) d_M_bid_95 (by decide) hf (fun hf => ?_) (fun hf => ?_)
    · refine ax_aload_n B d_M_bid_98 rfl (j := 1) rfl ?_
      refine ax_iload_n B d_M_bid_99 rfl (j := 2) rfl ?_
      refine ax_iconst B (v := (-1)) (by decide) d_M_bid_100 ?_
      refine ax_cVV B hR (as := [ax_I v1, ax_I (-1)]) (V := fun q => ax_I q.1) (N := fun q => q.2) d_M_bid_101 l_M_234 m_M_greatest hf (fun q h => c_M_greatest _ _ _ _ _ _ h) rfl rfl (by decide) (by decide) (by decide) (by decide) (Nat.le_of_ble_eq_true rfl) (fun q5 hf => ?_)
      refine ax_goto B (tgt := 108) d_M_bid_104 (by decide) ?_
      refine ax_sub [1, 2, 3, 4, 5, 0] rfl ?_
      exact K_M_bid_108 B hn hR hE hag q5.2 v0 v1 v2 v3 v4 y2 q5.1 hf
    · refine ax_iconst B (v := (-1)) (by decide) d_M_bid_107 ?_
      refine ax_sub [1, 2, 3, 4, 5, 0] rfl ?_
      exact K_M_bid_108 B hn hR hE hag q1.2 v0 v1 v2 v3 v4 y2 (-1) hf
  · refine ax_sub [] rfl ?_
    exact K_M_bid_78 B hn hR hE hag q1.2 hf
def f_M_bid (M : ax_M) (x0 : Option Nat) (p0 : Int32) (p1 : Int32) (p2 : Int32) (p3 : Int32) : Option (Int32 × ax_M) := (ax_ob M 3 x0).bind (fun _ => (f_M_isAuction M x0 p0).bind (fun q1 => if q1.1 = 0 then G_M_bid_16 q1.2 else (ax_ob q1.2 3 x0).bind (fun _ => (f_M_isAccount q1.2 x0 p1).bind (fun q2 => if q2.1 = 0 then G_M_bid_16 q2.2 else (ax_gr q2.2 3 28 x0).bind (fun x3 => (ax_ri q2.2 0 x3 p0).bind (fun x4 => (f_M_isIn q2.2 p2 1 x4).bind (fun q5 => if q5.1 = 0 then G_M_bid_48 q5.2 else (ax_gr q5.2 3 29 x0).bind (fun x6 => (ax_ri q5.2 0 x6 p0).bind (fun x7 => (f_M_isIn q5.2 p3 x7 1000000).bind (fun q8 => if q8.1 = 0 then G_M_bid_48 q8.2 else (ax_gr q8.2 3 27 x0).bind (fun x9 => (ax_ri q8.2 0 x9 p0).bind (fun x10 => if x10 = 0 then G_M_bid_70 q8.2 x0 p0 p1 p2 p3 else (ax_gr q8.2 3 27 x0).bind (fun x11 => (ax_ri q8.2 0 x11 p0).bind (fun x12 => if x12 = 4 then G_M_bid_70 q8.2 x0 p0 p1 p2 p3 else G_M_bid_78 q8.2))))))))))))))
set_option maxRecDepth 100000 in
set_option maxHeartbeats 4000000 in
theorem c_M_bid (l : Launch) (G : ax_G) (M : ax_M) (x0 : Option Nat) (p0 : Int32) (p1 : Int32) (p2 : Int32) (p3 : Int32) {q : Int32 × ax_M} (hf : f_M_bid M x0 p0 p1 p2 p3 = some q) : ax_C l G y_M_bid b_M_bid 7 (some .int) [] 1 0 0 [ax_O x0, ax_I p0, ax_I p1, ax_I p2, ax_I p3] M (some (ax_I q.1)) q.2 := by
  refine ax_ofW (by decide +kernel) (lv0 := [(0, ax_O x0), (1, ax_I p0), (2, ax_I p1), (3, ax_I p2), (4, ax_I p3)]) (Nat.le_of_ble_eq_true rfl) rfl ?_
  intro Z ad B hin _ _ hn hR hE
  have hag : ∀ a, a ∉ ([] : List Nat) → ad a = ad a := fun _ _ => rfl
  unfold f_M_bid at hf
  refine ax_aload_n B d_M_bid_0 rfl (j := 0) rfl ?_
  refine ax_iload_n B d_M_bid_1 rfl (j := 1) rfl ?_
  refine ax_cVV B hR (as := [ax_I p0]) (V := fun q => ax_I q.1) (N := fun q => q.2) d_M_bid_2 l_M_228 m_M_isAuction hf (fun q h => c_M_isAuction _ _ _ _ _ h) rfl rfl (by decide) (by decide) (by decide) (by decide) (Nat.le_of_ble_eq_true rfl) (fun q1 hf => ?_)
  refine ax_if_eq B (tgt := 16) d_M_bid_5 (by decide) hf (fun hf => ?_) (fun hf => ?_)
  · refine ax_sub [] rfl ?_
    exact K_M_bid_16 B hn hR hE hag q1.2 hf
  · refine ax_aload_n B d_M_bid_8 rfl (j := 0) rfl ?_
    refine ax_iload_n B d_M_bid_9 rfl (j := 2) rfl ?_
    refine ax_cVV B hR (as := [ax_I p1]) (V := fun q => ax_I q.1) (N := fun q => q.2) d_M_bid_10 l_M_143 m_M_isAccount hf (fun q h => c_M_isAccount _ _ _ _ _ h) rfl rfl (by decide) (by decide) (by decide) (by decide) (Nat.le_of_ble_eq_true rfl) (fun q2 hf => ?_)
    refine ax_if_ne B (tgt := 18) d_M_bid_13 (by decide) hf (fun hf => ?_) (fun hf => ?_)
    · refine ax_sub [] rfl ?_
      exact K_M_bid_16 B hn hR hE hag q2.2 hf
    · refine ax_iload_n B d_M_bid_18 rfl (j := 3) rfl ?_
      refine ax_iconst B (v := 1) (by decide) d_M_bid_19 ?_
      refine ax_aload_n B d_M_bid_20 rfl (j := 0) rfl ?_
      refine ax_getR B d_M_bid_21 k_M_75 rfl hf (fun x3 hf => ?_)
      refine ax_iload_n B d_M_bid_24 rfl (j := 1) rfl ?_
      refine ax_iald B d_M_bid_25 (t := 0) (by decide) rfl hf (fun x4 hf => ?_)
      refine ax_cSV B hR (as := [ax_I p2, ax_I 1, ax_I x4]) (V := fun q => ax_I q.1) (N := fun q => q.2) d_M_bid_26 l_M_139 m_M_isIn hf (fun q h => c_M_isIn _ _ _ _ _ _ h) rfl rfl (by decide) (by decide) (by decide) (by decide) (Nat.le_of_ble_eq_true rfl) (fun q5 hf => ?_)
      refine ax_if_eq B (tgt := 48) d_M_bid_29 (by decide) hf (fun hf => ?_) (fun hf => ?_)
      · refine ax_sub [] rfl ?_
        exact K_M_bid_48 B hn hR hE hag q5.2 hf
      · refine ax_iload B (j := 4) d_M_bid_32 rfl ?_
        refine ax_aload_n B d_M_bid_34 rfl (j := 0) rfl ?_
        refine ax_getR B d_M_bid_35 k_M_78 rfl hf (fun x6 hf => ?_)
        refine ax_iload_n B d_M_bid_38 rfl (j := 1) rfl ?_
        refine ax_iald B d_M_bid_39 (t := 0) (by decide) rfl hf (fun x7 hf => ?_)
        refine ax_ldc B (v := 1000000) n_M_142 d_M_bid_40 ?_
        refine ax_cSV B hR (as := [ax_I p3, ax_I x7, ax_I 1000000]) (V := fun q => ax_I q.1) (N := fun q => q.2) d_M_bid_42 l_M_139 m_M_isIn hf (fun q h => c_M_isIn _ _ _ _ _ _ h) rfl rfl (by decide) (by decide) (by decide) (by decide) (Nat.le_of_ble_eq_true rfl) (fun q8 hf => ?_)
        refine ax_if_ne B (tgt := 51) d_M_bid_45 (by decide) hf (fun hf => ?_) (fun hf => ?_)
        · refine ax_sub [] rfl ?_
          exact K_M_bid_48 B hn hR hE hag q8.2 hf
        · refine ax_aload_n B d_M_bid_51 rfl (j := 0) rfl ?_
          refine ax_getR B d_M_bid_52 k_M_72 rfl hf (fun x9 hf => ?_)
          refine ax_iload_n B d_M_bid_55 rfl (j := 1) rfl ?_
          refine ax_iald B d_M_bid_56 (t := 0) (by decide) rfl hf (fun x10 hf => ?_)
          refine ax_if_eq B (tgt := 70) d_M_bid_57 (by decide) hf (fun hf => ?_) (fun hf => ?_)
          · exact K_M_bid_70 B hn hR hE hag q8.2 x0 p0 p1 p2 p3 hf
          · refine ax_aload_n B d_M_bid_60 rfl (j := 0) rfl ?_
            refine ax_getR B d_M_bid_61 k_M_72 rfl hf (fun x11 hf => ?_)
            refine ax_iload_n B d_M_bid_64 rfl (j := 1) rfl ?_
            refine ax_iald B d_M_bid_65 (t := 0) (by decide) rfl hf (fun x12 hf => ?_)
            refine ax_iconst B (v := 4) (by decide) d_M_bid_66 ?_
            refine ax_icmp_ne B (tgt := 78) d_M_bid_67 (by decide) hf (fun hf => ?_) (fun hf => ?_)
            · exact K_M_bid_70 B hn hR hE hag q8.2 x0 p0 p1 p2 p3 hf
            · refine ax_sub [] rfl ?_
              exact K_M_bid_78 B hn hR hE hag q8.2 hf
