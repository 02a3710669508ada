def G_V_endAuction_67  (M : ax_M) (v0 : Option Nat) (v1 : Option Nat) : Option (ax_M) := (ax_ob M 0 v0).bind (fun _ => (f_V_settleBids M v0 v1).bind (fun q1 => some q1))
set_option maxRecDepth 100000 in
set_option maxHeartbeats 4000000 in
theorem K_V_endAuction_67 {Z : ax_Z} {ad0 ad : Nat → Nat} {q : ax_M} (B : ax_B Z "VoteAuctions" b_V_endAuction none) (hn : Z.2.2.2.2.2.2.2.2.2.2.2.1 = 3) (hR : ax_R Z 3 0 0) (hE : ax_E Z ad0 [] 0 0 none q) (hag : ∀ a, a ∉ ([] : List Nat) → ad a = ad0 a)   : ∀ (M : ax_M) (v0 : Option Nat) (v1 : Option Nat), G_V_endAuction_67  M v0 v1 = some q → ax_W Z ad 0 0 67 [(0, ax_O v0), (1, ax_O v1)] [] M := by
  intro M v0 v1 hf
  unfold G_V_endAuction_67 at hf
  refine ax_aload_n B d_V_endAuction_67 rfl (j := 0) rfl ?_
  refine ax_aload_n B d_V_endAuction_68 rfl (j := 1) rfl ?_
  refine ax_cVN B hR (as := [ax_O v1]) (N := fun q => q) d_V_endAuction_69 l_V_296 m_V_settleBids hf (fun q h => c_V_settleBids _ _ _ _ _ h) rfl rfl (by decide) (by decide) (by decide) (by decide) (Nat.le_of_ble_eq_true rfl) (fun q1 hf => ?_)
  exact ax_vreturn B hE d_V_endAuction_72 hf hag (by decide) (by decide)
def G_V_endAuction_64  (M : ax_M) (v0 : Option Nat) (v1 : Option Nat) (s0 : Int32) (s1 : Option Nat) : Option (ax_M) := (ax_pi M 2 13 s1 s0).bind (fun M1 => G_V_endAuction_67 M1 v0 v1)
set_option maxRecDepth 100000 in
set_option maxHeartbeats 4000000 in
theorem K_V_endAuction_64 {Z : ax_Z} {ad0 ad : Nat → Nat} {q : ax_M} (B : ax_B Z "VoteAuctions" b_V_endAuction none) (hn : Z.2.2.2.2.2.2.2.2.2.2.2.1 = 3) (hR : ax_R Z 3 0 0) (hE : ax_E Z ad0 [] 0 0 none q) (hag : ∀ a, a ∉ ([] : List Nat) → ad a = ad0 a)   : ∀ (M : ax_M) (v0 : Option Nat) (v1 : Option Nat) (s0 : Int32) (s1 : Option Nat), G_V_endAuction_64  M v0 v1 s0 s1 = some q → ax_W Z ad 0 0 64 [(0, ax_O v0), (1, ax_O v1)] [ax_I s0, ax_O s1] M := by
  intro M v0 v1 s0 s1 hf
  unfold G_V_endAuction_64 at hf
  refine ax_putI B d_V_endAuction_64 k_V_191 rfl rfl rfl rfl hf (fun M1 hf => ?_)
  exact K_V_endAuction_67 B hn hR hE hag M1 v0 v1 hf
def G_V_endAuction_21  (M : ax_M) (v0 : Option Nat) (v1 : Option Nat) : Option (ax_M) := (f_V_shareUnits M v1).bind (fun q1 => (ax_gi q1 2 0 v1).bind (fun x2 => if x2 = 2 then (ax_gi q1 2 13 v1).bind (fun x3 => if x3 = 0 then G_V_endAuction_67 q1 v0 v1 else (ax_ob q1 2 v1).bind (fun _ => (f_A_bestWithout q1 v1 ).bind (fun q4 => if q4.1 = (-1) then (ax_gi q4.2 2 2 v1).bind (fun x5 => G_V_endAuction_64 q4.2 v0 v1 x5 v1) else (ax_gr q4.2 2 9 v1).bind (fun x6 => (ax_ri q4.2 0 x6 q4.1).bind (fun x7 => G_V_endAuction_64 q4.2 v0 v1 x7 v1))))) else G_V_endAuction_67 q1 v0 v1))
set_option maxRecDepth 100000 in
set_option maxHeartbeats 4000000 in
theorem K_V_endAuction_21 {Z : ax_Z} {ad0 ad : Nat → Nat} {q : ax_M} (B : ax_B Z "VoteAuctions" b_V_endAuction none) (hn : Z.2.2.2.2.2.2.2.2.2.2.2.1 = 3) (hR : ax_R Z 3 0 0) (hE : ax_E Z ad0 [] 0 0 none q) (hag : ∀ a, a ∉ ([] : List Nat) → ad a = ad0 a)   : ∀ (M : ax_M) (v0 : Option Nat) (v1 : Option Nat), G_V_endAuction_21  M v0 v1 = some q → ax_W Z ad 0 0 21 [(0, ax_O v0), (1, ax_O v1)] [] M := by
  intro M v0 v1 hf
  unfold G_V_endAuction_21 at hf
  refine ax_aload_n B d_V_endAuction_21 rfl (j := 1) rfl ?_
  refine ax_cSN B hR (as := [ax_O v1]) (N := fun q => q) d_V_endAuction_22 l_V_289 m_V_shareUnits hf (fun q h => c_V_shareUnits _ _ _ _ h) rfl rfl (by decide) (by decide) (by decide) (by decide) (Nat.le_of_ble_eq_true rfl) (fun q1 hf => ?_)
  refine ax_aload_n B d_V_endAuction_25 rfl (j := 1) rfl ?_
  refine ax_getI B d_V_endAuction_26 k_V_174 rfl hf (fun x2 hf => ?_)
  refine ax_iconst B (v := 2) (by decide) d_V_endAuction_29 ?_
  refine ax_icmp_ne B (tgt := 67) d_V_endAuction_30 (by decide) hf (fun hf => ?_) (fun hf => ?_)
  · refine ax_aload_n B d_V_endAuction_33 rfl (j := 1) rfl ?_
    refine ax_getI B d_V_endAuction_34 k_V_191 rfl hf (fun x3 hf => ?_)
    refine ax_if_eq B (tgt := 67) d_V_endAuction_37 (by decide) hf (fun hf => ?_) (fun hf => ?_)
    · exact K_V_endAuction_67 B hn hR hE hag q1 v0 v1 hf
    · refine ax_aload_n B d_V_endAuction_40 rfl (j := 1) rfl ?_
      refine ax_cVV B hR (as := []) (V := fun q => ax_I q.1) (N := fun q => q.2) d_V_endAuction_41 l_V_292 m_A_bestWithout hf (fun q h => c_A_bestWithout _ _ _ _ h) rfl rfl (by decide) (by decide) (by decide) (by decide) (Nat.le_of_ble_eq_true rfl) (fun q4 hf => ?_)
      refine ax_istore_n B (lv' := [(2, ax_I q4.1), (0, ax_O v0), (1, ax_O v1)]) d_V_endAuction_44 rfl (by rw [hn]; decide) rfl ?_
      refine ax_aload_n B d_V_endAuction_45 rfl (j := 2) rfl ?_
      refine ax_iload_n B d_V_endAuction_46 rfl (j := 0) rfl ?_
      refine ax_iconst B (v := (-1)) (by decide) d_V_endAuction_47 ?_
      refine ax_icmp_ne B (tgt := 58) d_V_endAuction_48 (by decide) hf (fun hf => ?_) (fun hf => ?_)
      · refine ax_aload_n B d_V_endAuction_51 rfl (j := 2) rfl ?_
        refine ax_getI B d_V_endAuction_52 k_V_171 rfl hf (fun x5 hf => ?_)
        refine ax_goto B (tgt := 64) d_V_endAuction_55 (by decide) ?_
        refine ax_sub [1, 2] rfl ?_
        exact K_V_endAuction_64 B hn hR hE hag q4.2 v0 v1 x5 v1 hf
      · refine ax_aload_n B d_V_endAuction_58 rfl (j := 2) rfl ?_
        refine ax_getR B d_V_endAuction_59 k_V_201 rfl hf (fun x6 hf => ?_)
        refine ax_iload_n B d_V_endAuction_62 rfl (j := 0) rfl ?_
        refine ax_iald B d_V_endAuction_63 (t := 0) (by decide) rfl hf (fun x7 hf => ?_)
        refine ax_sub [1, 2] rfl ?_
        exact K_V_endAuction_64 B hn hR hE hag q4.2 v0 v1 x7 v1 hf
  · exact K_V_endAuction_67 B hn hR hE hag q1 v0 v1 hf
def f_V_endAuction (M : ax_M) (x0 : Option Nat) (p0 : Option Nat) : Option (ax_M) := (ax_gi M 2 0 p0).bind (fun x1 => if x1 = 3 then some M else (ax_ob M 2 p0).bind (fun _ => (f_A_isSealed M p0 ).bind (fun q2 => if q2.1 = 0 then G_V_endAuction_21 q2.2 x0 p0 else (ax_ob q2.2 0 x0).bind (fun _ => (f_V_payUnopened q2.2 x0 p0).bind (fun q3 => G_V_endAuction_21 q3 x0 p0)))))
set_option maxRecDepth 100000 in
set_option maxHeartbeats 4000000 in
theorem c_V_endAuction (l : Launch) (G : ax_G) (M : ax_M) (x0 : Option Nat) (p0 : Option Nat) {q : ax_M} (hf : f_V_endAuction M x0 p0 = some q) : ax_C l G y_V_endAuction b_V_endAuction 3 none [] 3 0 0 [ax_O x0, ax_O p0] M none q := by
  refine ax_ofW (by decide +kernel) (lv0 := [(0, ax_O x0), (1, ax_O p0)]) (Nat.le_of_ble_eq_true rfl) rfl ?_
  intro Z ad B hin _ _ hn hR hE
  have hag : ∀ a, a ∉ ([] : List Nat) → ad a = ad a := fun _ _ => rfl
  unfold f_V_endAuction at hf
  refine ax_aload_n B d_V_endAuction_0 rfl (j := 1) rfl ?_
  refine ax_getI B d_V_endAuction_1 k_V_174 rfl hf (fun x1 hf => ?_)
  refine ax_iconst B (v := 3) (by decide) d_V_endAuction_4 ?_
  refine ax_icmp_ne B (tgt := 9) d_V_endAuction_5 (by decide) hf (fun hf => ?_) (fun hf => ?_)
  · exact ax_vreturn B hE d_V_endAuction_8 hf hag (by decide) (by decide)
  · refine ax_aload_n B d_V_endAuction_9 rfl (j := 1) rfl ?_
    refine ax_cVV B hR (as := []) (V := fun q => ax_I q.1) (N := fun q => q.2) d_V_endAuction_10 l_V_211 m_A_isSealed hf (fun q h => c_A_isSealed _ _ _ _ h) rfl rfl (by decide) (by decide) (by decide) (by decide) (Nat.le_of_ble_eq_true rfl) (fun q2 hf => ?_)
    refine ax_if_eq B (tgt := 21) d_V_endAuction_13 (by decide) hf (fun hf => ?_) (fun hf => ?_)
    · exact K_V_endAuction_21 B hn hR hE hag q2.2 x0 p0 hf
    · refine ax_aload_n B d_V_endAuction_16 rfl (j := 0) rfl ?_
      refine ax_aload_n B d_V_endAuction_17 rfl (j := 1) rfl ?_
      refine ax_cVN B hR (as := [ax_O p0]) (N := fun q => q) d_V_endAuction_18 l_V_286 m_V_payUnopened hf (fun q h => c_V_payUnopened _ _ _ _ _ h) rfl rfl (by decide) (by decide) (by decide) (by decide) (Nat.le_of_ble_eq_true rfl) (fun q3 hf => ?_)
      exact K_V_endAuction_21 B hn hR hE hag q3 x0 p0 hf
def G_V_endAuctions_35 (rec2 : ax_M → Option Nat → Int32 → Option (ax_M)) (M : ax_M) (v0 : Option Nat) (v1 : Int32) : Option (ax_M) := (some (v1 + 1)).bind (fun y1 => rec2 M v0 y1)
set_option maxRecDepth 100000 in
set_option maxHeartbeats 4000000 in
theorem K_V_endAuctions_35 {Z : ax_Z} {ad0 ad : Nat → Nat} {q : ax_M} (B : ax_B Z "VoteAuctions" b_V_endAuctions none) (hn : Z.2.2.2.2.2.2.2.2.2.2.2.1 = 3) (hR : ax_R Z 4 0 0) (hE : ax_E Z ad0 [] 0 0 none q) (hag : ∀ a, a ∉ ([] : List Nat) → ad a = ad0 a) {rec2 : ax_M → Option Nat → Int32 → Option (ax_M)} (hr2 : ∀ (M : ax_M) (v0 : Option Nat) (v1 : Int32), rec2 M v0 v1 = some q → ax_W Z ad 0 0 2 [(0, ax_O v0), (1, ax_I v1)] [] M) : ∀ (M : ax_M) (v0 : Option Nat) (v1 : Int32), G_V_endAuctions_35 rec2 M v0 v1 = some q → ax_W Z ad 0 0 35 [(0, ax_O v0), (1, ax_I v1)] [] M := by
  intro M v0 v1 hf
  unfold G_V_endAuctions_35 at hf
  refine ax_iincN B (j := 1) (lv' := fun y => [(1, ax_I y), (0, ax_O v0)]) d_V_endAuctions_35 rfl hf rfl (by rw [hn]; decide) (fun _ => rfl) (fun y1 hf => ?_)
  refine ax_goto B (tgt := 2) d_V_endAuctions_38 (by decide) ?_
  refine ax_sub [1, 0] rfl ?_
  exact hr2 M v0 y1 hf
def G_V_endAuctions_2 (rec2 : ax_M → Option Nat → Int32 → Option (ax_M)) (M : ax_M) (v0 : Option Nat) (v1 : Int32) : Option (ax_M) := if 6 ≤ v1 then some M else (ax_gr M 0 10 v0).bind (fun x1 => (ax_rr M 4 x1 v1).bind (fun x2 => if x2 = none then G_V_endAuctions_35 rec2 M v0 v1 else (ax_gi M 2 5 x2).bind (fun x3 => (ax_gi M 0 0 v0).bind (fun x4 => if x3 = x4 then (ax_ob M 0 v0).bind (fun _ => (f_V_endAuction M v0 x2).bind (fun q5 => G_V_endAuctions_35 rec2 q5 v0 v1)) else G_V_endAuctions_35 rec2 M v0 v1))))
set_option maxRecDepth 100000 in
set_option maxHeartbeats 4000000 in
theorem K_V_endAuctions_2 {Z : ax_Z} {ad0 ad : Nat → Nat} {q : ax_M} (B : ax_B Z "VoteAuctions" b_V_endAuctions none) (hn : Z.2.2.2.2.2.2.2.2.2.2.2.1 = 3) (hR : ax_R Z 4 0 0) (hE : ax_E Z ad0 [] 0 0 none q) (hag : ∀ a, a ∉ ([] : List Nat) → ad a = ad0 a) {rec2 : ax_M → Option Nat → Int32 → Option (ax_M)} (hr2 : ∀ (M : ax_M) (v0 : Option Nat) (v1 : Int32), rec2 M v0 v1 = some q → ax_W Z ad 0 0 2 [(0, ax_O v0), (1, ax_I v1)] [] M) : ∀ (M : ax_M) (v0 : Option Nat) (v1 : Int32), G_V_endAuctions_2 rec2 M v0 v1 = some q → ax_W Z ad 0 0 2 [(0, ax_O v0), (1, ax_I v1)] [] M := by
  intro M v0 v1 hf
  unfold G_V_endAuctions_2 at hf
  refine ax_iload_n B d_V_endAuctions_2 rfl (j := 1) rfl ?_
  refine ax_bipush B (v := 6) (by decide) d_V_endAuctions_3 ?_
  refine ax_icmp_ge B (tgt := 41) d_V_endAuctions_5 (by decide) hf (fun hf => ?_) (fun hf => ?_)
  · exact ax_vreturn B hE d_V_endAuctions_41 hf hag (by decide) (by decide)
  · refine ax_aload_n B d_V_endAuctions_8 rfl (j := 0) rfl ?_
    refine ax_getR B d_V_endAuctions_9 k_V_31 rfl hf (fun x1 hf => ?_)
    refine ax_iload_n B d_V_endAuctions_12 rfl (j := 1) rfl ?_
    refine ax_aald B d_V_endAuctions_13 (t := 4) (C := "VoteAuctions$Auction") (by decide) rfl hf (fun x2 hf => ?_)
    refine ax_astore_n B (lv' := [(2, ax_O x2), (0, ax_O v0), (1, ax_I v1)]) d_V_endAuctions_14 rfl (by rw [hn]; decide) rfl ?_
    refine ax_aload_n B d_V_endAuctions_15 rfl (j := 0) rfl ?_
    refine ax_ifnull B (tgt := 35) d_V_endAuctions_16 (by decide) hf (fun hf => ?_) (fun hf => ?_)
    · refine ax_sub [1, 2] rfl ?_
      exact K_V_endAuctions_35 B hn hR hE hag hr2 M v0 v1 hf
    · refine ax_aload_n B d_V_endAuctions_19 rfl (j := 0) rfl ?_
      refine ax_getI B d_V_endAuctions_20 k_V_175 rfl hf (fun x3 hf => ?_)
      refine ax_aload_n B d_V_endAuctions_23 rfl (j := 1) rfl ?_
      refine ax_getI B d_V_endAuctions_24 k_V_66 rfl hf (fun x4 hf => ?_)
      refine ax_icmp_ne B (tgt := 35) d_V_endAuctions_27 (by decide) hf (fun hf => ?_) (fun hf => ?_)
      · refine ax_aload_n B d_V_endAuctions_30 rfl (j := 1) rfl ?_
        refine ax_aload_n B d_V_endAuctions_31 rfl (j := 0) rfl ?_
        refine ax_cVN B hR (as := [ax_O x2]) (N := fun q => q) d_V_endAuctions_32 l_V_282 m_V_endAuction hf (fun q h => c_V_endAuction _ _ _ _ _ h) rfl rfl (by decide) (by decide) (by decide) (by decide) (Nat.le_of_ble_eq_true rfl) (fun q5 hf => ?_)
        refine ax_sub [1, 2] rfl ?_
        exact K_V_endAuctions_35 B hn hR hE hag hr2 q5 v0 v1 hf
      · refine ax_sub [1, 2] rfl ?_
        exact K_V_endAuctions_35 B hn hR hE hag hr2 M v0 v1 hf
def F_V_endAuctions_2  : Nat → ax_M → Option Nat → Int32 → Option (ax_M)
  | 0 => fun _ _ _ => none
  | n + 1 => G_V_endAuctions_2 (F_V_endAuctions_2  n)
set_option maxRecDepth 100000 in
set_option maxHeartbeats 4000000 in
theorem L_V_endAuctions_2 {Z : ax_Z} {ad0 ad : Nat → Nat} {q : ax_M} (B : ax_B Z "VoteAuctions" b_V_endAuctions none) (hn : Z.2.2.2.2.2.2.2.2.2.2.2.1 = 3) (hR : ax_R Z 4 0 0) (hE : ax_E Z ad0 [] 0 0 none q) (hag : ∀ a, a ∉ ([] : List Nat) → ad a = ad0 a)   : ∀ (n : Nat) (M : ax_M) (v0 : Option Nat) (v1 : Int32), F_V_endAuctions_2  n M v0 v1 = some q → ax_W Z ad 0 0 2 [(0, ax_O v0), (1, ax_I v1)] [] M := by
  intro n
  induction n with
  | zero => intro M v0 v1 hf; cases hf
  | succ n ih => exact K_V_endAuctions_2 B hn hR hE hag ih
def f_V_endAuctions (M : ax_M) (x0 : Option Nat) : Option (ax_M) := F_V_endAuctions_2 64 M x0 0
set_option maxRecDepth 100000 in
set_option maxHeartbeats 4000000 in
theorem c_V_endAuctions (l : Launch) (G : ax_G) (M : ax_M) (x0 : Option Nat) {q : ax_M} (hf : f_V_endAuctions M x0 = some q) : ax_C l G y_V_endAuctions b_V_endAuctions 3 none [] 4 0 0 [ax_O x0] M none q := by
  refine ax_ofW (by decide +kernel) (lv0 := [(0, ax_O x0)]) (Nat.le_of_ble_eq_true rfl) rfl ?_
  intro Z ad B hin _ _ hn hR hE
  have hag : ∀ a, a ∉ ([] : List Nat) → ad a = ad a := fun _ _ => rfl
  unfold f_V_endAuctions at hf
  refine ax_iconst B (v := 0) (by decide) d_V_endAuctions_0 ?_
  refine ax_istore_n B (lv' := [(1, ax_I 0), (0, ax_O x0)]) d_V_endAuctions_1 rfl (by rw [hn]; decide) rfl ?_
  refine ax_sub [1, 0] rfl ?_
  exact L_V_endAuctions_2 B hn hR hE hag 64 M x0 0 hf
def G_V_tick_15 (rec15 : ax_M → Option Nat → Int32 → Int32 → Option (Int32 × ax_M)) (M : ax_M) (v0 : Option Nat) (v1 : Int32) (v2 : Int32) : Option (Int32 × ax_M) := if v1 ≤ v2 then (ax_gi M 0 0 v0).bind (fun x1 => some (x1, M)) else (ax_gi M 0 0 v0).bind (fun x2 => (ax_pi M 0 0 v0 (x2 + 1)).bind (fun M3 => (ax_ob M3 0 v0).bind (fun _ => (f_V_endQuestions M3 v0 ).bind (fun q4 => (ax_ob q4 0 v0).bind (fun _ => (f_V_endAuctions q4 v0 ).bind (fun q5 => (some (v2 + 1)).bind (fun y6 => rec15 q5 v0 v1 y6)))))))
set_option maxRecDepth 100000 in
set_option maxHeartbeats 4000000 in
theorem K_V_tick_15 {Z : ax_Z} {ad0 ad : Nat → Nat} {q : Int32 × ax_M} (B : ax_B Z "VoteAuctions" b_V_tick (some .int)) (hn : Z.2.2.2.2.2.2.2.2.2.2.2.1 = 3) (hR : ax_R Z 5 0 0) (hE : ax_E Z ad0 [] 0 0 (some (ax_I q.1)) q.2) (hag : ∀ a, a ∉ ([] : List Nat) → ad a = ad0 a) {rec15 : ax_M → Option Nat → Int32 → Int32 → Option (Int32 × ax_M)} (hr15 : ∀ (M : ax_M) (v0 : Option Nat) (v1 : Int32) (v2 : Int32), rec15 M v0 v1 v2 = some q → ax_W Z ad 0 0 15 [(0, ax_O v0), (1, ax_I v1), (2, ax_I v2)] [] M) : ∀ (M : ax_M) (v0 : Option Nat) (v1 : Int32) (v2 : Int32), G_V_tick_15 rec15 M v0 v1 v2 = some q → ax_W Z ad 0 0 15 [(0, ax_O v0), (1, ax_I v1), (2, ax_I v2)] [] M := by
  intro M v0 v1 v2 hf
  unfold G_V_tick_15 at hf
  refine ax_iload_n B d_V_tick_15 rfl (j := 2) rfl ?_
  refine ax_iload_n B d_V_tick_16 rfl (j := 1) rfl ?_
  refine ax_icmp_ge B (tgt := 44) d_V_tick_17 (by decide) hf (fun hf => ?_) (fun hf => ?_)
  · refine ax_aload_n B d_V_tick_44 rfl (j := 0) rfl ?_
    refine ax_getI B d_V_tick_45 k_V_66 rfl hf (fun x1 hf => ?_)
    exact ax_ireturn B hE d_V_tick_48 hf rfl hag (by decide) (by decide)
  · refine ax_aload_n B d_V_tick_20 rfl (j := 0) rfl ?_
    refine ax_dup B rfl d_V_tick_21 ?_
    refine ax_getI B d_V_tick_22 k_V_66 rfl hf (fun x2 hf => ?_)
    refine ax_iconst B (v := 1) (by decide) d_V_tick_25 ?_
    refine ax_iadd B d_V_tick_26 ?_
    refine ax_putI B d_V_tick_27 k_V_66 rfl rfl rfl rfl hf (fun M3 hf => ?_)
    refine ax_aload_n B d_V_tick_30 rfl (j := 0) rfl ?_
    refine ax_cVN B hR (as := []) (N := fun q => q) d_V_tick_31 l_V_69 m_V_endQuestions hf (fun q h => c_V_endQuestions _ _ _ _ h) rfl rfl (by decide) (by decide) (by decide) (by decide) (Nat.le_of_ble_eq_true rfl) (fun q4 hf => ?_)
    refine ax_aload_n B d_V_tick_34 rfl (j := 0) rfl ?_
    refine ax_cVN B hR (as := []) (N := fun q => q) d_V_tick_35 l_V_72 m_V_endAuctions hf (fun q h => c_V_endAuctions _ _ _ _ h) rfl rfl (by decide) (by decide) (by decide) (by decide) (Nat.le_of_ble_eq_true rfl) (fun q5 hf => ?_)
    refine ax_iincN B (j := 2) (lv' := fun y => [(2, ax_I y), (0, ax_O v0), (1, ax_I v1)]) d_V_tick_38 rfl hf rfl (by rw [hn]; decide) (fun _ => rfl) (fun y6 hf => ?_)
    refine ax_goto B (tgt := 15) d_V_tick_41 (by decide) ?_
    refine ax_sub [1, 2, 0] rfl ?_
    exact hr15 q5 v0 v1 y6 hf
def F_V_tick_15  : Nat → ax_M → Option Nat → Int32 → Int32 → Option (Int32 × ax_M)
  | 0 => fun _ _ _ _ => none
  | n + 1 => G_V_tick_15 (F_V_tick_15  n)
set_option maxRecDepth 100000 in
set_option maxHeartbeats 4000000 in
theorem L_V_tick_15 {Z : ax_Z} {ad0 ad : Nat → Nat} {q : Int32 × ax_M} (B : ax_B Z "VoteAuctions" b_V_tick (some .int)) (hn : Z.2.2.2.2.2.2.2.2.2.2.2.1 = 3) (hR : ax_R Z 5 0 0) (hE : ax_E Z ad0 [] 0 0 (some (ax_I q.1)) q.2) (hag : ∀ a, a ∉ ([] : List Nat) → ad a = ad0 a)   : ∀ (n : Nat) (M : ax_M) (v0 : Option Nat) (v1 : Int32) (v2 : Int32), F_V_tick_15  n M v0 v1 v2 = some q → ax_W Z ad 0 0 15 [(0, ax_O v0), (1, ax_I v1), (2, ax_I v2)] [] M := by
  intro n
  induction n with
  | zero => intro M v0 v1 v2 hf; cases hf
  | succ n ih => exact K_V_tick_15 B hn hR hE hag ih
def f_V_tick (M : ax_M) (x0 : Option Nat) (p0 : Int32) : Option (Int32 × ax_M) := (f_V_isOutside M p0 0 50).bind (fun q1 => if q1.1 = 0 then F_V_tick_15 64 q1.2 x0 p0 0 else some ((-2), q1.2))
set_option maxRecDepth 100000 in
set_option maxHeartbeats 4000000 in
theorem c_V_tick (l : Launch) (G : ax_G) (M : ax_M) (x0 : Option Nat) (p0 : Int32) {q : Int32 × ax_M} (hf : f_V_tick M x0 p0 = some q) : ax_C l G y_V_tick b_V_tick 3 (some .int) [] 5 0 0 [ax_O x0, ax_I p0] M (some (ax_I q.1)) q.2 := by
  refine ax_ofW (by decide +kernel) (lv0 := [(0, ax_O x0), (1, ax_I p0)]) (Nat.le_of_ble_eq_true rfl) rfl ?_
  intro Z ad B hin _ _ hn hR hE
  have hag : ∀ a, a ∉ ([] : List Nat) → ad a = ad a := fun _ _ => rfl
  unfold f_V_tick at hf
  refine ax_iload_n B d_V_tick_0 rfl (j := 1) rfl ?_
  refine ax_iconst B (v := 0) (by decide) d_V_tick_1 ?_
  refine ax_bipush B (v := 50) (by decide) d_V_tick_2 ?_
  refine ax_cSV B hR (as := [ax_I p0, ax_I 0, ax_I 50]) (V := fun q => ax_I q.1) (N := fun q => q.2) d_V_tick_4 l_V_44 m_V_isOutside hf (fun q h => c_V_isOutside _ _ _ _ _ _ h) rfl rfl (by decide) (by decide) (by decide) (by decide) (Nat.le_of_ble_eq_true rfl) (fun q1 hf => ?_)
  refine ax_if_eq B (tgt := 13) d_V_tick_7 (by decide) hf (fun hf => ?_) (fun hf => ?_)
  · refine ax_iconst B (v := 0) (by decide) d_V_tick_13 ?_
    refine ax_istore_n B (lv' := [(2, ax_I 0), (0, ax_O x0), (1, ax_I p0)]) d_V_tick_14 rfl (by rw [hn]; decide) rfl ?_
    refine ax_sub [1, 2, 0] rfl ?_
    exact L_V_tick_15 B hn hR hE hag 64 q1.2 x0 p0 0 hf
  · refine ax_bipush B (v := (-2)) (by decide) d_V_tick_10 ?_
    exact ax_ireturn B hE d_V_tick_12 hf rfl hag (by decide) (by decide)
def f_V_mark (M : ax_M) (x0 : Option Nat) (p0 : Int32) (p1 : Int32) (p2 : Int32) : Option (Int64 × ax_M) := (some (((p0.toInt64) * (-7046029254386353131)) + (p1.toInt64))).bind (fun y1 => (some (((y1 ^^^ ((y1.toUInt64 >>> ((31 : Int32).toInt64.toUInt64 &&& Int64.toUInt64 63)).toInt64)) * (-4658895280553007687)) + (p2.toInt64))).bind (fun y2 => some ((y2 ^^^ ((y2.toUInt64 >>> ((29 : Int32).toInt64.toUInt64 &&& Int64.toUInt64 63)).toInt64)), M)))
set_option maxRecDepth 100000 in
set_option maxHeartbeats 4000000 in
theorem c_V_mark (l : Launch) (G : ax_G) (M : ax_M) (x0 : Option Nat) (p0 : Int32) (p1 : Int32) (p2 : Int32) {q : Int64 × ax_M} (hf : f_V_mark M x0 p0 p1 p2 = some q) : ax_C l G y_V_mark b_V_mark 6 (some .long) [] 0 0 0 [ax_O x0, ax_I p0, ax_I p1, ax_I p2] M (some (ax_L q.1)) q.2 := by
  refine ax_ofW (by decide +kernel) (lv0 := [(0, ax_O x0), (1, ax_I p0), (2, ax_I p1), (3, ax_I p2)]) (Nat.le_of_ble_eq_true rfl) rfl ?_
  intro Z ad B hin _ _ hn hR hE
  have hag : ∀ a, a ∉ ([] : List Nat) → ad a = ad a := fun _ _ => rfl
  unfold f_V_mark at hf
  refine ax_iload_n B d_V_mark_0 rfl (j := 1) rfl ?_
  refine ax_i2l B d_V_mark_1 ?_
  refine ax_ldc2 B (v := (-7046029254386353131)) n_V_75 d_V_mark_2 ?_
  refine ax_lmul B d_V_mark_5 ?_
  refine ax_iload_n B d_V_mark_6 rfl (j := 2) rfl ?_
  refine ax_i2l B d_V_mark_7 ?_
  refine ax_ladd B d_V_mark_8 ?_
  refine ax_nmL hf (fun y1 hf => ?_)
  refine ax_lstore B (lv' := [(4, ax_L y1), (0, ax_O x0), (1, ax_I p0), (2, ax_I p1), (3, ax_I p2)]) d_V_mark_9 (by rw [hn]; decide) rfl ?_
  refine ax_lload B (j := 0) d_V_mark_11 rfl ?_
  refine ax_lload B (j := 0) d_V_mark_13 rfl ?_
  refine ax_bipush B (v := 31) (by decide) d_V_mark_15 ?_
  refine ax_lushr B d_V_mark_17 ?_
  refine ax_lxor B d_V_mark_18 ?_
  refine ax_ldc2 B (v := (-4658895280553007687)) n_V_77 d_V_mark_19 ?_
  refine ax_lmul B d_V_mark_22 ?_
  refine ax_iload_n B d_V_mark_23 rfl (j := 4) rfl ?_
  refine ax_i2l B d_V_mark_24 ?_
  refine ax_ladd B d_V_mark_25 ?_
  refine ax_nmL hf (fun y2 hf => ?_)
  refine ax_lstore B (lv' := [(4, ax_L y2), (0, ax_O x0), (1, ax_I p0), (2, ax_I p1), (3, ax_I p2)]) d_V_mark_26 (by rw [hn]; decide) rfl ?_
  refine ax_lload B (j := 0) d_V_mark_28 rfl ?_
  refine ax_lload B (j := 0) d_V_mark_30 rfl ?_
  refine ax_bipush B (v := 29) (by decide) d_V_mark_32 ?_
  refine ax_lushr B d_V_mark_34 ?_
  refine ax_lxor B d_V_mark_35 ?_
  exact ax_lreturn B hE d_V_mark_36 hf hag (by decide) (by decide)
def G_Q_init_74 (g : Nat) (rec74 : ax_M → Option Nat → Int32 → Option (ax_M)) (M : ax_M) (v0 : Option Nat) (v6 : Int32) : Option (ax_M) := if 8 ≤ v6 then (ax_pi M 1 10 v0 (-1)).bind (fun M1 => some M1) else (ax_gr M 1 6 v0).bind (fun x2 => (ax_ti M 0 x2 v6 (-1)).bind (fun M3 => (ax_gr M3 1 9 v0).bind (fun x4 => (ax_ti M3 0 x4 v6 (-1)).bind (fun M5 => (some (v6 + 1)).bind (fun y6 => rec74 M5 v0 y6)))))
set_option maxRecDepth 100000 in
set_option maxHeartbeats 4000000 in
theorem K_Q_init_74 {Z : ax_Z} {ad0 ad : Nat → Nat} {g : Nat} {q : ax_M} (B : ax_B Z "VoteAuctions$Question" b_Q_init none) (hn : Z.2.2.2.2.2.2.2.2.2.2.2.1 = 7) (hR : ax_R Z 1 5 40) (hE : ax_E Z ad0 [g + 1, g + 2, g + 3, g + 4, g + 5] 5 40 none q) (hin : Z.2.2.2.2.2.2.2.2.1.name = "<init>") (hag : ∀ a, a ∉ ([g + 1, g + 2, g + 3, g + 4, g + 5] : List Nat) → ad a = ad0 a) {rec74 : ax_M → Option Nat → Int32 → Option (ax_M)} (hr74 : ∀ (M : ax_M) (v0 : Option Nat) (v6 : Int32), rec74 M v0 v6 = some q → ax_W Z ad 5 40 74 [(0, ax_O v0), (6, ax_I v6)] [] M) : ∀ (M : ax_M) (v0 : Option Nat) (v6 : Int32), G_Q_init_74 g rec74 M v0 v6 = some q → ax_W Z ad 5 40 74 [(0, ax_O v0), (6, ax_I v6)] [] M := by
  intro M v0 v6 hf
  unfold G_Q_init_74 at hf
  refine ax_iload B (j := 1) d_Q_init_74 rfl ?_
  refine ax_bipush B (v := 8) (by decide) d_Q_init_76 ?_
  refine ax_icmp_ge B (tgt := 103) d_Q_init_78 (by decide) hf (fun hf => ?_) (fun hf => ?_)
  · refine ax_aload_n B d_Q_init_103 rfl (j := 0) rfl ?_
    refine ax_iconst B (v := (-1)) (by decide) d_Q_init_104 ?_
    refine ax_putI B d_Q_init_105 k_Q_45 rfl rfl rfl rfl hf (fun M1 hf => ?_)
    exact ax_vreturn B hE d_Q_init_108 hf hag (by decide) (by decide)
  · refine ax_aload_n B d_Q_init_81 rfl (j := 0) rfl ?_
    refine ax_getR B d_Q_init_82 k_Q_31 rfl hf (fun x2 hf => ?_)
    refine ax_iload B (j := 1) d_Q_init_85 rfl ?_
    refine ax_iconst B (v := (-1)) (by decide) d_Q_init_87 ?_
    refine ax_iast B d_Q_init_88 (t := 0) (by decide) rfl hf (fun M3 hf => ?_)
    refine ax_aload_n B d_Q_init_89 rfl (j := 0) rfl ?_
    refine ax_getR B d_Q_init_90 k_Q_42 rfl hf (fun x4 hf => ?_)
    refine ax_iload B (j := 1) d_Q_init_93 rfl ?_
    refine ax_iconst B (v := (-1)) (by decide) d_Q_init_95 ?_
    refine ax_iast B d_Q_init_96 (t := 0) (by decide) rfl hf (fun M5 hf => ?_)
    refine ax_iincN B (j := 1) (lv' := fun y => [(6, ax_I y), (0, ax_O v0)]) d_Q_init_97 rfl hf rfl (by rw [hn]; decide) (fun _ => rfl) (fun y6 hf => ?_)
    refine ax_goto B (tgt := 74) d_Q_init_100 (by decide) ?_
    refine ax_sub [1, 0] rfl ?_
    exact hr74 M5 v0 y6 hf
def F_Q_init_74 (g : Nat)  : Nat → ax_M → Option Nat → Int32 → Option (ax_M)
  | 0 => fun _ _ _ => none
  | n + 1 => G_Q_init_74 g (F_Q_init_74 g  n)
set_option maxRecDepth 100000 in
set_option maxHeartbeats 4000000 in
theorem L_Q_init_74 {Z : ax_Z} {ad0 ad : Nat → Nat} {g : Nat} {q : ax_M} (B : ax_B Z "VoteAuctions$Question" b_Q_init none) (hn : Z.2.2.2.2.2.2.2.2.2.2.2.1 = 7) (hR : ax_R Z 1 5 40) (hE : ax_E Z ad0 [g + 1, g + 2, g + 3, g + 4, g + 5] 5 40 none q) (hin : Z.2.2.2.2.2.2.2.2.1.name = "<init>") (hag : ∀ a, a ∉ ([g + 1, g + 2, g + 3, g + 4, g + 5] : List Nat) → ad a = ad0 a)   : ∀ (n : Nat) (M : ax_M) (v0 : Option Nat) (v6 : Int32), F_Q_init_74 g  n M v0 v6 = some q → ax_W Z ad 5 40 74 [(0, ax_O v0), (6, ax_I v6)] [] M := by
  intro n
  induction n with
  | zero => intro M v0 v6 hf; cases hf
  | succ n ih => exact K_Q_init_74 B hn hR hE hin hag ih
def f_Q_init (g : Nat) (M : ax_M) (o : Nat) (p0 : Int32) (p1 : Int32) (p2 : Int32) (p3 : Int32) (p4 : Int32) : Option (ax_M) := (ax_pi M 1 0 (some o) p0).bind (fun M1 => (ax_pi M1 1 1 (some o) p1).bind (fun M2 => (ax_pi M2 1 2 (some o) p2).bind (fun M3 => (ax_pi M3 1 3 (some o) p3).bind (fun M4 => (ax_pi M4 1 4 (some o) p4).bind (fun M5 => (ax_nw M5 (g + 1) (.inr (0, 8)) [(some o)]).bind (fun M6 => (ax_pr M6 1 5 (some o) (some (g + 1))).bind (fun M8 => (ax_nw M8 (g + 2) (.inr (0, 8)) [(some o)]).bind (fun M9 => (ax_pr M9 1 6 (some o) (some (g + 2))).bind (fun M11 => (ax_nw M11 (g + 3) (.inr (2, 8)) [(some o)]).bind (fun M12 => (ax_pr M12 1 7 (some o) (some (g + 3))).bind (fun M14 => (ax_nw M14 (g + 4) (.inr (1, 8)) [(some o)]).bind (fun M15 => (ax_pr M15 1 8 (some o) (some (g + 4))).bind (fun M17 => (ax_nw M17 (g + 5) (.inr (0, 8)) [(some o)]).bind (fun M18 => (ax_pr M18 1 9 (some o) (some (g + 5))).bind (fun M20 => F_Q_init_74 g 64 M20 (some o) 0)))))))))))))))
set_option maxRecDepth 100000 in
set_option maxHeartbeats 4000000 in
theorem c_Q_init (l : Launch) (G : ax_G) (g : Nat) (M : ax_M) (o : Nat) (p0 : Int32) (p1 : Int32) (p2 : Int32) (p3 : Int32) (p4 : Int32) {q : ax_M} (hf : f_Q_init g M o p0 p1 p2 p3 p4 = some q) : ax_C l G y_Q_init b_Q_init 7 none [g + 1, g + 2, g + 3, g + 4, g + 5] 1 5 40 [ax_O (some o), ax_I p0, ax_I p1, ax_I p2, ax_I p3, ax_I p4] M none q := by
  refine ax_ofW (by decide +kernel) (lv0 := [(0, ax_O (some o)), (1, ax_I p0), (2, ax_I p1), (3, ax_I p2), (4, ax_I p3), (5, ax_I p4)]) (Nat.le_of_ble_eq_true rfl) rfl ?_
  intro Z ad B hin _ _ hn hR hE
  have hag : ∀ a, a ∉ ([g + 1, g + 2, g + 3, g + 4, g + 5] : List Nat) → ad a = ad a := fun _ _ => rfl
  have hin : Z.2.2.2.2.2.2.2.2.1.name = "<init>" := hin
  unfold f_Q_init at hf
  refine ax_aload_n B d_Q_init_0 rfl (j := 0) rfl ?_
  refine ax_objInit B hR d_Q_init_1 l_Q_3 (by decide) (Nat.le_of_ble_eq_true rfl) ?_
  refine ax_aload_n B d_Q_init_4 rfl (j := 0) rfl ?_
  refine ax_iload_n B d_Q_init_5 rfl (j := 1) rfl ?_
  refine ax_putFI B d_Q_init_6 kf_Q_9 hin rfl rfl rfl hf (fun M1 hf => ?_)
  refine ax_aload_n B d_Q_init_9 rfl (j := 0) rfl ?_
  refine ax_iload_n B d_Q_init_10 rfl (j := 2) rfl ?_
  refine ax_putFI B d_Q_init_11 kf_Q_15 hin rfl rfl rfl hf (fun M2 hf => ?_)
  refine ax_aload_n B d_Q_init_14 rfl (j := 0) rfl ?_
  refine ax_iload_n B d_Q_init_15 rfl (j := 3) rfl ?_
  refine ax_putFI B d_Q_init_16 kf_Q_18 hin rfl rfl rfl hf (fun M3 hf => ?_)
  refine ax_aload_n B d_Q_init_19 rfl (j := 0) rfl ?_
  refine ax_iload B (j := 4) d_Q_init_20 rfl ?_
  refine ax_putFI B d_Q_init_22 kf_Q_21 hin rfl rfl rfl hf (fun M4 hf => ?_)
  refine ax_aload_n B d_Q_init_25 rfl (j := 0) rfl ?_
  refine ax_iload B (j := 5) d_Q_init_26 rfl ?_
  refine ax_putFI B d_Q_init_28 kf_Q_24 hin rfl rfl rfl hf (fun M5 hf => ?_)
  refine ax_aload_n B d_Q_init_31 rfl (j := 0) rfl ?_
  refine ax_bipush B (v := 8) (by decide) d_Q_init_32 ?_
  refine ax_newarray B hR (t := 0) (N := 8) d_Q_init_34 rfl (by decide) (by decide) (by decide) (by decide) (ax_cvr (by simp) (ax_cvi (ax_cvi (ax_cvi (ax_cvi (ax_cvi ax_cv0)))))) (ax_cvr (by simp) ax_cv0) (by decide) (by decide) hf (fun M6 ad7 hag2 hf => ?_)
  replace hag := ax_ag (gs := [g + 1, g + 2, g + 3, g + 4, g + 5]) hag2 (by simp) hag
  refine ax_putFR B d_Q_init_36 kf_Q_27 hin rfl hf (fun M8 hf => ?_)
  refine ax_aload_n B d_Q_init_39 rfl (j := 0) rfl ?_
  refine ax_bipush B (v := 8) (by decide) d_Q_init_40 ?_
  refine ax_newarray B hR (t := 0) (N := 8) d_Q_init_42 rfl (by decide) (by decide) (by decide) (by decide) (ax_cvr (by simp) (ax_cvi (ax_cvi (ax_cvi (ax_cvi (ax_cvi ax_cv0)))))) (ax_cvr (by simp) ax_cv0) (by decide) (by decide) hf (fun M9 ad10 hag2 hf => ?_)
  replace hag := ax_ag (gs := [g + 1, g + 2, g + 3, g + 4, g + 5]) hag2 (by simp) hag
  refine ax_putFR B d_Q_init_44 kf_Q_31 hin rfl hf (fun M11 hf => ?_)
  refine ax_aload_n B d_Q_init_47 rfl (j := 0) rfl ?_
  refine ax_bipush B (v := 8) (by decide) d_Q_init_48 ?_
  refine ax_newarray B hR (t := 2) (N := 8) d_Q_init_50 rfl (by decide) (by decide) (by decide) (by decide) (ax_cvr (by simp) (ax_cvi (ax_cvi (ax_cvi (ax_cvi (ax_cvi ax_cv0)))))) (ax_cvr (by simp) ax_cv0) (by decide) (by decide) hf (fun M12 ad13 hag2 hf => ?_)
  replace hag := ax_ag (gs := [g + 1, g + 2, g + 3, g + 4, g + 5]) hag2 (by simp) hag
  refine ax_putFR B d_Q_init_52 kf_Q_34 hin rfl hf (fun M14 hf => ?_)
  refine ax_aload_n B d_Q_init_55 rfl (j := 0) rfl ?_
  refine ax_bipush B (v := 8) (by decide) d_Q_init_56 ?_
  refine ax_newarray B hR (t := 1) (N := 8) d_Q_init_58 rfl (by decide) (by decide) (by decide) (by decide) (ax_cvr (by simp) (ax_cvi (ax_cvi (ax_cvi (ax_cvi (ax_cvi ax_cv0)))))) (ax_cvr (by simp) ax_cv0) (by decide) (by decide) hf (fun M15 ad16 hag2 hf => ?_)
  replace hag := ax_ag (gs := [g + 1, g + 2, g + 3, g + 4, g + 5]) hag2 (by simp) hag
  refine ax_putFR B d_Q_init_60 kf_Q_38 hin rfl hf (fun M17 hf => ?_)
  refine ax_aload_n B d_Q_init_63 rfl (j := 0) rfl ?_
  refine ax_bipush B (v := 8) (by decide) d_Q_init_64 ?_
  refine ax_newarray B hR (t := 0) (N := 8) d_Q_init_66 rfl (by decide) (by decide) (by decide) (by decide) (ax_cvr (by simp) (ax_cvi (ax_cvi (ax_cvi (ax_cvi (ax_cvi ax_cv0)))))) (ax_cvr (by simp) ax_cv0) (by decide) (by decide) hf (fun M18 ad19 hag2 hf => ?_)
  replace hag := ax_ag (gs := [g + 1, g + 2, g + 3, g + 4, g + 5]) hag2 (by simp) hag
  refine ax_putFR B d_Q_init_68 kf_Q_42 hin rfl hf (fun M20 hf => ?_)
  refine ax_iconst B (v := 0) (by decide) d_Q_init_71 ?_
  refine ax_istore B (lv' := [(6, ax_I 0), (0, ax_O (some o)), (1, ax_I p0), (2, ax_I p1), (3, ax_I p2), (4, ax_I p3), (5, ax_I p4)]) d_Q_init_72 (by rw [hn]; decide) rfl ?_
  refine ax_sub [1, 0] rfl ?_
  exact L_Q_init_74 B hn hR hE hin hag 64 M20 (some o) 0 hf
def G_V_question_50 (g : Nat)  (M : ax_M)  : Option (Int32 × ax_M) := some ((-2), M)
set_option maxRecDepth 100000 in
set_option maxHeartbeats 4000000 in
theorem K_V_question_50 {Z : ax_Z} {ad0 ad : Nat → Nat} {g : Nat} {q : Int32 × ax_M} (B : ax_B Z "VoteAuctions" b_V_question (some .int)) (hn : Z.2.2.2.2.2.2.2.2.2.2.2.1 = 8) (hR : ax_R Z 2 6 54) (hE : ax_E Z ad0 [g, g + 1, g + 2, g + 3, g + 4, g + 5] 6 54 (some (ax_I q.1)) q.2) (hag : ∀ a, a ∉ ([g, g + 1, g + 2, g + 3, g + 4, g + 5] : List Nat) → ad a = ad0 a)   : ∀ (M : ax_M) , G_V_question_50 g  M  = some q → ax_W Z ad 0 0 50 [] [] M := by
  intro M  hf
  unfold G_V_question_50 at hf
  refine ax_bipush B (v := (-2)) (by decide) d_V_question_50 ?_
  exact ax_ireturn B hE d_V_question_52 hf rfl hag (by decide) (by decide)
def f_V_question (g : Nat) (M : ax_M) (x0 : Option Nat) (p0 : Int32) (p1 : Int32) (p2 : Int32) (p3 : Int32) (p4 : Int32) : Option (Int32 × ax_M) := (f_V_isOutside M p0 0 3).bind (fun q1 => if q1.1 = 0 then (f_V_isOutside q1.2 p1 2 4).bind (fun q2 => if q2.1 = 0 then (f_V_isOutside q2.2 p2 1 50).bind (fun q3 => if q3.1 = 0 then (f_V_isOutside q3.2 p3 0 20).bind (fun q4 => if q4.1 = 0 then (f_V_isOutside q4.2 p4 0 100).bind (fun q5 => if q5.1 = 0 then (ax_gi q5.2 0 7 x0).bind (fun x6 => if x6 < 6 then (ax_gi q5.2 0 7 x0).bind (fun x7 => (ax_nw q5.2 g (.inl 1) [x0]).bind (fun M8 => (ax_gi M8 0 0 x0).bind (fun x10 => (ax_gi M8 0 0 x0).bind (fun x11 => (ax_gf [x0, (some g)] [g + 1, g + 2, g + 3, g + 4, g + 5]).bind (fun _ => (f_Q_init g M8 g p0 p1 (x10 + p2) ((x11 + p2) + p3) p4).bind (fun q12 => (ax_gr q12 0 3 x0).bind (fun x14 => (ax_gr q12 1 5 (some g)).bind (fun x15 => (ax_cp q12 0 x14 0 x15 0 8).bind (fun M16 => (ax_gr M16 0 8 x0).bind (fun x17 => (ax_tr M16 3 1 x17 x7 (some g)).bind (fun M18 => (ax_gi M18 0 7 x0).bind (fun x19 => (ax_pi M18 0 7 x0 (x19 + 1)).bind (fun M20 => some (x7, M20)))))))))))))) else some ((-4), q5.2)) else G_V_question_50 g q5.2) else G_V_question_50 g q4.2) else G_V_question_50 g q3.2) else G_V_question_50 g q2.2) else G_V_question_50 g q1.2)
set_option maxRecDepth 100000 in
set_option maxHeartbeats 4000000 in
theorem c_V_question (l : Launch) (G : ax_G) (g : Nat) (M : ax_M) (x0 : Option Nat) (p0 : Int32) (p1 : Int32) (p2 : Int32) (p3 : Int32) (p4 : Int32) {q : Int32 × ax_M} (hf : f_V_question g M x0 p0 p1 p2 p3 p4 = some q) : ax_C l G y_V_question b_V_question 8 (some .int) [g, g + 1, g + 2, g + 3, g + 4, g + 5] 2 6 54 [ax_O x0, ax_I p0, ax_I p1, ax_I p2, ax_I p3, ax_I p4] M (some (ax_I q.1)) q.2 := by
  refine ax_ofW (by decide +kernel) (lv0 := [(0, ax_O x0), (1, ax_I p0), (2, ax_I p1), (3, ax_I p2), (4, ax_I p3), (5, ax_I p4)]) (Nat.le_of_ble_eq_true rfl) rfl ?_
  intro Z ad B hin _ _ hn hR hE
  have hag : ∀ a, a ∉ ([g, g + 1, g + 2, g + 3, g + 4, g + 5] : List Nat) → ad a = ad a := fun _ _ => rfl
  unfold f_V_question at hf
  refine ax_iload_n B d_V_question_0 rfl (j := 1) rfl ?_
  refine ax_iconst B (v := 0) (by decide) d_V_question_1 ?_
  refine ax_iconst B (v := 3) (by decide) d_V_question_2 ?_
  refine ax_cSV B hR (as := [ax_I p0, ax_I 0, ax_I 3]) (V := fun q => ax_I q.1) (N := fun q => q.2) d_V_question_3 l_V_44 m_V_isOutside hf (fun q h => c_V_isOutside _ _ _ _ _ _ h) rfl rfl (by decide) (by decide) (by decide) (by decide) (Nat.le_of_ble_eq_true rfl) (fun q1 hf => ?_)
  refine ax_if_ne B (tgt := 50) d_V_question_6 (by decide) hf (fun hf => ?_) (fun hf => ?_)
  · refine ax_iload_n B d_V_question_9 rfl (j := 2) rfl ?_
    refine ax_iconst B (v := 2) (by decide) d_V_question_10 ?_
    refine ax_iconst B (v := 4) (by decide) d_V_question_11 ?_
    refine ax_cSV B hR (as := [ax_I p1, ax_I 2, ax_I 4]) (V := fun q => ax_I q.1) (N := fun q => q.2) d_V_question_12 l_V_44 m_V_isOutside hf (fun q h => c_V_isOutside _ _ _ _ _ _ h) rfl rfl (by decide) (by decide) (by decide) (by decide) (Nat.le_of_ble_eq_true rfl) (fun q2 hf => ?_)
    refine ax_if_ne B (tgt := 50) d_V_question_15 (by decide) hf (fun hf => ?_) (fun hf => ?_)
    · refine ax_iload_n B d_V_question_18 rfl (j := 3) rfl ?_
      refine ax_iconst B (v := 1) (by decide) d_V_question_19 ?_
      refine ax_bipush B (v := 50) (by decide) d_V_question_20 ?_
      refine ax_cSV B hR (as := [ax_I p2, ax_I 1, ax_I 50]) (V := fun q => ax_I q.1) (N := fun q => q.2) d_V_question_22 l_V_44 m_V_isOutside hf (fun q h => c_V_isOutside _ _ _ _ _ _ h) rfl rfl (by decide) (by decide) (by decide) (by decide) (Nat.le_of_ble_eq_true rfl) (fun q3 hf => ?_)
      refine ax_if_ne B (tgt := 50) d_V_question_25 (by decide) hf (fun hf => ?_) (fun hf => ?_)
      · refine ax_iload B (j := 4) d_V_question_28 rfl ?_
        refine ax_iconst B (v := 0) (by decide) d_V_question_30 ?_
        refine ax_bipush B (v := 20) (by decide) d_V_question_31 ?_
        refine ax_cSV B hR (as := [ax_I p3, ax_I 0, ax_I 20]) (V := fun q => ax_I q.1) (N := fun q => q.2) d_V_question_33 l_V_44 m_V_isOutside hf (fun q h => c_V_isOutside _ _ _ _ _ _ h) rfl rfl (by decide) (by decide) (by decide) (by decide) (Nat.le_of_ble_eq_true rfl) (fun q4 hf => ?_)
        refine ax_if_ne B (tgt := 50) d_V_question_36 (by decide) hf (fun hf => ?_) (fun hf => ?_)
        · refine ax_iload B (j := 5) d_V_question_39 rfl ?_
          refine ax_iconst B (v := 0) (by decide) d_V_question_41 ?_
          refine ax_bipush B (v := 100) (by decide) d_V_question_42 ?_
          refine ax_cSV B hR (as := [ax_I p4, ax_I 0, ax_I 100]) (V := fun q => ax_I q.1) (N := fun q => q.2) d_V_question_44 l_V_44 m_V_isOutside hf (fun q h => c_V_isOutside _ _ _ _ _ _ h) rfl rfl (by decide) (by decide) (by decide) (by decide) (Nat.le_of_ble_eq_true rfl) (fun q5 hf => ?_)
          refine ax_if_eq B (tgt := 53) d_V_question_47 (by decide) hf (fun hf => ?_) (fun hf => ?_)
          · refine ax_aload_n B d_V_question_53 rfl (j := 0) rfl ?_
            refine ax_getI B d_V_question_54 k_V_79 rfl hf (fun x6 hf => ?_)
            refine ax_bipush B (v := 6) (by decide) d_V_question_57 ?_
            refine ax_icmp_lt B (tgt := 65) d_V_question_59 (by decide) hf (fun hf => ?_) (fun hf => ?_)
            · refine ax_aload_n B d_V_question_65 rfl (j := 0) rfl ?_
              refine ax_getI B d_V_question_66 k_V_79 rfl hf (fun x7 hf => ?_)
              refine ax_istore B (lv' := [(6, ax_I x7), (0, ax_O x0), (1, ax_I p0), (2, ax_I p1), (3, ax_I p2), (4, ax_I p3), (5, ax_I p4)]) d_V_question_69 (by rw [hn]; decide) rfl ?_
              refine ax_new B hR (ci := 1) (n := 14) d_V_question_71 j_V_23 rfl (ax_cvi (ax_cvr (by simp) (ax_cvi (ax_cvi (ax_cvi (ax_cvi (ax_cvi ax_cv0))))))) ax_cv0 (by decide) (by decide) hf (fun M8 ad9 hag2 hf => ?_)
              replace hag := ax_ag (gs := [g, g + 1, g + 2, g + 3, g + 4, g + 5]) hag2 (by simp) hag
              refine ax_dup B rfl d_V_question_74 ?_
              refine ax_iload_n B d_V_question_75 rfl (j := 2) rfl ?_
              refine ax_iload_n B d_V_question_76 rfl (j := 3) rfl ?_
              refine ax_aload_n B d_V_question_77 rfl (j := 1) rfl ?_
              refine ax_getI B d_V_question_78 k_V_66 rfl hf (fun x10 hf => ?_)
              refine ax_iload_n B d_V_question_81 rfl (j := 4) rfl ?_
              refine ax_iadd B d_V_question_82 ?_
              refine ax_aload_n B d_V_question_83 rfl (j := 1) rfl ?_
              refine ax_getI B d_V_question_84 k_V_66 rfl hf (fun x11 hf => ?_)
              refine ax_iload_n B d_V_question_87 rfl (j := 4) rfl ?_
              refine ax_iadd B d_V_question_88 ?_
              refine ax_iload B (j := 5) d_V_question_89 rfl ?_
              refine ax_iadd B d_V_question_91 ?_
              refine ax_iload B (j := 6) d_V_question_92 rfl ?_
              refine ax_cI B hR (as := [ax_I p0, ax_I p1, ax_I (x10 + p2), ax_I ((x11 + p2) + p3), ax_I p4]) d_V_question_94 l_V_82 m_Q_init (ax_cvi (ax_cvr (by simp) (ax_cvi (ax_cvi (ax_cvi (ax_cvi (ax_cvi ax_cv0))))))) (ax_cvr (by simp) ax_cv0) hf (fun q h => c_Q_init _ _ _ _ _ _ _ _ _ _ h) rfl rfl (by decide) (by decide) (by decide) (by decide) (Nat.le_of_ble_eq_true rfl) (fun q12 ad13 hag2 hf => ?_)
              replace hag := ax_ag (gs := [g, g + 1, g + 2, g + 3, g + 4, g + 5]) hag2 (by simp) hag
              refine ax_astore B (lv' := [(7, ax_O (some g)), (6, ax_I x7), (0, ax_O x0), (1, ax_I p0), (2, ax_I p1), (3, ax_I p2), (4, ax_I p3), (5, ax_I p4)]) d_V_question_97 (by rw [hn]; decide) rfl ?_
              refine ax_aload_n B d_V_question_99 rfl (j := 2) rfl ?_
              refine ax_getR B d_V_question_100 k_V_9 rfl hf (fun x14 hf => ?_)
              refine ax_iconst B (v := 0) (by decide) d_V_question_103 ?_
              refine ax_aload B (j := 0) d_V_question_104 rfl ?_
              refine ax_getR B d_V_question_106 k_V_85 rfl hf (fun x15 hf => ?_)
              refine ax_iconst B (v := 0) (by decide) d_V_question_109 ?_
              refine ax_bipush B (v := 8) (by decide) d_V_question_110 ?_
              refine ax_copy B hR d_V_question_112 l_V_86 (by decide) (Nat.le_of_ble_eq_true rfl) hf (fun M16 hf => ?_)
              refine ax_aload_n B d_V_question_115 rfl (j := 2) rfl ?_
              refine ax_getR B d_V_question_116 k_V_25 rfl hf (fun x17 hf => ?_)
              refine ax_iload B (j := 1) d_V_question_119 rfl ?_
              refine ax_aload B (j := 0) d_V_question_121 rfl ?_
              refine ax_aast B d_V_question_123 (t := 3) (ci := 1) (by decide) rfl rfl hf (fun M18 hf => ?_)
              refine ax_aload_n B d_V_question_124 rfl (j := 2) rfl ?_
              refine ax_dup B rfl d_V_question_125 ?_
              refine ax_getI B d_V_question_126 k_V_79 rfl hf (fun x19 hf => ?_)
              refine ax_iconst B (v := 1) (by decide) d_V_question_129 ?_
              refine ax_iadd B d_V_question_130 ?_
              refine ax_putI B d_V_question_131 k_V_79 rfl rfl rfl rfl hf (fun M20 hf => ?_)
              refine ax_iload B (j := 1) d_V_question_134 rfl ?_
              exact ax_ireturn B hE d_V_question_136 hf rfl hag (by decide) (by decide)
            · refine ax_bipush B (v := (-4)) (by decide) d_V_question_62 ?_
              exact ax_ireturn B hE d_V_question_64 hf rfl hag (by decide) (by decide)
          · refine ax_sub [] rfl ?_
            exact K_V_question_50 B hn hR hE hag q5.2 hf
        · refine ax_sub [] rfl ?_
          exact K_V_question_50 B hn hR hE hag q4.2 hf
      · refine ax_sub [] rfl ?_
        exact K_V_question_50 B hn hR hE hag q3.2 hf
    · refine ax_sub [] rfl ?_
      exact K_V_question_50 B hn hR hE hag q2.2 hf
  · refine ax_sub [] rfl ?_
    exact K_V_question_50 B hn hR hE hag q1.2 hf
def G_V_questionAt_19  (M : ax_M) (s0 : Option Nat) : Option (Option Nat × ax_M) := some (s0, M)
set_option maxRecDepth 100000 in
set_option maxHeartbeats 4000000 in
theorem K_V_questionAt_19 {Z : ax_Z} {ad0 ad : Nat → Nat} {q : Option Nat × ax_M} (B : ax_B Z "VoteAuctions" b_V_questionAt (some (.object "VoteAuctions$Question"))) (hn : Z.2.2.2.2.2.2.2.2.2.2.2.1 = 2) (hR : ax_R Z 1 0 0) (hE : ax_E Z ad0 [] 0 0 (some (ax_O q.1)) q.2) (hag : ∀ a, a ∉ ([] : List Nat) → ad a = ad0 a)   : ∀ (M : ax_M) (s0 : Option Nat), G_V_questionAt_19  M s0 = some q → ax_W Z ad 0 0 19 [] [ax_O s0] M := by
  intro M s0 hf
  unfold G_V_questionAt_19 at hf
  exact ax_areturn B hE d_V_questionAt_19 hf (Or.inl ⟨_, rfl⟩) hag (by decide) (by decide)
def f_V_questionAt (M : ax_M) (x0 : Option Nat) (p0 : Int32) : Option (Option Nat × ax_M) := (f_V_isOutside M p0 0 5).bind (fun q1 => if q1.1 = 0 then (ax_gr q1.2 0 8 x0).bind (fun x2 => (ax_rr q1.2 3 x2 p0).bind (fun x3 => G_V_questionAt_19 q1.2 x3)) else G_V_questionAt_19 q1.2 none)
set_option maxRecDepth 100000 in
set_option maxHeartbeats 4000000 in
theorem c_V_questionAt (l : Launch) (G : ax_G) (M : ax_M) (x0 : Option Nat) (p0 : Int32) {q : Option Nat × ax_M} (hf : f_V_questionAt M x0 p0 = some q) : ax_C l G y_V_questionAt b_V_questionAt 2 (some (.object "VoteAuctions$Question")) [] 1 0 0 [ax_O x0, ax_I p0] M (some (ax_O q.1)) q.2 := by
  refine ax_ofW (by decide +kernel) (lv0 := [(0, ax_O x0), (1, ax_I p0)]) (Nat.le_of_ble_eq_true rfl) rfl ?_
  intro Z ad B hin _ _ hn hR hE
  have hag : ∀ a, a ∉ ([] : List Nat) → ad a = ad a := fun _ _ => rfl
  unfold f_V_questionAt at hf
  refine ax_iload_n B d_V_questionAt_0 rfl (j := 1) rfl ?_
  refine ax_iconst B (v := 0) (by decide) d_V_questionAt_1 ?_
  refine ax_iconst B (v := 5) (by decide) d_V_questionAt_2 ?_
  refine ax_cSV B hR (as := [ax_I p0, ax_I 0, ax_I 5]) (V := fun q => ax_I q.1) (N := fun q => q.2) d_V_questionAt_3 l_V_44 m_V_isOutside hf (fun q h => c_V_isOutside _ _ _ _ _ _ h) rfl rfl (by decide) (by decide) (by decide) (by decide) (Nat.le_of_ble_eq_true rfl) (fun q1 hf => ?_)
  refine ax_if_eq B (tgt := 13) d_V_questionAt_6 (by decide) hf (fun hf => ?_) (fun hf => ?_)
  · refine ax_aload_n B d_V_questionAt_13 rfl (j := 0) rfl ?_
    refine ax_getR B d_V_questionAt_14 k_V_25 rfl hf (fun x2 hf => ?_)
    refine ax_iload_n B d_V_questionAt_17 rfl (j := 1) rfl ?_
    refine ax_aald B d_V_questionAt_18 (t := 3) (C := "VoteAuctions$Question") (by decide) rfl hf (fun x3 hf => ?_)
    refine ax_sub [] rfl ?_
    exact K_V_questionAt_19 B hn hR hE hag q1.2 x3 hf
  · refine ax_null B d_V_questionAt_9 ?_
    refine ax_goto B (tgt := 19) d_V_questionAt_10 (by decide) ?_
    refine ax_sub [] rfl ?_
    exact K_V_questionAt_19 B hn hR hE hag q1.2 none hf
def G_V_call_20  (M : ax_M)  : Option (Int32 × ax_M) := some ((-1), M)
set_option maxRecDepth 100000 in
set_option maxHeartbeats 4000000 in
theorem K_V_call_20 {Z : ax_Z} {ad0 ad : Nat → Nat} {q : Int32 × ax_M} (B : ax_B Z "VoteAuctions" b_V_call (some .int)) (hn : Z.2.2.2.2.2.2.2.2.2.2.2.1 = 6) (hR : ax_R Z 2 0 0) (hE : ax_E Z ad0 [] 0 0 (some (ax_I q.1)) q.2) (hag : ∀ a, a ∉ ([] : List Nat) → ad a = ad0 a)   : ∀ (M : ax_M) , G_V_call_20  M  = some q → ax_W Z ad 0 0 20 [] [] M := by
  intro M  hf
  unfold G_V_call_20 at hf
  refine ax_iconst B (v := (-1)) (by decide) d_V_call_20 ?_
  exact ax_ireturn B hE d_V_call_21 hf rfl hag (by decide) (by decide)
def G_V_call_43  (M : ax_M)  : Option (Int32 × ax_M) := some ((-2), M)
set_option maxRecDepth 100000 in
set_option maxHeartbeats 4000000 in
theorem K_V_call_43 {Z : ax_Z} {ad0 ad : Nat → Nat} {q : Int32 × ax_M} (B : ax_B Z "VoteAuctions" b_V_call (some .int)) (hn : Z.2.2.2.2.2.2.2.2.2.2.2.1 = 6) (hR : ax_R Z 2 0 0) (hE : ax_E Z ad0 [] 0 0 (some (ax_I q.1)) q.2) (hag : ∀ a, a ∉ ([] : List Nat) → ad a = ad0 a)   : ∀ (M : ax_M) , G_V_call_43  M  = some q → ax_W Z ad 0 0 43 [] [] M := by
  intro M  hf
  unfold G_V_call_43 at hf
  refine ax_bipush B (v := (-2)) (by decide) d_V_call_43 ?_
  exact ax_ireturn B hE d_V_call_45 hf rfl hag (by decide) (by decide)
def f_V_call (M : ax_M) (x0 : Option Nat) (p0 : Int32) (p1 : Int32) (p2 : Int32) (p3 : Int32) : Option (Int32 × ax_M) := (ax_ob M 0 x0).bind (fun _ => (f_V_questionAt M x0 p0).bind (fun q1 => if q1.1 = none then G_V_call_20 q1.2 else (ax_ob q1.2 0 x0).bind (fun _ => (f_V_isNoAccount q1.2 x0 p1).bind (fun q2 => if q2.1 = 0 then (f_V_isOutside q2.2 p2 0 100000).bind (fun q3 => if q3.1 = 0 then (f_V_isOutside q3.2 p3 0 50).bind (fun q4 => if q4.1 = 0 then (ax_gi q4.2 0 0 x0).bind (fun x5 => (ax_gi q4.2 1 2 q1.1).bind (fun x6 => if x5 < x6 then (ax_pi q4.2 1 10 q1.1 p1).bind (fun M7 => (ax_pi M7 1 11 q1.1 p2).bind (fun M8 => (ax_gi M8 1 3 q1.1).bind (fun x9 => (ax_pi M8 1 12 q1.1 (x9 + p3)).bind (fun M10 => some (1, M10))))) else some ((-3), q4.2))) else G_V_call_43 q4.2) else G_V_call_43 q3.2) else G_V_call_20 q2.2))))
set_option maxRecDepth 100000 in
set_option maxHeartbeats 4000000 in
theorem c_V_call (l : Launch) (G : ax_G) (M : ax_M) (x0 : Option Nat) (p0 : Int32) (p1 : Int32) (p2 : Int32) (p3 : Int32) {q : Int32 × ax_M} (hf : f_V_call M x0 p0 p1 p2 p3 = some q) : ax_C l G y_V_call b_V_call 6 (some .int) [] 2 0 0 [ax_O x0, ax_I p0, ax_I p1, ax_I p2, ax_I p3] M (some (ax_I q.1)) q.2 := by
  refine ax_ofW (by decide +kernel) (lv0 := [(0, ax_O x0), (1, ax_I p0), (2, ax_I p1), (3, ax_I p2), (4, ax_I p3)]) (Nat.le_of_ble_eq_true rfl) rfl ?_
  intro Z ad B hin _ _ hn hR hE
  have hag : ∀ a, a ∉ ([] : List Nat) → ad a = ad a := fun _ _ => rfl
  unfold f_V_call at hf
  refine ax_aload_n B d_V_call_0 rfl (j := 0) rfl ?_
  refine ax_iload_n B d_V_call_1 rfl (j := 1) rfl ?_
  refine ax_cVV B hR (as := [ax_I p0]) (V := fun q => ax_O q.1) (N := fun q => q.2) d_V_call_2 l_V_92 m_V_questionAt hf (fun q h => c_V_questionAt _ _ _ _ _ h) rfl rfl (by decide) (by decide) (by decide) (by decide) (Nat.le_of_ble_eq_true rfl) (fun q1 hf => ?_)
  refine ax_astore B (lv' := [(5, ax_O q1.1), (0, ax_O x0), (1, ax_I p0), (2, ax_I p1), (3, ax_I p2), (4, ax_I p3)]) d_V_call_5 (by rw [hn]; decide) rfl ?_
  refine ax_aload B (j := 0) d_V_call_7 rfl ?_
  refine ax_ifnull B (tgt := 20) d_V_call_9 (by decide) hf (fun hf => ?_) (fun hf => ?_)
  · refine ax_sub [] rfl ?_
    exact K_V_call_20 B hn hR hE hag q1.2 hf
  · refine ax_aload_n B d_V_call_12 rfl (j := 1) rfl ?_
    refine ax_iload_n B d_V_call_13 rfl (j := 3) rfl ?_
    refine ax_cVV B hR (as := [ax_I p1]) (V := fun q => ax_I q.1) (N := fun q => q.2) d_V_call_14 l_V_53 m_V_isNoAccount hf (fun q h => c_V_isNoAccount _ _ _ _ _ h) rfl rfl (by decide) (by decide) (by decide) (by decide) (Nat.le_of_ble_eq_true rfl) (fun q2 hf => ?_)
    refine ax_if_eq B (tgt := 22) d_V_call_17 (by decide) hf (fun hf => ?_) (fun hf => ?_)
    · refine ax_iload_n B d_V_call_22 rfl (j := 4) rfl ?_
      refine ax_iconst B (v := 0) (by decide) d_V_call_23 ?_
      refine ax_ldc B (v := 100000) n_V_57 d_V_call_24 ?_
      refine ax_cSV B hR (as := [ax_I p2, ax_I 0, ax_I 100000]) (V := fun q => ax_I q.1) (N := fun q => q.2) d_V_call_26 l_V_44 m_V_isOutside hf (fun q h => c_V_isOutside _ _ _ _ _ _ h) rfl rfl (by decide) (by decide) (by decide) (by decide) (Nat.le_of_ble_eq_true rfl) (fun q3 hf => ?_)
      refine ax_if_ne B (tgt := 43) d_V_call_29 (by decide) hf (fun hf => ?_) (fun hf => ?_)
      · refine ax_iload B (j := 5) d_V_call_32 rfl ?_
        refine ax_iconst B (v := 0) (by decide) d_V_call_34 ?_
        refine ax_bipush B (v := 50) (by decide) d_V_call_35 ?_
        refine ax_cSV B hR (as := [ax_I p3, ax_I 0, ax_I 50]) (V := fun q => ax_I q.1) (N := fun q => q.2) d_V_call_37 l_V_44 m_V_isOutside hf (fun q h => c_V_isOutside _ _ _ _ _ _ h) rfl rfl (by decide) (by decide) (by decide) (by decide) (Nat.le_of_ble_eq_true rfl) (fun q4 hf => ?_)
        refine ax_if_eq B (tgt := 46) d_V_call_40 (by decide) hf (fun hf => ?_) (fun hf => ?_)
        · refine ax_aload_n B d_V_call_46 rfl (j := 1) rfl ?_
          refine ax_getI B d_V_call_47 k_V_66 rfl hf (fun x5 hf => ?_)
          refine ax_aload B (j := 0) d_V_call_50 rfl ?_
          refine ax_getI B d_V_call_52 k_V_96 rfl hf (fun x6 hf => ?_)
          refine ax_icmp_lt B (tgt := 61) d_V_call_55 (by decide) hf (fun hf => ?_) (fun hf => ?_)
          · refine ax_aload B (j := 0) d_V_call_61 rfl ?_
            refine ax_iload_n B d_V_call_63 rfl (j := 3) rfl ?_
            refine ax_putI B d_V_call_64 k_V_99 rfl rfl rfl rfl hf (fun M7 hf => ?_)
            refine ax_aload B (j := 0) d_V_call_67 rfl ?_
            refine ax_iload_n B d_V_call_69 rfl (j := 4) rfl ?_
            refine ax_putI B d_V_call_70 k_V_102 rfl rfl rfl rfl hf (fun M8 hf => ?_)
            refine ax_aload B (j := 0) d_V_call_73 rfl ?_
            refine ax_aload B (j := 0) d_V_call_75 rfl ?_
            refine ax_getI B d_V_call_77 k_V_105 rfl hf (fun x9 hf => ?_)
            refine ax_iload B (j := 5) d_V_call_80 rfl ?_
            refine ax_iadd B d_V_call_82 ?_
            refine ax_putI B d_V_call_83 k_V_108 rfl rfl rfl rfl hf (fun M10 hf => ?_)
            refine ax_iconst B (v := 1) (by decide) d_V_call_86 ?_
            exact ax_ireturn B hE d_V_call_87 hf rfl hag (by decide) (by decide)
          · refine ax_bipush B (v := (-3)) (by decide) d_V_call_58 ?_
            exact ax_ireturn B hE d_V_call_60 hf rfl hag (by decide) (by decide)
        · refine ax_sub [] rfl ?_
          exact K_V_call_43 B hn hR hE hag q4.2 hf
      · refine ax_sub [] rfl ?_
        exact K_V_call_43 B hn hR hE hag q3.2 hf
    · refine ax_sub [] rfl ?_
      exact K_V_call_20 B hn hR hE hag q2.2 hf
def G_V_hasChoice_13  (M : ax_M) (s0 : Int32) : Option (Int32 × ax_M) := (ax_bo s0).bind (fun _ => some (s0, M))
set_option maxRecDepth 100000 in
set_option maxHeartbeats 4000000 in
theorem K_V_hasChoice_13 {Z : ax_Z} {ad0 ad : Nat → Nat} {q : Int32 × ax_M} (B : ax_B Z "VoteAuctions" b_V_hasChoice (some .boolean)) (hn : Z.2.2.2.2.2.2.2.2.2.2.2.1 = 2) (hR : ax_R Z 0 0 0) (hE : ax_E Z ad0 [] 0 0 (some (ax_I q.1)) q.2) (hag : ∀ a, a ∉ ([] : List Nat) → ad a = ad0 a)   : ∀ (M : ax_M) (s0 : Int32), G_V_hasChoice_13  M s0 = some q → ax_W Z ad 0 0 13 [] [ax_I s0] M := by
  intro M s0 hf
  unfold G_V_hasChoice_13 at hf
  obtain ⟨_, hb, hf⟩ := ax_bd hf
  exact ax_ireturn B hE d_V_hasChoice_13 hf (ax_bo_n hb) hag (by decide) (by decide)
def f_V_hasChoice (M : ax_M) (p0 : Int32) (p1 : Int32) : Option (Int32 × ax_M) := if ((p0 >>> (p1 &&& 31)) &&& 1) = 0 then G_V_hasChoice_13 M 0 else G_V_hasChoice_13 M 1
set_option maxRecDepth 100000 in
set_option maxHeartbeats 4000000 in
theorem c_V_hasChoice (l : Launch) (G : ax_G) (M : ax_M) (p0 : Int32) (p1 : Int32) {q : Int32 × ax_M} (hf : f_V_hasChoice M p0 p1 = some q) : ax_C l G y_V_hasChoice b_V_hasChoice 2 (some .boolean) [] 0 0 0 [ax_I p0, ax_I p1] M (some (ax_I q.1)) q.2 := by
  refine ax_ofW (by decide +kernel) (lv0 := [(0, ax_I p0), (1, ax_I p1)]) (Nat.le_of_ble_eq_true rfl) rfl ?_
  intro Z ad B hin _ _ hn hR hE
  have hag : ∀ a, a ∉ ([] : List Nat) → ad a = ad a := fun _ _ => rfl
  unfold f_V_hasChoice at hf
  refine ax_iload_n B d_V_hasChoice_0 rfl (j := 0) rfl ?_
  refine ax_iload_n B d_V_hasChoice_1 rfl (j := 1) rfl ?_
  refine ax_ishr B d_V_hasChoice_2 ?_
  refine ax_iconst B (v := 1) (by decide) d_V_hasChoice_3 ?_
  refine ax_iand B d_V_hasChoice_4 ?_
  refine ax_if_eq B (tgt := 12) d_V_hasChoice_5 (by decide) hf (fun hf => ?_) (fun hf => ?_)
  · refine ax_iconst B (v := 0) (by decide) d_V_hasChoice_12 ?_
    refine ax_sub [] rfl ?_
    exact K_V_hasChoice_13 B hn hR hE hag M 0 hf
  · refine ax_iconst B (v := 1) (by decide) d_V_hasChoice_8 ?_
    refine ax_goto B (tgt := 13) d_V_hasChoice_9 (by decide) ?_
    refine ax_sub [] rfl ?_
    exact K_V_hasChoice_13 B hn hR hE hag M 1 hf
def G_V_isRanks_78  (M : ax_M) (s0 : Int32) : Option (Int32 × ax_M) := (ax_bo s0).bind (fun _ => some (s0, M))
set_option maxRecDepth 100000 in
set_option maxHeartbeats 4000000 in
theorem K_V_isRanks_78 {Z : ax_Z} {ad0 ad : Nat → Nat} {q : Int32 × ax_M} (B : ax_B Z "VoteAuctions" b_V_isRanks (some .boolean)) (hn : Z.2.2.2.2.2.2.2.2.2.2.2.1 = 6) (hR : ax_R Z 1 0 0) (hE : ax_E Z ad0 [] 0 0 (some (ax_I q.1)) q.2) (hag : ∀ a, a ∉ ([] : List Nat) → ad a = ad0 a)   : ∀ (M : ax_M) (s0 : Int32), G_V_isRanks_78  M s0 = some q → ax_W Z ad 0 0 78 [] [ax_I s0] M := by
  intro M s0 hf
  unfold G_V_isRanks_78 at hf
  obtain ⟨_, hb, hf⟩ := ax_bd hf
  exact ax_ireturn B hE d_V_isRanks_78 hf (ax_bo_n hb) hag (by decide) (by decide)
def G_V_isRanks_77  (M : ax_M)  : Option (Int32 × ax_M) := G_V_isRanks_78 M 0
set_option maxRecDepth 100000 in
set_option maxHeartbeats 4000000 in
theorem K_V_isRanks_77 {Z : ax_Z} {ad0 ad : Nat → Nat} {q : Int32 × ax_M} (B : ax_B Z "VoteAuctions" b_V_isRanks (some .boolean)) (hn : Z.2.2.2.2.2.2.2.2.2.2.2.1 = 6) (hR : ax_R Z 1 0 0) (hE : ax_E Z ad0 [] 0 0 (some (ax_I q.1)) q.2) (hag : ∀ a, a ∉ ([] : List Nat) → ad a = ad0 a)   : ∀ (M : ax_M) , G_V_isRanks_77  M  = some q → ax_W Z ad 0 0 77 [] [] M := by
  intro M  hf
  unfold G_V_isRanks_77 at hf
  refine ax_iconst B (v := 0) (by decide) d_V_isRanks_77 ?_
  exact K_V_isRanks_78 B hn hR hE hag M 0 hf
def G_V_isRanks_65  (M : ax_M) (v0 : Int32) (v3 : Int32) : Option (Int32 × ax_M) := if v0 ≤ 0 then G_V_isRanks_77 M else if v3 = 0 then G_V_isRanks_78 M 1 else G_V_isRanks_77 M
set_option maxRecDepth 100000 in
set_option maxHeartbeats 4000000 in
theorem K_V_isRanks_65 {Z : ax_Z} {ad0 ad : Nat → Nat} {q : Int32 × ax_M} (B : ax_B Z "VoteAuctions" b_V_isRanks (some .boolean)) (hn : Z.2.2.2.2.2.2.2.2.2.2.2.1 = 6) (hR : ax_R Z 1 0 0) (hE : ax_E Z ad0 [] 0 0 (some (ax_I q.1)) q.2) (hag : ∀ a, a ∉ ([] : List Nat) → ad a = ad0 a)   : ∀ (M : ax_M) (v0 : Int32) (v3 : Int32), G_V_isRanks_65  M v0 v3 = some q → ax_W Z ad 0 0 65 [(0, ax_I v0), (3, ax_I v3)] [] M := by
  intro M v0 v3 hf
  unfold G_V_isRanks_65 at hf
  refine ax_iload_n B d_V_isRanks_65 rfl (j := 0) rfl ?_
  refine ax_if_le B (tgt := 77) d_V_isRanks_66 (by decide) hf (fun hf => ?_) (fun hf => ?_)
  · refine ax_sub [] rfl ?_
    exact K_V_isRanks_77 B hn hR hE hag M hf
  · refine ax_iload_n B d_V_isRanks_69 rfl (j := 1) rfl ?_
    refine ax_if_ne B (tgt := 77) d_V_isRanks_70 (by decide) hf (fun hf => ?_) (fun hf => ?_)
    · refine ax_iconst B (v := 1) (by decide) d_V_isRanks_73 ?_
      refine ax_goto B (tgt := 78) d_V_isRanks_74 (by decide) ?_
      refine ax_sub [] rfl ?_
      exact K_V_isRanks_78 B hn hR hE hag M 1 hf
    · refine ax_sub [] rfl ?_
      exact K_V_isRanks_77 B hn hR hE hag M hf
def G_V_isRanks_46  (M : ax_M)  : Option (Int32 × ax_M) := some (0, M)
set_option maxRecDepth 100000 in
set_option maxHeartbeats 4000000 in
theorem K_V_isRanks_46 {Z : ax_Z} {ad0 ad : Nat → Nat} {q : Int32 × ax_M} (B : ax_B Z "VoteAuctions" b_V_isRanks (some .boolean)) (hn : Z.2.2.2.2.2.2.2.2.2.2.2.1 = 6) (hR : ax_R Z 1 0 0) (hE : ax_E Z ad0 [] 0 0 (some (ax_I q.1)) q.2) (hag : ∀ a, a ∉ ([] : List Nat) → ad a = ad0 a)   : ∀ (M : ax_M) , G_V_isRanks_46  M  = some q → ax_W Z ad 0 0 46 [] [] M := by
  intro M  hf
  unfold G_V_isRanks_46 at hf
  refine ax_iconst B (v := 0) (by decide) d_V_isRanks_46 ?_
  exact ax_ireturn B hE d_V_isRanks_47 hf rfl hag (by decide) (by decide)
def G_V_isRanks_7 (rec7 : ax_M → Int32 → Int32 → Int32 → Int32 → Int32 → Option (Int32 × ax_M)) (M : ax_M) (v0 : Int32) (v1 : Int32) (v2 : Int32) (v3 : Int32) (v4 : Int32) : Option (Int32 × ax_M) := if v1 ≤ v4 then G_V_isRanks_65 M v0 v3 else if v3 ≤ 0 then G_V_isRanks_65 M v0 v3 else (some ((v3 &&& 7) - 1)).bind (fun y1 => (f_V_isOutside M y1 0 (v1 - 1)).bind (fun q2 => if q2.1 = 0 then (f_V_hasChoice q2.2 v2 y1).bind (fun q3 => if q3.1 = 0 then (some (v2 ||| (1 <<< (y1 &&& 31)))).bind (fun y4 => (some (v3 >>> (3 &&& 31))).bind (fun y5 => (some (v4 + 1)).bind (fun y6 => rec7 q3.2 v0 v1 y4 y5 y6))) else G_V_isRanks_46 q3.2) else G_V_isRanks_46 q2.2))
set_option maxRecDepth 100000 in
set_option maxHeartbeats 4000000 in
theorem K_V_isRanks_7 {Z : ax_Z} {ad0 ad : Nat → Nat} {q : Int32 × ax_M} (B : ax_B Z "VoteAuctions" b_V_isRanks (some .boolean)) (hn : Z.2.2.2.2.2.2.2.2.2.2.2.1 = 6) (hR : ax_R Z 1 0 0) (hE : ax_E Z ad0 [] 0 0 (some (ax_I q.1)) q.2) (hag : ∀ a, a ∉ ([] : List Nat) → ad a = ad0 a) {rec7 : ax_M → Int32 → Int32 → Int32 → Int32 → Int32 → Option (Int32 × ax_M)} (hr7 : ∀ (M : ax_M) (v0 : Int32) (v1 : Int32) (v2 : Int32) (v3 : Int32) (v4 : Int32), rec7 M v0 v1 v2 v3 v4 = some q → ax_W Z ad 0 0 7 [(0, ax_I v0), (1, ax_I v1), (2, ax_I v2), (3, ax_I v3), (4, ax_I v4)] [] M) : ∀ (M : ax_M) (v0 : Int32) (v1 : Int32) (v2 : Int32) (v3 : Int32) (v4 : Int32), G_V_isRanks_7 rec7 M v0 v1 v2 v3 v4 = some q → ax_W Z ad 0 0 7 [(0, ax_I v0), (1, ax_I v1), (2, ax_I v2), (3, ax_I v3), (4, ax_I v4)] [] M := by
  intro M v0 v1 v2 v3 v4 hf
  unfold G_V_isRanks_7 at hf
  refine ax_iload B (j := 4) d_V_isRanks_7 rfl ?_
  refine ax_iload_n B d_V_isRanks_9 rfl (j := 1) rfl ?_
  refine ax_icmp_ge B (tgt := 65) d_V_isRanks_10 (by decide) hf (fun hf => ?_) (fun hf => ?_)
  · refine ax_sub [0, 3] rfl ?_
    exact K_V_isRanks_65 B hn hR hE hag M v0 v3 hf
  · refine ax_iload_n B d_V_isRanks_13 rfl (j := 3) rfl ?_
    refine ax_if_le B (tgt := 65) d_V_isRanks_14 (by decide) hf (fun hf => ?_) (fun hf => ?_)
    · refine ax_sub [0, 3] rfl ?_
      exact K_V_isRanks_65 B hn hR hE hag M v0 v3 hf
    · refine ax_iload_n B d_V_isRanks_17 rfl (j := 3) rfl ?_
      refine ax_bipush B (v := 7) (by decide) d_V_isRanks_18 ?_
      refine ax_iand B d_V_isRanks_20 ?_
      refine ax_iconst B (v := 1) (by decide) d_V_isRanks_21 ?_
      refine ax_isub B d_V_isRanks_22 ?_
      refine ax_nmI hf (fun y1 hf => ?_)
      refine ax_istore B (lv' := [(5, ax_I y1), (0, ax_I v0), (1, ax_I v1), (2, ax_I v2), (3, ax_I v3), (4, ax_I v4)]) d_V_isRanks_23 (by rw [hn]; decide) rfl ?_
      refine ax_iload B (j := 0) d_V_isRanks_25 rfl ?_
      refine ax_iconst B (v := 0) (by decide) d_V_isRanks_27 ?_
      refine ax_iload_n B d_V_isRanks_28 rfl (j := 2) rfl ?_
      refine ax_iconst B (v := 1) (by decide) d_V_isRanks_29 ?_
      refine ax_isub B d_V_isRanks_30 ?_
      refine ax_cSV B hR (as := [ax_I y1, ax_I 0, ax_I (v1 - 1)]) (V := fun q => ax_I q.1) (N := fun q => q.2) d_V_isRanks_31 l_V_44 m_V_isOutside hf (fun q h => c_V_isOutside _ _ _ _ _ _ h) rfl rfl (by decide) (by decide) (by decide) (by decide) (Nat.le_of_ble_eq_true rfl) (fun q2 hf => ?_)
      refine ax_if_ne B (tgt := 46) d_V_isRanks_34 (by decide) hf (fun hf => ?_) (fun hf => ?_)
      · refine ax_iload_n B d_V_isRanks_37 rfl (j := 3) rfl ?_
        refine ax_iload B (j := 0) d_V_isRanks_38 rfl ?_
        refine ax_cSV B hR (as := [ax_I v2, ax_I y1]) (V := fun q => ax_I q.1) (N := fun q => q.2) d_V_isRanks_40 l_V_236 m_V_hasChoice hf (fun q h => c_V_hasChoice _ _ _ _ _ h) rfl rfl (by decide) (by decide) (by decide) (by decide) (Nat.le_of_ble_eq_true rfl) (fun q3 hf => ?_)
        refine ax_if_eq B (tgt := 48) d_V_isRanks_43 (by decide) hf (fun hf => ?_) (fun hf => ?_)
        · refine ax_iload_n B d_V_isRanks_48 rfl (j := 3) rfl ?_
          refine ax_iconst B (v := 1) (by decide) d_V_isRanks_49 ?_
          refine ax_iload B (j := 0) d_V_isRanks_50 rfl ?_
          refine ax_ishl B d_V_isRanks_52 ?_
          refine ax_ior B d_V_isRanks_53 ?_
          refine ax_nmI hf (fun y4 hf => ?_)
          refine ax_istore_n B (lv' := [(2, ax_I y4), (5, ax_I y1), (0, ax_I v0), (1, ax_I v1), (3, ax_I v3), (4, ax_I v4)]) d_V_isRanks_54 rfl (by rw [hn]; decide) rfl ?_
          refine ax_iload_n B d_V_isRanks_55 rfl (j := 4) rfl ?_
          refine ax_iconst B (v := 3) (by decide) d_V_isRanks_56 ?_
          refine ax_ishr B d_V_isRanks_57 ?_
          refine ax_nmI hf (fun y5 hf => ?_)
          refine ax_istore_n B (lv' := [(3, ax_I y5), (2, ax_I y4), (5, ax_I y1), (0, ax_I v0), (1, ax_I v1), (4, ax_I v4)]) d_V_isRanks_58 rfl (by rw [hn]; decide) rfl ?_
          refine ax_iincN B (j := 5) (lv' := fun y => [(4, ax_I y), (3, ax_I y5), (2, ax_I y4), (5, ax_I y1), (0, ax_I v0), (1, ax_I v1)]) d_V_isRanks_59 rfl hf rfl (by rw [hn]; decide) (fun _ => rfl) (fun y6 hf => ?_)
          refine ax_goto B (tgt := 7) d_V_isRanks_62 (by decide) ?_
          refine ax_sub [4, 5, 2, 1, 0] rfl ?_
          exact hr7 q3.2 v0 v1 y4 y5 y6 hf
        · refine ax_sub [] rfl ?_
          exact K_V_isRanks_46 B hn hR hE hag q3.2 hf
      · refine ax_sub [] rfl ?_
        exact K_V_isRanks_46 B hn hR hE hag q2.2 hf
def F_V_isRanks_7  : Nat → ax_M → Int32 → Int32 → Int32 → Int32 → Int32 → Option (Int32 × ax_M)
  | 0 => fun _ _ _ _ _ _ => none
  | n + 1 => G_V_isRanks_7 (F_V_isRanks_7  n)
set_option maxRecDepth 100000 in
set_option maxHeartbeats 4000000 in
theorem L_V_isRanks_7 {Z : ax_Z} {ad0 ad : Nat → Nat} {q : Int32 × ax_M} (B : ax_B Z "VoteAuctions" b_V_isRanks (some .boolean)) (hn : Z.2.2.2.2.2.2.2.2.2.2.2.1 = 6) (hR : ax_R Z 1 0 0) (hE : ax_E Z ad0 [] 0 0 (some (ax_I q.1)) q.2) (hag : ∀ a, a ∉ ([] : List Nat) → ad a = ad0 a)   : ∀ (n : Nat) (M : ax_M) (v0 : Int32) (v1 : Int32) (v2 : Int32) (v3 : Int32) (v4 : Int32), F_V_isRanks_7  n M v0 v1 v2 v3 v4 = some q → ax_W Z ad 0 0 7 [(0, ax_I v0), (1, ax_I v1), (2, ax_I v2), (3, ax_I v3), (4, ax_I v4)] [] M := by
  intro n
  induction n with
  | zero => intro M v0 v1 v2 v3 v4 hf; cases hf
  | succ n ih => exact K_V_isRanks_7 B hn hR hE hag ih
def f_V_isRanks (M : ax_M) (p0 : Int32) (p1 : Int32) : Option (Int32 × ax_M) := F_V_isRanks_7 64 M p0 p1 0 p0 0
set_option maxRecDepth 100000 in
set_option maxHeartbeats 4000000 in
theorem c_V_isRanks (l : Launch) (G : ax_G) (M : ax_M) (p0 : Int32) (p1 : Int32) {q : Int32 × ax_M} (hf : f_V_isRanks M p0 p1 = some q) : ax_C l G y_V_isRanks b_V_isRanks 6 (some .boolean) [] 1 0 0 [ax_I p0, ax_I p1] M (some (ax_I q.1)) q.2 := by
  refine ax_ofW (by decide +kernel) (lv0 := [(0, ax_I p0), (1, ax_I p1)]) (Nat.le_of_ble_eq_true rfl) rfl ?_
  intro Z ad B hin _ _ hn hR hE
  have hag : ∀ a, a ∉ ([] : List Nat) → ad a = ad a := fun _ _ => rfl
  unfold f_V_isRanks at hf
  refine ax_iconst B (v := 0) (by decide) d_V_isRanks_0 ?_
  refine ax_istore_n B (lv' := [(2, ax_I 0), (0, ax_I p0), (1, ax_I p1)]) d_V_isRanks_1 rfl (by rw [hn]; decide) rfl ?_
  refine ax_iload_n B d_V_isRanks_2 rfl (j := 1) rfl ?_
  refine ax_istore_n B (lv' := [(3, ax_I p0), (2, ax_I 0), (0, ax_I p0), (1, ax_I p1)]) d_V_isRanks_3 rfl (by rw [hn]; decide) rfl ?_
  refine ax_iconst B (v := 0) (by decide) d_V_isRanks_4 ?_
  refine ax_istore B (lv' := [(4, ax_I 0), (3, ax_I p0), (2, ax_I 0), (0, ax_I p0), (1, ax_I p1)]) d_V_isRanks_5 (by rw [hn]; decide) rfl ?_
  refine ax_sub [3, 4, 2, 1, 0] rfl ?_
  exact L_V_isRanks_7 B hn hR hE hag 64 M p0 p1 0 p0 0 hf
def f_V_strengthOf (M : ax_M) (p0 : Int32) (p1 : Int32) : Option (Int32 × ax_M) := some (((p0 >>> ((5 * p1) &&& 31)) &&& 31), M)
set_option maxRecDepth 100000 in
set_option maxHeartbeats 4000000 in
theorem c_V_strengthOf (l : Launch) (G : ax_G) (M : ax_M) (p0 : Int32) (p1 : Int32) {q : Int32 × ax_M} (hf : f_V_strengthOf M p0 p1 = some q) : ax_C l G y_V_strengthOf b_V_strengthOf 2 (some .int) [] 0 0 0 [ax_I p0, ax_I p1] M (some (ax_I q.1)) q.2 := by
  refine ax_ofW (by decide +kernel) (lv0 := [(0, ax_I p0), (1, ax_I p1)]) (Nat.le_of_ble_eq_true rfl) rfl ?_
  intro Z ad B hin _ _ hn hR hE
  have hag : ∀ a, a ∉ ([] : List Nat) → ad a = ad a := fun _ _ => rfl
  unfold f_V_strengthOf at hf
  refine ax_iload_n B d_V_strengthOf_0 rfl (j := 0) rfl ?_
  refine ax_iconst B (v := 5) (by decide) d_V_strengthOf_1 ?_
  refine ax_iload_n B d_V_strengthOf_2 rfl (j := 1) rfl ?_
  refine ax_imul B d_V_strengthOf_3 ?_
  refine ax_ishr B d_V_strengthOf_4 ?_
  refine ax_bipush B (v := 31) (by decide) d_V_strengthOf_5 ?_
  refine ax_iand B d_V_strengthOf_7 ?_
  exact ax_ireturn B hE d_V_strengthOf_8 hf rfl hag (by decide) (by decide)
def G_V_isStrengths_60  (M : ax_M) (s0 : Int32) : Option (Int32 × ax_M) := (ax_bo s0).bind (fun _ => some (s0, M))
set_option maxRecDepth 100000 in
set_option maxHeartbeats 4000000 in
theorem K_V_isStrengths_60 {Z : ax_Z} {ad0 ad : Nat → Nat} {q : Int32 × ax_M} (B : ax_B Z "VoteAuctions" b_V_isStrengths (some .boolean)) (hn : Z.2.2.2.2.2.2.2.2.2.2.2.1 = 6) (hR : ax_R Z 1 0 0) (hE : ax_E Z ad0 [] 0 0 (some (ax_I q.1)) q.2) (hag : ∀ a, a ∉ ([] : List Nat) → ad a = ad0 a)   : ∀ (M : ax_M) (s0 : Int32), G_V_isStrengths_60  M s0 = some q → ax_W Z ad 0 0 60 [] [ax_I s0] M := by
  intro M s0 hf
  unfold G_V_isStrengths_60 at hf
  obtain ⟨_, hb, hf⟩ := ax_bd hf
  exact ax_ireturn B hE d_V_isStrengths_60 hf (ax_bo_n hb) hag (by decide) (by decide)
def G_V_isStrengths_22 (rec22 : ax_M → Int32 → Int32 → Int32 → Int32 → Int32 → Option (Int32 × ax_M)) (M : ax_M) (v0 : Int32) (v1 : Int32) (v2 : Int32) (v3 : Int32) (v4 : Int32) : Option (Int32 × ax_M) := if v1 ≤ v4 then if v2 < v3 then G_V_isStrengths_60 M 0 else G_V_isStrengths_60 M 1 else (f_V_strengthOf M v0 v4).bind (fun q1 => (some (v3 + (q1.1 * q1.1))).bind (fun y2 => (some (v4 + 1)).bind (fun y3 => rec22 q1.2 v0 v1 v2 y2 y3)))
set_option maxRecDepth 100000 in
set_option maxHeartbeats 4000000 in
theorem K_V_isStrengths_22 {Z : ax_Z} {ad0 ad : Nat → Nat} {q : Int32 × ax_M} (B : ax_B Z "VoteAuctions" b_V_isStrengths (some .boolean)) (hn : Z.2.2.2.2.2.2.2.2.2.2.2.1 = 6) (hR : ax_R Z 1 0 0) (hE : ax_E Z ad0 [] 0 0 (some (ax_I q.1)) q.2) (hag : ∀ a, a ∉ ([] : List Nat) → ad a = ad0 a) {rec22 : ax_M → Int32 → Int32 → Int32 → Int32 → Int32 → Option (Int32 × ax_M)} (hr22 : ∀ (M : ax_M) (v0 : Int32) (v1 : Int32) (v2 : Int32) (v3 : Int32) (v4 : Int32), rec22 M v0 v1 v2 v3 v4 = some q → ax_W Z ad 0 0 22 [(0, ax_I v0), (1, ax_I v1), (2, ax_I v2), (3, ax_I v3), (4, ax_I v4)] [] M) : ∀ (M : ax_M) (v0 : Int32) (v1 : Int32) (v2 : Int32) (v3 : Int32) (v4 : Int32), G_V_isStrengths_22 rec22 M v0 v1 v2 v3 v4 = some q → ax_W Z ad 0 0 22 [(0, ax_I v0), (1, ax_I v1), (2, ax_I v2), (3, ax_I v3), (4, ax_I v4)] [] M := by
  intro M v0 v1 v2 v3 v4 hf
  unfold G_V_isStrengths_22 at hf
  refine ax_iload B (j := 4) d_V_isStrengths_22 rfl ?_
  refine ax_iload_n B d_V_isStrengths_24 rfl (j := 1) rfl ?_
  refine ax_icmp_ge B (tgt := 50) d_V_isStrengths_25 (by decide) hf (fun hf => ?_) (fun hf => ?_)
  · refine ax_iload_n B d_V_isStrengths_50 rfl (j := 3) rfl ?_
    refine ax_iload_n B d_V_isStrengths_51 rfl (j := 2) rfl ?_
    refine ax_icmp_gt B (tgt := 59) d_V_isStrengths_52 (by decide) hf (fun hf => ?_) (fun hf => ?_)
    · refine ax_iconst B (v := 0) (by decide) d_V_isStrengths_59 ?_
      refine ax_sub [] rfl ?_
      exact K_V_isStrengths_60 B hn hR hE hag M 0 hf
    · refine ax_iconst B (v := 1) (by decide) d_V_isStrengths_55 ?_
      refine ax_goto B (tgt := 60) d_V_isStrengths_56 (by decide) ?_
      refine ax_sub [] rfl ?_
      exact K_V_isStrengths_60 B hn hR hE hag M 1 hf
  · refine ax_iload_n B d_V_isStrengths_28 rfl (j := 0) rfl ?_
    refine ax_iload B (j := 4) d_V_isStrengths_29 rfl ?_
    refine ax_cSV B hR (as := [ax_I v0, ax_I v4]) (V := fun q => ax_I q.1) (N := fun q => q.2) d_V_isStrengths_31 l_V_239 m_V_strengthOf hf (fun q h => c_V_strengthOf _ _ _ _ _ h) rfl rfl (by decide) (by decide) (by decide) (by decide) (Nat.le_of_ble_eq_true rfl) (fun q1 hf => ?_)
    refine ax_istore B (lv' := [(5, ax_I q1.1), (0, ax_I v0), (1, ax_I v1), (2, ax_I v2), (3, ax_I v3), (4, ax_I v4)]) d_V_isStrengths_34 (by rw [hn]; decide) rfl ?_
    refine ax_iload_n B d_V_isStrengths_36 rfl (j := 4) rfl ?_
    refine ax_iload B (j := 0) d_V_isStrengths_37 rfl ?_
    refine ax_iload B (j := 0) d_V_isStrengths_39 rfl ?_
    refine ax_imul B d_V_isStrengths_41 ?_
    refine ax_iadd B d_V_isStrengths_42 ?_
    refine ax_nmI hf (fun y2 hf => ?_)
    refine ax_istore_n B (lv' := [(3, ax_I y2), (5, ax_I q1.1), (0, ax_I v0), (1, ax_I v1), (2, ax_I v2), (4, ax_I v4)]) d_V_isStrengths_43 rfl (by rw [hn]; decide) rfl ?_
    refine ax_iincN B (j := 5) (lv' := fun y => [(4, ax_I y), (3, ax_I y2), (5, ax_I q1.1), (0, ax_I v0), (1, ax_I v1), (2, ax_I v2)]) d_V_isStrengths_44 rfl hf rfl (by rw [hn]; decide) (fun _ => rfl) (fun y3 hf => ?_)
    refine ax_goto B (tgt := 22) d_V_isStrengths_47 (by decide) ?_
    refine ax_sub [3, 4, 5, 1, 0] rfl ?_
    exact hr22 q1.2 v0 v1 v2 y2 y3 hf
def F_V_isStrengths_22  : Nat → ax_M → Int32 → Int32 → Int32 → Int32 → Int32 → Option (Int32 × ax_M)
  | 0 => fun _ _ _ _ _ _ => none
  | n + 1 => G_V_isStrengths_22 (F_V_isStrengths_22  n)
set_option maxRecDepth 100000 in
set_option maxHeartbeats 4000000 in
theorem L_V_isStrengths_22 {Z : ax_Z} {ad0 ad : Nat → Nat} {q : Int32 × ax_M} (B : ax_B Z "VoteAuctions" b_V_isStrengths (some .boolean)) (hn : Z.2.2.2.2.2.2.2.2.2.2.2.1 = 6) (hR : ax_R Z 1 0 0) (hE : ax_E Z ad0 [] 0 0 (some (ax_I q.1)) q.2) (hag : ∀ a, a ∉ ([] : List Nat) → ad a = ad0 a)   : ∀ (n : Nat) (M : ax_M) (v0 : Int32) (v1 : Int32) (v2 : Int32) (v3 : Int32) (v4 : Int32), F_V_isStrengths_22  n M v0 v1 v2 v3 v4 = some q → ax_W Z ad 0 0 22 [(0, ax_I v0), (1, ax_I v1), (2, ax_I v2), (3, ax_I v3), (4, ax_I v4)] [] M := by
  intro n
  induction n with
  | zero => intro M v0 v1 v2 v3 v4 hf; cases hf
  | succ n ih => exact K_V_isStrengths_22 B hn hR hE hag ih
def f_V_isStrengths (M : ax_M) (p0 : Int32) (p1 : Int32) (p2 : Int32) : Option (Int32 × ax_M) := (f_V_isOutside M p0 0 ((1 <<< ((5 * p1) &&& 31)) - 1)).bind (fun q1 => if q1.1 = 0 then F_V_isStrengths_22 64 q1.2 p0 p1 p2 0 0 else some (0, q1.2))
set_option maxRecDepth 100000 in
set_option maxHeartbeats 4000000 in
theorem c_V_isStrengths (l : Launch) (G : ax_G) (M : ax_M) (p0 : Int32) (p1 : Int32) (p2 : Int32) {q : Int32 × ax_M} (hf : f_V_isStrengths M p0 p1 p2 = some q) : ax_C l G y_V_isStrengths b_V_isStrengths 6 (some .boolean) [] 1 0 0 [ax_I p0, ax_I p1, ax_I p2] M (some (ax_I q.1)) q.2 := by
  refine ax_ofW (by decide +kernel) (lv0 := [(0, ax_I p0), (1, ax_I p1), (2, ax_I p2)]) (Nat.le_of_ble_eq_true rfl) rfl ?_
  intro Z ad B hin _ _ hn hR hE
  have hag : ∀ a, a ∉ ([] : List Nat) → ad a = ad a := fun _ _ => rfl
  unfold f_V_isStrengths at hf
  refine ax_iload_n B d_V_isStrengths_0 rfl (j := 0) rfl ?_
  refine ax_iconst B (v := 0) (by decide) d_V_isStrengths_1 ?_
  refine ax_iconst B (v := 1) (by decide) d_V_isStrengths_2 ?_
  refine ax_iconst B (v := 5) (by decide) d_V_isStrengths_3 ?_
  refine ax_iload_n B d_V_isStrengths_4 rfl (j := 1) rfl ?_
  refine ax_imul B d_V_isStrengths_5 ?_
  refine ax_ishl B d_V_isStrengths_6 ?_
  refine ax_iconst B (v := 1) (by decide) d_V_isStrengths_7 ?_
  refine ax_isub B d_V_isStrengths_8 ?_
  refine ax_cSV B hR (as := [ax_I p0, ax_I 0, ax_I ((1 <<< ((5 * p1) &&& 31)) - 1)]) (V := fun q => ax_I q.1) (N := fun q => q.2) d_V_isStrengths_9 l_V_44 m_V_isOutside hf (fun q h => c_V_isOutside _ _ _ _ _ _ h) rfl rfl (by decide) (by decide) (by decide) (by decide) (Nat.le_of_ble_eq_true rfl) (fun q1 hf => ?_)
  refine ax_if_eq B (tgt := 17) d_V_isStrengths_12 (by decide) hf (fun hf => ?_) (fun hf => ?_)
  · refine ax_iconst B (v := 0) (by decide) d_V_isStrengths_17 ?_
    refine ax_istore_n B (lv' := [(3, ax_I 0), (0, ax_I p0), (1, ax_I p1), (2, ax_I p2)]) d_V_isStrengths_18 rfl (by rw [hn]; decide) rfl ?_
    refine ax_iconst B (v := 0) (by decide) d_V_isStrengths_19 ?_
    refine ax_istore B (lv' := [(4, ax_I 0), (3, ax_I 0), (0, ax_I p0), (1, ax_I p1), (2, ax_I p2)]) d_V_isStrengths_20 (by rw [hn]; decide) rfl ?_
    refine ax_sub [2, 3, 4, 1, 0] rfl ?_
    exact L_V_isStrengths_22 B hn hR hE hag 64 q1.2 p0 p1 p2 0 0 hf
  · refine ax_iconst B (v := 0) (by decide) d_V_isStrengths_15 ?_
    exact ax_ireturn B hE d_V_isStrengths_16 hf rfl hag (by decide) (by decide)
def G_V_isVote_73  (M : ax_M) (s0 : Int32) : Option (Int32 × ax_M) := (ax_bo s0).bind (fun _ => some (s0, M))
set_option maxRecDepth 100000 in
set_option maxHeartbeats 4000000 in
theorem K_V_isVote_73 {Z : ax_Z} {ad0 ad : Nat → Nat} {q : Int32 × ax_M} (B : ax_B Z "VoteAuctions" b_V_isVote (some .boolean)) (hn : Z.2.2.2.2.2.2.2.2.2.2.2.1 = 3) (hR : ax_R Z 2 0 0) (hE : ax_E Z ad0 [] 0 0 (some (ax_I q.1)) q.2) (hag : ∀ a, a ∉ ([] : List Nat) → ad a = ad0 a)   : ∀ (M : ax_M) (s0 : Int32), G_V_isVote_73  M s0 = some q → ax_W Z ad 0 0 73 [] [ax_I s0] M := by
  intro M s0 hf
  unfold G_V_isVote_73 at hf
  obtain ⟨_, hb, hf⟩ := ax_bd hf
  exact ax_ireturn B hE d_V_isVote_73 hf (ax_bo_n hb) hag (by decide) (by decide)
def G_V_isVote_51  (M : ax_M) (s0 : Int32) : Option (Int32 × ax_M) := (ax_bo s0).bind (fun _ => some (s0, M))
set_option maxRecDepth 100000 in
set_option maxHeartbeats 4000000 in
theorem K_V_isVote_51 {Z : ax_Z} {ad0 ad : Nat → Nat} {q : Int32 × ax_M} (B : ax_B Z "VoteAuctions" b_V_isVote (some .boolean)) (hn : Z.2.2.2.2.2.2.2.2.2.2.2.1 = 3) (hR : ax_R Z 2 0 0) (hE : ax_E Z ad0 [] 0 0 (some (ax_I q.1)) q.2) (hag : ∀ a, a ∉ ([] : List Nat) → ad a = ad0 a)   : ∀ (M : ax_M) (s0 : Int32), G_V_isVote_51  M s0 = some q → ax_W Z ad 0 0 51 [] [ax_I s0] M := by
  intro M s0 hf
  unfold G_V_isVote_51 at hf
  obtain ⟨_, hb, hf⟩ := ax_bd hf
  exact ax_ireturn B hE d_V_isVote_51 hf (ax_bo_n hb) hag (by decide) (by decide)
def f_V_isVote (M : ax_M) (p0 : Option Nat) (p1 : Int32) (p2 : Int32) : Option (Int32 × ax_M) := (ax_gi M 1 0 p0).bind (fun x1 => if x1 = 0 then (ax_gi M 1 1 p0).bind (fun x2 => (f_V_isOutside M p2 0 (x2 - 1)).bind (fun q3 => if q3.1 = 0 then G_V_isVote_51 q3.2 1 else G_V_isVote_51 q3.2 0)) else if x1 = 1 then (ax_gi M 1 1 p0).bind (fun x4 => (f_V_isOutside M p2 1 ((1 <<< (x4 &&& 31)) - 1)).bind (fun q5 => if q5.1 = 0 then G_V_isVote_73 q5.2 1 else G_V_isVote_73 q5.2 0)) else if x1 = 2 then (ax_gi M 1 1 p0).bind (fun x6 => (f_V_isRanks M p2 x6).bind (fun q7 => (ax_bo q7.1).bind (fun _ => some (q7.1, q7.2)))) else (ax_gi M 1 1 p0).bind (fun x8 => (ax_gr M 1 5 p0).bind (fun x9 => (ax_ri M 0 x9 p1).bind (fun x10 => (f_V_isStrengths M p2 x8 x10).bind (fun q11 => (ax_bo q11.1).bind (fun _ => some (q11.1, q11.2)))))))
set_option maxRecDepth 100000 in
set_option maxHeartbeats 4000000 in
theorem c_V_isVote (l : Launch) (G : ax_G) (M : ax_M) (p0 : Option Nat) (p1 : Int32) (p2 : Int32) {q : Int32 × ax_M} (hf : f_V_isVote M p0 p1 p2 = some q) : ax_C l G y_V_isVote b_V_isVote 3 (some .boolean) [] 2 0 0 [ax_O p0, ax_I p1, ax_I p2] M (some (ax_I q.1)) q.2 := by
  refine ax_ofW (by decide +kernel) (lv0 := [(0, ax_O p0), (1, ax_I p1), (2, ax_I p2)]) (Nat.le_of_ble_eq_true rfl) rfl ?_
  intro Z ad B hin _ _ hn hR hE
  have hag : ∀ a, a ∉ ([] : List Nat) → ad a = ad a := fun _ _ => rfl
  unfold f_V_isVote at hf
  refine ax_aload_n B d_V_isVote_0 rfl (j := 0) rfl ?_
  refine ax_getI B d_V_isVote_1 k_V_140 rfl hf (fun x1 hf => ?_)
  refine ax_tsw3 B (t0 := 32) (t1 := 52) (t2 := 74) (t3 := 83) d_V_isVote_4 (by decide) (by decide) (by decide) (by decide) hf (fun hf => ?_) (fun hf => ?_) (fun hf => ?_) (fun hf => ?_)
  · refine ax_iload_n B d_V_isVote_32 rfl (j := 2) rfl ?_
    refine ax_iconst B (v := 0) (by decide) d_V_isVote_33 ?_
    refine ax_aload_n B d_V_isVote_34 rfl (j := 0) rfl ?_
    refine ax_getI B d_V_isVote_35 k_V_133 rfl hf (fun x2 hf => ?_)
    refine ax_iconst B (v := 1) (by decide) d_V_isVote_38 ?_
    refine ax_isub B d_V_isVote_39 ?_
    refine ax_cSV B hR (as := [ax_I p2, ax_I 0, ax_I (x2 - 1)]) (V := fun q => ax_I q.1) (N := fun q => q.2) d_V_isVote_40 l_V_44 m_V_isOutside hf (fun q h => c_V_isOutside _ _ _ _ _ _ h) rfl rfl (by decide) (by decide) (by decide) (by decide) (Nat.le_of_ble_eq_true rfl) (fun q3 hf => ?_)
    refine ax_if_ne B (tgt := 50) d_V_isVote_43 (by decide) hf (fun hf => ?_) (fun hf => ?_)
    · refine ax_iconst B (v := 1) (by decide) d_V_isVote_46 ?_
      refine ax_goto B (tgt := 51) d_V_isVote_47 (by decide) ?_
      refine ax_sub [] rfl ?_
      exact K_V_isVote_51 B hn hR hE hag q3.2 1 hf
    · refine ax_iconst B (v := 0) (by decide) d_V_isVote_50 ?_
      refine ax_sub [] rfl ?_
      exact K_V_isVote_51 B hn hR hE hag q3.2 0 hf
  · refine ax_iload_n B d_V_isVote_52 rfl (j := 2) rfl ?_
    refine ax_iconst B (v := 1) (by decide) d_V_isVote_53 ?_
    refine ax_iconst B (v := 1) (by decide) d_V_isVote_54 ?_
    refine ax_aload_n B d_V_isVote_55 rfl (j := 0) rfl ?_
    refine ax_getI B d_V_isVote_56 k_V_133 rfl hf (fun x4 hf => ?_)
    refine ax_ishl B d_V_isVote_59 ?_
    refine ax_iconst B (v := 1) (by decide) d_V_isVote_60 ?_
    refine ax_isub B d_V_isVote_61 ?_
    refine ax_cSV B hR (as := [ax_I p2, ax_I 1, ax_I ((1 <<< (x4 &&& 31)) - 1)]) (V := fun q => ax_I q.1) (N := fun q => q.2) d_V_isVote_62 l_V_44 m_V_isOutside hf (fun q h => c_V_isOutside _ _ _ _ _ _ h) rfl rfl (by decide) (by decide) (by decide) (by decide) (Nat.le_of_ble_eq_true rfl) (fun q5 hf => ?_)
    refine ax_if_ne B (tgt := 72) d_V_isVote_65 (by decide) hf (fun hf => ?_) (fun hf => ?_)
    · refine ax_iconst B (v := 1) (by decide) d_V_isVote_68 ?_
      refine ax_goto B (tgt := 73) d_V_isVote_69 (by decide) ?_
      refine ax_sub [] rfl ?_
      exact K_V_isVote_73 B hn hR hE hag q5.2 1 hf
    · refine ax_iconst B (v := 0) (by decide) d_V_isVote_72 ?_
      refine ax_sub [] rfl ?_
      exact K_V_isVote_73 B hn hR hE hag q5.2 0 hf
  · refine ax_iload_n B d_V_isVote_74 rfl (j := 2) rfl ?_
    refine ax_aload_n B d_V_isVote_75 rfl (j := 0) rfl ?_
    refine ax_getI B d_V_isVote_76 k_V_133 rfl hf (fun x6 hf => ?_)
    refine ax_cSV B hR (as := [ax_I p2, ax_I x6]) (V := fun q => ax_I q.1) (N := fun q => q.2) d_V_isVote_79 l_V_229 m_V_isRanks hf (fun q h => c_V_isRanks _ _ _ _ _ h) rfl rfl (by decide) (by decide) (by decide) (by decide) (Nat.le_of_ble_eq_true rfl) (fun q7 hf => ?_)
    obtain ⟨_, hb, hf⟩ := ax_bd hf
    exact ax_ireturn B hE d_V_isVote_82 hf (ax_bo_n hb) hag (by decide) (by decide)
  · refine ax_iload_n B d_V_isVote_83 rfl (j := 2) rfl ?_
    refine ax_aload_n B d_V_isVote_84 rfl (j := 0) rfl ?_
    refine ax_getI B d_V_isVote_85 k_V_133 rfl hf (fun x8 hf => ?_)
    refine ax_aload_n B d_V_isVote_88 rfl (j := 0) rfl ?_
    refine ax_getR B d_V_isVote_89 k_V_85 rfl hf (fun x9 hf => ?_)
    refine ax_iload_n B d_V_isVote_92 rfl (j := 1) rfl ?_
    refine ax_iald B d_V_isVote_93 (t := 0) (by decide) rfl hf (fun x10 hf => ?_)
    refine ax_cSV B hR (as := [ax_I p2, ax_I x8, ax_I x10]) (V := fun q => ax_I q.1) (N := fun q => q.2) d_V_isVote_94 l_V_233 m_V_isStrengths hf (fun q h => c_V_isStrengths _ _ _ _ _ _ h) rfl rfl (by decide) (by decide) (by decide) (by decide) (Nat.le_of_ble_eq_true rfl) (fun q11 hf => ?_)
    obtain ⟨_, hb, hf⟩ := ax_bd hf
    exact ax_ireturn B hE d_V_isVote_97 hf (ax_bo_n hb) hag (by decide) (by decide)
