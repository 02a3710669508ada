def G_V_count_24  (M : ax_M)  : Option (Int32 × ax_M) := some ((-1), M)
set_option maxRecDepth 100000 in
set_option maxHeartbeats 4000000 in
theorem K_V_count_24 {Z : ax_Z} {ad0 ad : Nat → Nat} {q : Int32 × ax_M} (B : ax_B Z "VoteAuctions" b_V_count (some .int)) (hn : Z.2.2.2.2.2.2.2.2.2.2.2.1 = 4) (hR : ax_R Z 5 0 0) (hE : ax_E Z ad0 [] 0 0 (some (ax_I q.1)) q.2) (hag : ∀ a, a ∉ ([] : List Nat) → ad a = ad0 a)   : ∀ (M : ax_M) , G_V_count_24  M  = some q → ax_W Z ad 0 0 24 [] [] M := by
  intro M  hf
  unfold G_V_count_24 at hf
  refine ax_iconst B (v := (-1)) (by decide) d_V_count_24 ?_
  exact ax_ireturn B hE d_V_count_25 hf rfl hag (by decide) (by decide)
def f_V_count (M : ax_M) (x0 : Option Nat) (p0 : Int32) (p1 : Int32) : Option (Int32 × ax_M) := (ax_ob M 0 x0).bind (fun _ => (f_V_questionAt M x0 p0).bind (fun q1 => if q1.1 = none then G_V_count_24 q1.2 else (ax_gi q1.2 1 1 q1.1).bind (fun x2 => (f_V_isOutside q1.2 p1 0 (x2 - 1)).bind (fun q3 => if q3.1 = 0 then (ax_ob q3.2 0 x0).bind (fun _ => (f_V_countVotes q3.2 x0 q1.1).bind (fun q4 => (ax_gr q4 0 12 x0).bind (fun x5 => (ax_ri q4 0 x5 p1).bind (fun x6 => some (x6, q4))))) else G_V_count_24 q3.2))))
set_option maxRecDepth 100000 in
set_option maxHeartbeats 4000000 in
theorem c_V_count (l : Launch) (G : ax_G) (M : ax_M) (x0 : Option Nat) (p0 : Int32) (p1 : Int32) {q : Int32 × ax_M} (hf : f_V_count M x0 p0 p1 = some q) : ax_C l G y_V_count b_V_count 4 (some .int) [] 5 0 0 [ax_O x0, ax_I p0, ax_I p1] M (some (ax_I q.1)) q.2 := by
  refine ax_ofW (by decide +kernel) (lv0 := [(0, ax_O x0), (1, ax_I p0), (2, ax_I p1)]) (Nat.le_of_ble_eq_true rfl) rfl ?_
  intro Z ad B hin _ _ hn hR hE
  have hag : ∀ a, a ∉ ([] : List Nat) → ad a = ad a := fun _ _ => rfl
  unfold f_V_count at hf
  refine ax_aload_n B d_V_count_0 rfl (j := 0) rfl ?_
  refine ax_iload_n B d_V_count_1 rfl (j := 1) rfl ?_
  refine ax_cVV B hR (as := [ax_I p0]) (V := fun q => ax_O q.1) (N := fun q => q.2) d_V_count_2 l_V_92 m_V_questionAt hf (fun q h => c_V_questionAt _ _ _ _ _ h) rfl rfl (by decide) (by decide) (by decide) (by decide) (Nat.le_of_ble_eq_true rfl) (fun q1 hf => ?_)
  refine ax_astore_n B (lv' := [(3, ax_O q1.1), (0, ax_O x0), (1, ax_I p0), (2, ax_I p1)]) d_V_count_5 rfl (by rw [hn]; decide) rfl ?_
  refine ax_aload_n B d_V_count_6 rfl (j := 0) rfl ?_
  refine ax_ifnull B (tgt := 24) d_V_count_7 (by decide) hf (fun hf => ?_) (fun hf => ?_)
  · refine ax_sub [] rfl ?_
    exact K_V_count_24 B hn hR hE hag q1.2 hf
  · refine ax_iload_n B d_V_count_10 rfl (j := 3) rfl ?_
    refine ax_iconst B (v := 0) (by decide) d_V_count_11 ?_
    refine ax_aload_n B d_V_count_12 rfl (j := 0) rfl ?_
    refine ax_getI B d_V_count_13 k_V_133 rfl hf (fun x2 hf => ?_)
    refine ax_iconst B (v := 1) (by decide) d_V_count_16 ?_
    refine ax_isub B d_V_count_17 ?_
    refine ax_cSV B hR (as := [ax_I p1, ax_I 0, ax_I (x2 - 1)]) (V := fun q => ax_I q.1) (N := fun q => q.2) d_V_count_18 l_V_44 m_V_isOutside hf (fun q h => c_V_isOutside _ _ _ _ _ _ h) rfl rfl (by decide) (by decide) (by decide) (by decide) (Nat.le_of_ble_eq_true rfl) (fun q3 hf => ?_)
    refine ax_if_eq B (tgt := 26) d_V_count_21 (by decide) hf (fun hf => ?_) (fun hf => ?_)
    · refine ax_aload_n B d_V_count_26 rfl (j := 1) rfl ?_
      refine ax_aload_n B d_V_count_27 rfl (j := 0) rfl ?_
      refine ax_cVN B hR (as := [ax_O q1.1]) (N := fun q => q) d_V_count_28 l_V_136 m_V_countVotes hf (fun q h => c_V_countVotes _ _ _ _ _ h) rfl rfl (by decide) (by decide) (by decide) (by decide) (Nat.le_of_ble_eq_true rfl) (fun q4 hf => ?_)
      refine ax_aload_n B d_V_count_31 rfl (j := 1) rfl ?_
      refine ax_getR B d_V_count_32 k_V_38 rfl hf (fun x5 hf => ?_)
      refine ax_iload_n B d_V_count_35 rfl (j := 3) rfl ?_
      refine ax_iald B d_V_count_36 (t := 0) (by decide) rfl hf (fun x6 hf => ?_)
      exact ax_ireturn B hE d_V_count_37 hf rfl hag (by decide) (by decide)
    · refine ax_sub [] rfl ?_
      exact K_V_count_24 B hn hR hE hag q3.2 hf
def G_V_fallen_52  (M : ax_M) (s0 : Int32) : Option (Int32 × ax_M) := some (s0, M)
set_option maxRecDepth 100000 in
set_option maxHeartbeats 4000000 in
theorem K_V_fallen_52 {Z : ax_Z} {ad0 ad : Nat → Nat} {q : Int32 × ax_M} (B : ax_B Z "VoteAuctions" b_V_fallen (some .int)) (hn : Z.2.2.2.2.2.2.2.2.2.2.2.1 = 4) (hR : ax_R Z 5 0 0) (hE : ax_E Z ad0 [] 0 0 (some (ax_I q.1)) q.2) (hag : ∀ a, a ∉ ([] : List Nat) → ad a = ad0 a)   : ∀ (M : ax_M) (s0 : Int32), G_V_fallen_52  M s0 = some q → ax_W Z ad 0 0 52 [] [ax_I s0] M := by
  intro M s0 hf
  unfold G_V_fallen_52 at hf
  exact ax_ireturn B hE d_V_fallen_52 hf rfl hag (by decide) (by decide)
def f_V_fallen (M : ax_M) (x0 : Option Nat) (p0 : Int32) (p1 : Int32) : Option (Int32 × ax_M) := (ax_ob M 0 x0).bind (fun _ => (f_V_questionAt M x0 p0).bind (fun q1 => if q1.1 = none then some ((-1), q1.2) else (ax_gi q1.2 1 0 q1.1).bind (fun x2 => if x2 = 2 then (ax_ob q1.2 0 x0).bind (fun _ => (f_V_countVotes q1.2 x0 q1.1).bind (fun q3 => (ax_gi q3 0 14 x0).bind (fun x4 => (f_V_isOutside q3 p1 0 (x4 - 1)).bind (fun q5 => if q5.1 = 0 then (ax_gr q5.2 0 13 x0).bind (fun x6 => (ax_ri q5.2 0 x6 p1).bind (fun x7 => G_V_fallen_52 q5.2 x7)) else G_V_fallen_52 q5.2 (-1))))) else some ((-3), q1.2))))
set_option maxRecDepth 100000 in
set_option maxHeartbeats 4000000 in
theorem c_V_fallen (l : Launch) (G : ax_G) (M : ax_M) (x0 : Option Nat) (p0 : Int32) (p1 : Int32) {q : Int32 × ax_M} (hf : f_V_fallen M x0 p0 p1 = some q) : ax_C l G y_V_fallen b_V_fallen 4 (some .int) [] 5 0 0 [ax_O x0, ax_I p0, ax_I p1] M (some (ax_I q.1)) q.2 := by
  refine ax_ofW (by decide +kernel) (lv0 := [(0, ax_O x0), (1, ax_I p0), (2, ax_I p1)]) (Nat.le_of_ble_eq_true rfl) rfl ?_
  intro Z ad B hin _ _ hn hR hE
  have hag : ∀ a, a ∉ ([] : List Nat) → ad a = ad a := fun _ _ => rfl
  unfold f_V_fallen at hf
  refine ax_aload_n B d_V_fallen_0 rfl (j := 0) rfl ?_
  refine ax_iload_n B d_V_fallen_1 rfl (j := 1) rfl ?_
  refine ax_cVV B hR (as := [ax_I p0]) (V := fun q => ax_O q.1) (N := fun q => q.2) d_V_fallen_2 l_V_92 m_V_questionAt hf (fun q h => c_V_questionAt _ _ _ _ _ h) rfl rfl (by decide) (by decide) (by decide) (by decide) (Nat.le_of_ble_eq_true rfl) (fun q1 hf => ?_)
  refine ax_astore_n B (lv' := [(3, ax_O q1.1), (0, ax_O x0), (1, ax_I p0), (2, ax_I p1)]) d_V_fallen_5 rfl (by rw [hn]; decide) rfl ?_
  refine ax_aload_n B d_V_fallen_6 rfl (j := 0) rfl ?_
  refine ax_ifnonnull B (tgt := 12) d_V_fallen_7 (by decide) hf (fun hf => ?_) (fun hf => ?_)
  · refine ax_iconst B (v := (-1)) (by decide) d_V_fallen_10 ?_
    exact ax_ireturn B hE d_V_fallen_11 hf rfl hag (by decide) (by decide)
  · refine ax_aload_n B d_V_fallen_12 rfl (j := 0) rfl ?_
    refine ax_getI B d_V_fallen_13 k_V_140 rfl hf (fun x2 hf => ?_)
    refine ax_iconst B (v := 2) (by decide) d_V_fallen_16 ?_
    refine ax_icmp_eq B (tgt := 23) d_V_fallen_17 (by decide) hf (fun hf => ?_) (fun hf => ?_)
    · refine ax_aload_n B d_V_fallen_23 rfl (j := 1) rfl ?_
      refine ax_aload_n B d_V_fallen_24 rfl (j := 0) rfl ?_
      refine ax_cVN B hR (as := [ax_O q1.1]) (N := fun q => q) d_V_fallen_25 l_V_136 m_V_countVotes hf (fun q h => c_V_countVotes _ _ _ _ _ h) rfl rfl (by decide) (by decide) (by decide) (by decide) (Nat.le_of_ble_eq_true rfl) (fun q3 hf => ?_)
      refine ax_iload_n B d_V_fallen_28 rfl (j := 3) rfl ?_
      refine ax_iconst B (v := 0) (by decide) d_V_fallen_29 ?_
      refine ax_aload_n B d_V_fallen_30 rfl (j := 1) rfl ?_
      refine ax_getI B d_V_fallen_31 k_V_143 rfl hf (fun x4 hf => ?_)
      refine ax_iconst B (v := 1) (by decide) d_V_fallen_34 ?_
      refine ax_isub B d_V_fallen_35 ?_
      refine ax_cSV B hR (as := [ax_I p1, ax_I 0, ax_I (x4 - 1)]) (V := fun q => ax_I q.1) (N := fun q => q.2) d_V_fallen_36 l_V_44 m_V_isOutside hf (fun q h => c_V_isOutside _ _ _ _ _ _ h) rfl rfl (by decide) (by decide) (by decide) (by decide) (Nat.le_of_ble_eq_true rfl) (fun q5 hf => ?_)
      refine ax_if_eq B (tgt := 46) d_V_fallen_39 (by decide) hf (fun hf => ?_) (fun hf => ?_)
      · refine ax_aload_n B d_V_fallen_46 rfl (j := 1) rfl ?_
        refine ax_getR B d_V_fallen_47 k_V_41 rfl hf (fun x6 hf => ?_)
        refine ax_iload_n B d_V_fallen_50 rfl (j := 3) rfl ?_
        refine ax_iald B d_V_fallen_51 (t := 0) (by decide) rfl hf (fun x7 hf => ?_)
        refine ax_sub [] rfl ?_
        exact K_V_fallen_52 B hn hR hE hag q5.2 x7 hf
      · refine ax_iconst B (v := (-1)) (by decide) d_V_fallen_42 ?_
        refine ax_goto B (tgt := 52) d_V_fallen_43 (by decide) ?_
        refine ax_sub [] rfl ?_
        exact K_V_fallen_52 B hn hR hE hag q5.2 (-1) hf
    · refine ax_bipush B (v := (-3)) (by decide) d_V_fallen_20 ?_
      exact ax_ireturn B hE d_V_fallen_22 hf rfl hag (by decide) (by decide)
def G_V_mostCounted_38 (rec7 : ax_M → Option Nat → Option Nat → Int32 → Int32 → Int32 → Option (Int32 × ax_M)) (M : ax_M) (v0 : Option Nat) (v1 : Option Nat) (v2 : Int32) (v3 : Int32) (v4 : Int32) : Option (Int32 × ax_M) := (some (v4 + 1)).bind (fun y1 => rec7 M v0 v1 v2 v3 y1)
set_option maxRecDepth 100000 in
set_option maxHeartbeats 4000000 in
theorem K_V_mostCounted_38 {Z : ax_Z} {ad0 ad : Nat → Nat} {q : Int32 × ax_M} (B : ax_B Z "VoteAuctions" b_V_mostCounted (some .int)) (hn : Z.2.2.2.2.2.2.2.2.2.2.2.1 = 5) (hR : ax_R Z 0 0 0) (hE : ax_E Z ad0 [] 0 0 (some (ax_I q.1)) q.2) (hag : ∀ a, a ∉ ([] : List Nat) → ad a = ad0 a) {rec7 : ax_M → Option Nat → Option Nat → Int32 → Int32 → Int32 → Option (Int32 × ax_M)} (hr7 : ∀ (M : ax_M) (v0 : Option Nat) (v1 : Option Nat) (v2 : Int32) (v3 : Int32) (v4 : Int32), rec7 M v0 v1 v2 v3 v4 = some q → ax_W Z ad 0 0 7 [(0, ax_O v0), (1, ax_O v1), (2, ax_I v2), (3, ax_I v3), (4, ax_I v4)] [] M) : ∀ (M : ax_M) (v0 : Option Nat) (v1 : Option Nat) (v2 : Int32) (v3 : Int32) (v4 : Int32), G_V_mostCounted_38 rec7 M v0 v1 v2 v3 v4 = some q → ax_W Z ad 0 0 38 [(0, ax_O v0), (1, ax_O v1), (2, ax_I v2), (3, ax_I v3), (4, ax_I v4)] [] M := by
  intro M v0 v1 v2 v3 v4 hf
  unfold G_V_mostCounted_38 at hf
  refine ax_iincN B (j := 4) (lv' := fun y => [(4, ax_I y), (0, ax_O v0), (1, ax_O v1), (2, ax_I v2), (3, ax_I v3)]) d_V_mostCounted_38 rfl hf rfl (by rw [hn]; decide) (fun _ => rfl) (fun y1 hf => ?_)
  refine ax_goto B (tgt := 7) d_V_mostCounted_41 (by decide) ?_
  refine ax_sub [1, 2, 3, 4, 0] rfl ?_
  exact hr7 M v0 v1 v2 v3 y1 hf
def G_V_mostCounted_7 (rec7 : ax_M → Option Nat → Option Nat → Int32 → Int32 → Int32 → Option (Int32 × ax_M)) (M : ax_M) (v0 : Option Nat) (v1 : Option Nat) (v2 : Int32) (v3 : Int32) (v4 : Int32) : Option (Int32 × ax_M) := (ax_gi M 1 1 v1).bind (fun x1 => if x1 ≤ v4 then some (v2, M) else (ax_gr M 0 12 v0).bind (fun x2 => (ax_ri M 0 x2 v4).bind (fun x3 => if x3 ≤ v3 then G_V_mostCounted_38 rec7 M v0 v1 v2 v3 v4 else (ax_gr M 0 12 v0).bind (fun x4 => (ax_ri M 0 x4 v4).bind (fun x5 => G_V_mostCounted_38 rec7 M v0 v1 v4 x5 v4)))))
set_option maxRecDepth 100000 in
set_option maxHeartbeats 4000000 in
theorem K_V_mostCounted_7 {Z : ax_Z} {ad0 ad : Nat → Nat} {q : Int32 × ax_M} (B : ax_B Z "VoteAuctions" b_V_mostCounted (some .int)) (hn : Z.2.2.2.2.2.2.2.2.2.2.2.1 = 5) (hR : ax_R Z 0 0 0) (hE : ax_E Z ad0 [] 0 0 (some (ax_I q.1)) q.2) (hag : ∀ a, a ∉ ([] : List Nat) → ad a = ad0 a) {rec7 : ax_M → Option Nat → Option Nat → Int32 → Int32 → Int32 → Option (Int32 × ax_M)} (hr7 : ∀ (M : ax_M) (v0 : Option Nat) (v1 : Option Nat) (v2 : Int32) (v3 : Int32) (v4 : Int32), rec7 M v0 v1 v2 v3 v4 = some q → ax_W Z ad 0 0 7 [(0, ax_O v0), (1, ax_O v1), (2, ax_I v2), (3, ax_I v3), (4, ax_I v4)] [] M) : ∀ (M : ax_M) (v0 : Option Nat) (v1 : Option Nat) (v2 : Int32) (v3 : Int32) (v4 : Int32), G_V_mostCounted_7 rec7 M v0 v1 v2 v3 v4 = some q → ax_W Z ad 0 0 7 [(0, ax_O v0), (1, ax_O v1), (2, ax_I v2), (3, ax_I v3), (4, ax_I v4)] [] M := by
  intro M v0 v1 v2 v3 v4 hf
  unfold G_V_mostCounted_7 at hf
  refine ax_iload B (j := 4) d_V_mostCounted_7 rfl ?_
  refine ax_aload_n B d_V_mostCounted_9 rfl (j := 1) rfl ?_
  refine ax_getI B d_V_mostCounted_10 k_V_133 rfl hf (fun x1 hf => ?_)
  refine ax_icmp_ge B (tgt := 44) d_V_mostCounted_13 (by decide) hf (fun hf => ?_) (fun hf => ?_)
  · refine ax_iload_n B d_V_mostCounted_44 rfl (j := 2) rfl ?_
    exact ax_ireturn B hE d_V_mostCounted_45 hf rfl hag (by decide) (by decide)
  · refine ax_aload_n B d_V_mostCounted_16 rfl (j := 0) rfl ?_
    refine ax_getR B d_V_mostCounted_17 k_V_38 rfl hf (fun x2 hf => ?_)
    refine ax_iload B (j := 4) d_V_mostCounted_20 rfl ?_
    refine ax_iald B d_V_mostCounted_22 (t := 0) (by decide) rfl hf (fun x3 hf => ?_)
    refine ax_iload_n B d_V_mostCounted_23 rfl (j := 3) rfl ?_
    refine ax_icmp_le B (tgt := 38) d_V_mostCounted_24 (by decide) hf (fun hf => ?_) (fun hf => ?_)
    · exact K_V_mostCounted_38 B hn hR hE hag hr7 M v0 v1 v2 v3 v4 hf
    · refine ax_iload B (j := 4) d_V_mostCounted_27 rfl ?_
      refine ax_istore_n B (lv' := [(2, ax_I v4), (0, ax_O v0), (1, ax_O v1), (3, ax_I v3), (4, ax_I v4)]) d_V_mostCounted_29 rfl (by rw [hn]; decide) rfl ?_
      refine ax_aload_n B d_V_mostCounted_30 rfl (j := 1) rfl ?_
      refine ax_getR B d_V_mostCounted_31 k_V_38 rfl hf (fun x4 hf => ?_)
      refine ax_iload B (j := 4) d_V_mostCounted_34 rfl ?_
      refine ax_iald B d_V_mostCounted_36 (t := 0) (by decide) rfl hf (fun x5 hf => ?_)
      refine ax_istore_n B (lv' := [(3, ax_I x5), (2, ax_I v4), (0, ax_O v0), (1, ax_O v1), (4, ax_I v4)]) d_V_mostCounted_37 rfl (by rw [hn]; decide) rfl ?_
      refine ax_sub [2, 3, 1, 0, 4] rfl ?_
      exact K_V_mostCounted_38 B hn hR hE hag hr7 M v0 v1 v4 x5 v4 hf
def F_V_mostCounted_7  : Nat → ax_M → Option Nat → Option Nat → Int32 → Int32 → Int32 → Option (Int32 × ax_M)
  | 0 => fun _ _ _ _ _ _ => none
  | n + 1 => G_V_mostCounted_7 (F_V_mostCounted_7  n)
set_option maxRecDepth 100000 in
set_option maxHeartbeats 4000000 in
theorem L_V_mostCounted_7 {Z : ax_Z} {ad0 ad : Nat → Nat} {q : Int32 × ax_M} (B : ax_B Z "VoteAuctions" b_V_mostCounted (some .int)) (hn : Z.2.2.2.2.2.2.2.2.2.2.2.1 = 5) (hR : ax_R Z 0 0 0) (hE : ax_E Z ad0 [] 0 0 (some (ax_I q.1)) q.2) (hag : ∀ a, a ∉ ([] : List Nat) → ad a = ad0 a)   : ∀ (n : Nat) (M : ax_M) (v0 : Option Nat) (v1 : Option Nat) (v2 : Int32) (v3 : Int32) (v4 : Int32), F_V_mostCounted_7  n M v0 v1 v2 v3 v4 = some q → ax_W Z ad 0 0 7 [(0, ax_O v0), (1, ax_O v1), (2, ax_I v2), (3, ax_I v3), (4, ax_I v4)] [] M := by
  intro n
  induction n with
  | zero => intro M v0 v1 v2 v3 v4 hf; cases hf
  | succ n ih => exact K_V_mostCounted_7 B hn hR hE hag ih
def f_V_mostCounted (M : ax_M) (x0 : Option Nat) (p0 : Option Nat) : Option (Int32 × ax_M) := F_V_mostCounted_7 64 M x0 p0 (-1) 0 0
set_option maxRecDepth 100000 in
set_option maxHeartbeats 4000000 in
theorem c_V_mostCounted (l : Launch) (G : ax_G) (M : ax_M) (x0 : Option Nat) (p0 : Option Nat) {q : Int32 × ax_M} (hf : f_V_mostCounted M x0 p0 = some q) : ax_C l G y_V_mostCounted b_V_mostCounted 5 (some .int) [] 0 0 0 [ax_O x0, ax_O p0] M (some (ax_I q.1)) q.2 := by
  refine ax_ofW (by decide +kernel) (lv0 := [(0, ax_O x0), (1, ax_O p0)]) (Nat.le_of_ble_eq_true rfl) rfl ?_
  intro Z ad B hin _ _ hn hR hE
  have hag : ∀ a, a ∉ ([] : List Nat) → ad a = ad a := fun _ _ => rfl
  unfold f_V_mostCounted at hf
  refine ax_iconst B (v := (-1)) (by decide) d_V_mostCounted_0 ?_
  refine ax_istore_n B (lv' := [(2, ax_I (-1)), (0, ax_O x0), (1, ax_O p0)]) d_V_mostCounted_1 rfl (by rw [hn]; decide) rfl ?_
  refine ax_iconst B (v := 0) (by decide) d_V_mostCounted_2 ?_
  refine ax_istore_n B (lv' := [(3, ax_I 0), (2, ax_I (-1)), (0, ax_O x0), (1, ax_O p0)]) d_V_mostCounted_3 rfl (by rw [hn]; decide) rfl ?_
  refine ax_iconst B (v := 0) (by decide) d_V_mostCounted_4 ?_
  refine ax_istore B (lv' := [(4, ax_I 0), (3, ax_I 0), (2, ax_I (-1)), (0, ax_O x0), (1, ax_O p0)]) d_V_mostCounted_5 (by rw [hn]; decide) rfl ?_
  refine ax_sub [3, 4, 2, 1, 0] rfl ?_
  exact L_V_mostCounted_7 B hn hR hE hag 64 M x0 p0 (-1) 0 0 hf
def G_V_winner_34  (M : ax_M) (s0 : Int32) : Option (Int32 × ax_M) := some (s0, M)
set_option maxRecDepth 100000 in
set_option maxHeartbeats 4000000 in
theorem K_V_winner_34 {Z : ax_Z} {ad0 ad : Nat → Nat} {q : Int32 × ax_M} (B : ax_B Z "VoteAuctions" b_V_winner (some .int)) (hn : Z.2.2.2.2.2.2.2.2.2.2.2.1 = 4) (hR : ax_R Z 5 0 0) (hE : ax_E Z ad0 [] 0 0 (some (ax_I q.1)) q.2) (hag : ∀ a, a ∉ ([] : List Nat) → ad a = ad0 a)   : ∀ (M : ax_M) (s0 : Int32), G_V_winner_34  M s0 = some q → ax_W Z ad 0 0 34 [] [ax_I s0] M := by
  intro M s0 hf
  unfold G_V_winner_34 at hf
  exact ax_ireturn B hE d_V_winner_34 hf rfl hag (by decide) (by decide)
def f_V_winner (M : ax_M) (x0 : Option Nat) (p0 : Int32) : Option (Int32 × ax_M) := (ax_ob M 0 x0).bind (fun _ => (f_V_questionAt M x0 p0).bind (fun q1 => if q1.1 = none then some ((-1), q1.2) else (ax_ob q1.2 0 x0).bind (fun _ => (f_V_countVotes q1.2 x0 q1.1).bind (fun q2 => (ax_ob q2 0 x0).bind (fun _ => (f_V_mostCounted q2 x0 q1.1).bind (fun q3 => if q3.1 = (-1) then G_V_winner_34 q3.2 (-3) else G_V_winner_34 q3.2 q3.1))))))
set_option maxRecDepth 100000 in
set_option maxHeartbeats 4000000 in
theorem c_V_winner (l : Launch) (G : ax_G) (M : ax_M) (x0 : Option Nat) (p0 : Int32) {q : Int32 × ax_M} (hf : f_V_winner M x0 p0 = some q) : ax_C l G y_V_winner b_V_winner 4 (some .int) [] 5 0 0 [ax_O x0, ax_I p0] M (some (ax_I q.1)) q.2 := by
  refine ax_ofW (by decide +kernel) (lv0 := [(0, ax_O x0), (1, ax_I p0)]) (Nat.le_of_ble_eq_true rfl) rfl ?_
  intro Z ad B hin _ _ hn hR hE
  have hag : ∀ a, a ∉ ([] : List Nat) → ad a = ad a := fun _ _ => rfl
  unfold f_V_winner at hf
  refine ax_aload_n B d_V_winner_0 rfl (j := 0) rfl ?_
  refine ax_iload_n B d_V_winner_1 rfl (j := 1) rfl ?_
  refine ax_cVV B hR (as := [ax_I p0]) (V := fun q => ax_O q.1) (N := fun q => q.2) d_V_winner_2 l_V_92 m_V_questionAt hf (fun q h => c_V_questionAt _ _ _ _ _ h) rfl rfl (by decide) (by decide) (by decide) (by decide) (Nat.le_of_ble_eq_true rfl) (fun q1 hf => ?_)
  refine ax_astore_n B (lv' := [(2, ax_O q1.1), (0, ax_O x0), (1, ax_I p0)]) d_V_winner_5 rfl (by rw [hn]; decide) rfl ?_
  refine ax_aload_n B d_V_winner_6 rfl (j := 0) rfl ?_
  refine ax_ifnonnull B (tgt := 12) d_V_winner_7 (by decide) hf (fun hf => ?_) (fun hf => ?_)
  · refine ax_iconst B (v := (-1)) (by decide) d_V_winner_10 ?_
    exact ax_ireturn B hE d_V_winner_11 hf rfl hag (by decide) (by decide)
  · refine ax_aload_n B d_V_winner_12 rfl (j := 1) rfl ?_
    refine ax_aload_n B d_V_winner_13 rfl (j := 0) rfl ?_
    refine ax_cVN B hR (as := [ax_O q1.1]) (N := fun q => q) d_V_winner_14 l_V_136 m_V_countVotes hf (fun q h => c_V_countVotes _ _ _ _ _ h) rfl rfl (by decide) (by decide) (by decide) (by decide) (Nat.le_of_ble_eq_true rfl) (fun q2 hf => ?_)
    refine ax_aload_n B d_V_winner_17 rfl (j := 1) rfl ?_
    refine ax_aload_n B d_V_winner_18 rfl (j := 0) rfl ?_
    refine ax_cVV B hR (as := [ax_O q1.1]) (V := fun q => ax_I q.1) (N := fun q => q.2) d_V_winner_19 l_V_146 m_V_mostCounted hf (fun q h => c_V_mostCounted _ _ _ _ _ h) rfl rfl (by decide) (by decide) (by decide) (by decide) (Nat.le_of_ble_eq_true rfl) (fun q3 hf => ?_)
    refine ax_istore_n B (lv' := [(3, ax_I q3.1), (2, ax_O q1.1), (0, ax_O x0), (1, ax_I p0)]) d_V_winner_22 rfl (by rw [hn]; decide) rfl ?_
    refine ax_iload_n B d_V_winner_23 rfl (j := 0) rfl ?_
    refine ax_iconst B (v := (-1)) (by decide) d_V_winner_24 ?_
    refine ax_icmp_ne B (tgt := 33) d_V_winner_25 (by decide) hf (fun hf => ?_) (fun hf => ?_)
    · refine ax_bipush B (v := (-3)) (by decide) d_V_winner_28 ?_
      refine ax_goto B (tgt := 34) d_V_winner_30 (by decide) ?_
      refine ax_sub [] rfl ?_
      exact K_V_winner_34 B hn hR hE hag q3.2 (-3) hf
    · refine ax_iload_n B d_V_winner_33 rfl (j := 0) rfl ?_
      refine ax_sub [] rfl ?_
      exact K_V_winner_34 B hn hR hE hag q3.2 q3.1 hf
def G_V_isPassed_95  (M : ax_M) (s0 : Int32) : Option (Int32 × ax_M) := (ax_bo s0).bind (fun _ => some (s0, M))
set_option maxRecDepth 100000 in
set_option maxHeartbeats 4000000 in
theorem K_V_isPassed_95 {Z : ax_Z} {ad0 ad : Nat → Nat} {q : Int32 × ax_M} (B : ax_B Z "VoteAuctions" b_V_isPassed (some .boolean)) (hn : Z.2.2.2.2.2.2.2.2.2.2.2.1 = 5) (hR : ax_R Z 5 0 0) (hE : ax_E Z ad0 [] 0 0 (some (ax_I q.1)) q.2) (hag : ∀ a, a ∉ ([] : List Nat) → ad a = ad0 a)   : ∀ (M : ax_M) (s0 : Int32), G_V_isPassed_95  M s0 = some q → ax_W Z ad 0 0 95 [] [ax_I s0] M := by
  intro M s0 hf
  unfold G_V_isPassed_95 at hf
  obtain ⟨_, hb, hf⟩ := ax_bd hf
  exact ax_ireturn B hE d_V_isPassed_95 hf (ax_bo_n hb) hag (by decide) (by decide)
def G_V_isPassed_94  (M : ax_M)  : Option (Int32 × ax_M) := G_V_isPassed_95 M 0
set_option maxRecDepth 100000 in
set_option maxHeartbeats 4000000 in
theorem K_V_isPassed_94 {Z : ax_Z} {ad0 ad : Nat → Nat} {q : Int32 × ax_M} (B : ax_B Z "VoteAuctions" b_V_isPassed (some .boolean)) (hn : Z.2.2.2.2.2.2.2.2.2.2.2.1 = 5) (hR : ax_R Z 5 0 0) (hE : ax_E Z ad0 [] 0 0 (some (ax_I q.1)) q.2) (hag : ∀ a, a ∉ ([] : List Nat) → ad a = ad0 a)   : ∀ (M : ax_M) , G_V_isPassed_94  M  = some q → ax_W Z ad 0 0 94 [] [] M := by
  intro M  hf
  unfold G_V_isPassed_94 at hf
  refine ax_iconst B (v := 0) (by decide) d_V_isPassed_94 ?_
  exact K_V_isPassed_95 B hn hR hE hag M 0 hf
def G_V_isPassed_63 (rec25 : ax_M → Option Nat → Option Nat → Int32 → Int32 → Int32 → Option (Int32 × ax_M)) (M : ax_M) (v0 : Option Nat) (v1 : Option Nat) (v2 : Int32) (v3 : Int32) (v4 : Int32) : Option (Int32 × ax_M) := (some (v4 + 1)).bind (fun y1 => rec25 M v0 v1 v2 v3 y1)
set_option maxRecDepth 100000 in
set_option maxHeartbeats 4000000 in
theorem K_V_isPassed_63 {Z : ax_Z} {ad0 ad : Nat → Nat} {q : Int32 × ax_M} (B : ax_B Z "VoteAuctions" b_V_isPassed (some .boolean)) (hn : Z.2.2.2.2.2.2.2.2.2.2.2.1 = 5) (hR : ax_R Z 5 0 0) (hE : ax_E Z ad0 [] 0 0 (some (ax_I q.1)) q.2) (hag : ∀ a, a ∉ ([] : List Nat) → ad a = ad0 a) {rec25 : ax_M → Option Nat → Option Nat → Int32 → Int32 → Int32 → Option (Int32 × ax_M)} (hr25 : ∀ (M : ax_M) (v0 : Option Nat) (v1 : Option Nat) (v2 : Int32) (v3 : Int32) (v4 : Int32), rec25 M v0 v1 v2 v3 v4 = some q → ax_W Z ad 0 0 25 [(0, ax_O v0), (1, ax_O v1), (2, ax_I v2), (3, ax_I v3), (4, ax_I v4)] [] M) : ∀ (M : ax_M) (v0 : Option Nat) (v1 : Option Nat) (v2 : Int32) (v3 : Int32) (v4 : Int32), G_V_isPassed_63 rec25 M v0 v1 v2 v3 v4 = some q → ax_W Z ad 0 0 63 [(0, ax_O v0), (1, ax_O v1), (2, ax_I v2), (3, ax_I v3), (4, ax_I v4)] [] M := by
  intro M v0 v1 v2 v3 v4 hf
  unfold G_V_isPassed_63 at hf
  refine ax_iincN B (j := 4) (lv' := fun y => [(4, ax_I y), (0, ax_O v0), (1, ax_O v1), (2, ax_I v2), (3, ax_I v3)]) d_V_isPassed_63 rfl hf rfl (by rw [hn]; decide) (fun _ => rfl) (fun y1 hf => ?_)
  refine ax_goto B (tgt := 25) d_V_isPassed_66 (by decide) ?_
  refine ax_sub [1, 2, 3, 4, 0] rfl ?_
  exact hr25 M v0 v1 v2 v3 y1 hf
def G_V_isPassed_25 (rec25 : ax_M → Option Nat → Option Nat → Int32 → Int32 → Int32 → Option (Int32 × ax_M)) (M : ax_M) (v0 : Option Nat) (v1 : Option Nat) (v2 : Int32) (v3 : Int32) (v4 : Int32) : Option (Int32 × ax_M) := if 8 ≤ v4 then (ax_ob M 0 v0).bind (fun _ => (f_V_mostCounted M v0 v1).bind (fun q1 => if q1.1 = 0 then (ax_gi q1.2 1 4 v1).bind (fun x2 => if (v2 * 100) < (x2 * v3) then G_V_isPassed_94 q1.2 else G_V_isPassed_95 q1.2 1) else G_V_isPassed_94 q1.2)) else (ax_gr M 1 5 v1).bind (fun x3 => (ax_ri M 0 x3 v4).bind (fun x4 => (some (v3 + x4)).bind (fun y5 => (ax_gr M 0 11 v0).bind (fun x6 => (ax_ri M 0 x6 v4).bind (fun x7 => if x7 = (-1) then G_V_isPassed_63 rec25 M v0 v1 v2 y5 v4 else (ax_gr M 1 5 v1).bind (fun x8 => (ax_ri M 0 x8 v4).bind (fun x9 => (some (v2 + x9)).bind (fun y10 => G_V_isPassed_63 rec25 M v0 v1 y10 y5 v4))))))))
set_option maxRecDepth 100000 in
set_option maxHeartbeats 4000000 in
theorem K_V_isPassed_25 {Z : ax_Z} {ad0 ad : Nat → Nat} {q : Int32 × ax_M} (B : ax_B Z "VoteAuctions" b_V_isPassed (some .boolean)) (hn : Z.2.2.2.2.2.2.2.2.2.2.2.1 = 5) (hR : ax_R Z 5 0 0) (hE : ax_E Z ad0 [] 0 0 (some (ax_I q.1)) q.2) (hag : ∀ a, a ∉ ([] : List Nat) → ad a = ad0 a) {rec25 : ax_M → Option Nat → Option Nat → Int32 → Int32 → Int32 → Option (Int32 × ax_M)} (hr25 : ∀ (M : ax_M) (v0 : Option Nat) (v1 : Option Nat) (v2 : Int32) (v3 : Int32) (v4 : Int32), rec25 M v0 v1 v2 v3 v4 = some q → ax_W Z ad 0 0 25 [(0, ax_O v0), (1, ax_O v1), (2, ax_I v2), (3, ax_I v3), (4, ax_I v4)] [] M) : ∀ (M : ax_M) (v0 : Option Nat) (v1 : Option Nat) (v2 : Int32) (v3 : Int32) (v4 : Int32), G_V_isPassed_25 rec25 M v0 v1 v2 v3 v4 = some q → ax_W Z ad 0 0 25 [(0, ax_O v0), (1, ax_O v1), (2, ax_I v2), (3, ax_I v3), (4, ax_I v4)] [] M := by
  intro M v0 v1 v2 v3 v4 hf
  unfold G_V_isPassed_25 at hf
  refine ax_iload B (j := 4) d_V_isPassed_25 rfl ?_
  refine ax_bipush B (v := 8) (by decide) d_V_isPassed_27 ?_
  refine ax_icmp_ge B (tgt := 69) d_V_isPassed_29 (by decide) hf (fun hf => ?_) (fun hf => ?_)
  · refine ax_aload_n B d_V_isPassed_69 rfl (j := 0) rfl ?_
    refine ax_aload_n B d_V_isPassed_70 rfl (j := 1) rfl ?_
    refine ax_cVV B hR (as := [ax_O v1]) (V := fun q => ax_I q.1) (N := fun q => q.2) d_V_isPassed_71 l_V_146 m_V_mostCounted hf (fun q h => c_V_mostCounted _ _ _ _ _ h) rfl rfl (by decide) (by decide) (by decide) (by decide) (Nat.le_of_ble_eq_true rfl) (fun q1 hf => ?_)
    refine ax_if_ne B (tgt := 94) d_V_isPassed_74 (by decide) hf (fun hf => ?_) (fun hf => ?_)
    · refine ax_iload_n B d_V_isPassed_77 rfl (j := 2) rfl ?_
      refine ax_bipush B (v := 100) (by decide) d_V_isPassed_78 ?_
      refine ax_imul B d_V_isPassed_80 ?_
      refine ax_aload_n B d_V_isPassed_81 rfl (j := 1) rfl ?_
      refine ax_getI B d_V_isPassed_82 k_V_276 rfl hf (fun x2 hf => ?_)
      refine ax_iload_n B d_V_isPassed_85 rfl (j := 3) rfl ?_
      refine ax_imul B d_V_isPassed_86 ?_
      refine ax_icmp_lt B (tgt := 94) d_V_isPassed_87 (by decide) hf (fun hf => ?_) (fun hf => ?_)
      · refine ax_sub [] rfl ?_
        exact K_V_isPassed_94 B hn hR hE hag q1.2 hf
      · refine ax_iconst B (v := 1) (by decide) d_V_isPassed_90 ?_
        refine ax_goto B (tgt := 95) d_V_isPassed_91 (by decide) ?_
        refine ax_sub [] rfl ?_
        exact K_V_isPassed_95 B hn hR hE hag q1.2 1 hf
    · refine ax_sub [] rfl ?_
      exact K_V_isPassed_94 B hn hR hE hag q1.2 hf
  · refine ax_iload_n B d_V_isPassed_32 rfl (j := 3) rfl ?_
    refine ax_aload_n B d_V_isPassed_33 rfl (j := 1) rfl ?_
    refine ax_getR B d_V_isPassed_34 k_V_85 rfl hf (fun x3 hf => ?_)
    refine ax_iload B (j := 4) d_V_isPassed_37 rfl ?_
    refine ax_iald B d_V_isPassed_39 (t := 0) (by decide) rfl hf (fun x4 hf => ?_)
    refine ax_iadd B d_V_isPassed_40 ?_
    refine ax_nmI hf (fun y5 hf => ?_)
    refine ax_istore_n B (lv' := [(3, ax_I y5), (0, ax_O v0), (1, ax_O v1), (2, ax_I v2), (4, ax_I v4)]) d_V_isPassed_41 rfl (by rw [hn]; decide) rfl ?_
    refine ax_aload_n B d_V_isPassed_42 rfl (j := 1) rfl ?_
    refine ax_getR B d_V_isPassed_43 k_V_35 rfl hf (fun x6 hf => ?_)
    refine ax_iload B (j := 4) d_V_isPassed_46 rfl ?_
    refine ax_iald B d_V_isPassed_48 (t := 0) (by decide) rfl hf (fun x7 hf => ?_)
    refine ax_iconst B (v := (-1)) (by decide) d_V_isPassed_49 ?_
    refine ax_icmp_eq B (tgt := 63) d_V_isPassed_50 (by decide) hf (fun hf => ?_) (fun hf => ?_)
    · refine ax_sub [1, 2, 3, 0, 4] rfl ?_
      exact K_V_isPassed_63 B hn hR hE hag hr25 M v0 v1 v2 y5 v4 hf
    · refine ax_iload_n B d_V_isPassed_53 rfl (j := 3) rfl ?_
      refine ax_aload_n B d_V_isPassed_54 rfl (j := 2) rfl ?_
      refine ax_getR B d_V_isPassed_55 k_V_85 rfl hf (fun x8 hf => ?_)
      refine ax_iload B (j := 4) d_V_isPassed_58 rfl ?_
      refine ax_iald B d_V_isPassed_60 (t := 0) (by decide) rfl hf (fun x9 hf => ?_)
      refine ax_iadd B d_V_isPassed_61 ?_
      refine ax_nmI hf (fun y10 hf => ?_)
      refine ax_istore_n B (lv' := [(2, ax_I y10), (3, ax_I y5), (0, ax_O v0), (1, ax_O v1), (4, ax_I v4)]) d_V_isPassed_62 rfl (by rw [hn]; decide) rfl ?_
      refine ax_sub [2, 3, 0, 1, 4] rfl ?_
      exact K_V_isPassed_63 B hn hR hE hag hr25 M v0 v1 y10 y5 v4 hf
def F_V_isPassed_25  : Nat → ax_M → Option Nat → Option Nat → Int32 → Int32 → Int32 → Option (Int32 × ax_M)
  | 0 => fun _ _ _ _ _ _ => none
  | n + 1 => G_V_isPassed_25 (F_V_isPassed_25  n)
set_option maxRecDepth 100000 in
set_option maxHeartbeats 4000000 in
theorem L_V_isPassed_25 {Z : ax_Z} {ad0 ad : Nat → Nat} {q : Int32 × ax_M} (B : ax_B Z "VoteAuctions" b_V_isPassed (some .boolean)) (hn : Z.2.2.2.2.2.2.2.2.2.2.2.1 = 5) (hR : ax_R Z 5 0 0) (hE : ax_E Z ad0 [] 0 0 (some (ax_I q.1)) q.2) (hag : ∀ a, a ∉ ([] : List Nat) → ad a = ad0 a)   : ∀ (n : Nat) (M : ax_M) (v0 : Option Nat) (v1 : Option Nat) (v2 : Int32) (v3 : Int32) (v4 : Int32), F_V_isPassed_25  n M v0 v1 v2 v3 v4 = some q → ax_W Z ad 0 0 25 [(0, ax_O v0), (1, ax_O v1), (2, ax_I v2), (3, ax_I v3), (4, ax_I v4)] [] M := by
  intro n
  induction n with
  | zero => intro M v0 v1 v2 v3 v4 hf; cases hf
  | succ n ih => exact K_V_isPassed_25 B hn hR hE hag ih
def f_V_isPassed (M : ax_M) (x0 : Option Nat) (p0 : Option Nat) : Option (Int32 × ax_M) := (ax_gi M 0 0 x0).bind (fun x1 => (ax_gi M 1 3 p0).bind (fun x2 => if x2 ≤ x1 then (ax_ob M 0 x0).bind (fun _ => (f_V_countVotes M x0 p0).bind (fun q3 => F_V_isPassed_25 64 q3 x0 p0 0 0 0)) else some (0, M)))
set_option maxRecDepth 100000 in
set_option maxHeartbeats 4000000 in
theorem c_V_isPassed (l : Launch) (G : ax_G) (M : ax_M) (x0 : Option Nat) (p0 : Option Nat) {q : Int32 × ax_M} (hf : f_V_isPassed M x0 p0 = some q) : ax_C l G y_V_isPassed b_V_isPassed 5 (some .boolean) [] 5 0 0 [ax_O x0, ax_O p0] M (some (ax_I q.1)) q.2 := by
  refine ax_ofW (by decide +kernel) (lv0 := [(0, ax_O x0), (1, ax_O p0)]) (Nat.le_of_ble_eq_true rfl) rfl ?_
  intro Z ad B hin _ _ hn hR hE
  have hag : ∀ a, a ∉ ([] : List Nat) → ad a = ad a := fun _ _ => rfl
  unfold f_V_isPassed at hf
  refine ax_aload_n B d_V_isPassed_0 rfl (j := 0) rfl ?_
  refine ax_getI B d_V_isPassed_1 k_V_66 rfl hf (fun x1 hf => ?_)
  refine ax_aload_n B d_V_isPassed_4 rfl (j := 1) rfl ?_
  refine ax_getI B d_V_isPassed_5 k_V_105 rfl hf (fun x2 hf => ?_)
  refine ax_icmp_ge B (tgt := 13) d_V_isPassed_8 (by decide) hf (fun hf => ?_) (fun hf => ?_)
  · refine ax_aload_n B d_V_isPassed_13 rfl (j := 0) rfl ?_
    refine ax_aload_n B d_V_isPassed_14 rfl (j := 1) rfl ?_
    refine ax_cVN B hR (as := [ax_O p0]) (N := fun q => q) d_V_isPassed_15 l_V_136 m_V_countVotes hf (fun q h => c_V_countVotes _ _ _ _ _ h) rfl rfl (by decide) (by decide) (by decide) (by decide) (Nat.le_of_ble_eq_true rfl) (fun q3 hf => ?_)
    refine ax_iconst B (v := 0) (by decide) d_V_isPassed_18 ?_
    refine ax_istore_n B (lv' := [(2, ax_I 0), (0, ax_O x0), (1, ax_O p0)]) d_V_isPassed_19 rfl (by rw [hn]; decide) rfl ?_
    refine ax_iconst B (v := 0) (by decide) d_V_isPassed_20 ?_
    refine ax_istore_n B (lv' := [(3, ax_I 0), (2, ax_I 0), (0, ax_O x0), (1, ax_O p0)]) d_V_isPassed_21 rfl (by rw [hn]; decide) rfl ?_
    refine ax_iconst B (v := 0) (by decide) d_V_isPassed_22 ?_
    refine ax_istore B (lv' := [(4, ax_I 0), (3, ax_I 0), (2, ax_I 0), (0, ax_O x0), (1, ax_O p0)]) d_V_isPassed_23 (by rw [hn]; decide) rfl ?_
    refine ax_sub [3, 4, 2, 1, 0] rfl ?_
    exact L_V_isPassed_25 B hn hR hE hag 64 q3 x0 p0 0 0 0 hf
  · refine ax_iconst B (v := 0) (by decide) d_V_isPassed_11 ?_
    exact ax_ireturn B hE d_V_isPassed_12 hf rfl hag (by decide) (by decide)
def G_V_passed_39  (M : ax_M) (s0 : Int32) : Option (Int32 × ax_M) := some (s0, M)
set_option maxRecDepth 100000 in
set_option maxHeartbeats 4000000 in
theorem K_V_passed_39 {Z : ax_Z} {ad0 ad : Nat → Nat} {q : Int32 × ax_M} (B : ax_B Z "VoteAuctions" b_V_passed (some .int)) (hn : Z.2.2.2.2.2.2.2.2.2.2.2.1 = 3) (hR : ax_R Z 6 0 0) (hE : ax_E Z ad0 [] 0 0 (some (ax_I q.1)) q.2) (hag : ∀ a, a ∉ ([] : List Nat) → ad a = ad0 a)   : ∀ (M : ax_M) (s0 : Int32), G_V_passed_39  M s0 = some q → ax_W Z ad 0 0 39 [] [ax_I s0] M := by
  intro M s0 hf
  unfold G_V_passed_39 at hf
  exact ax_ireturn B hE d_V_passed_39 hf rfl hag (by decide) (by decide)
def f_V_passed (M : ax_M) (x0 : Option Nat) (p0 : Int32) : Option (Int32 × ax_M) := (ax_ob M 0 x0).bind (fun _ => (f_V_questionAt M x0 p0).bind (fun q1 => if q1.1 = none then some ((-1), q1.2) else (ax_gi q1.2 0 0 x0).bind (fun x2 => (ax_gi q1.2 1 3 q1.1).bind (fun x3 => if x3 ≤ x2 then (ax_ob q1.2 0 x0).bind (fun _ => (f_V_isPassed q1.2 x0 q1.1).bind (fun q4 => if q4.1 = 0 then G_V_passed_39 q4.2 0 else G_V_passed_39 q4.2 1)) else some ((-3), q1.2)))))
set_option maxRecDepth 100000 in
set_option maxHeartbeats 4000000 in
theorem c_V_passed (l : Launch) (G : ax_G) (M : ax_M) (x0 : Option Nat) (p0 : Int32) {q : Int32 × ax_M} (hf : f_V_passed M x0 p0 = some q) : ax_C l G y_V_passed b_V_passed 3 (some .int) [] 6 0 0 [ax_O x0, ax_I p0] M (some (ax_I q.1)) q.2 := by
  refine ax_ofW (by decide +kernel) (lv0 := [(0, ax_O x0), (1, ax_I p0)]) (Nat.le_of_ble_eq_true rfl) rfl ?_
  intro Z ad B hin _ _ hn hR hE
  have hag : ∀ a, a ∉ ([] : List Nat) → ad a = ad a := fun _ _ => rfl
  unfold f_V_passed at hf
  refine ax_aload_n B d_V_passed_0 rfl (j := 0) rfl ?_
  refine ax_iload_n B d_V_passed_1 rfl (j := 1) rfl ?_
  refine ax_cVV B hR (as := [ax_I p0]) (V := fun q => ax_O q.1) (N := fun q => q.2) d_V_passed_2 l_V_92 m_V_questionAt hf (fun q h => c_V_questionAt _ _ _ _ _ h) rfl rfl (by decide) (by decide) (by decide) (by decide) (Nat.le_of_ble_eq_true rfl) (fun q1 hf => ?_)
  refine ax_astore_n B (lv' := [(2, ax_O q1.1), (0, ax_O x0), (1, ax_I p0)]) d_V_passed_5 rfl (by rw [hn]; decide) rfl ?_
  refine ax_aload_n B d_V_passed_6 rfl (j := 0) rfl ?_
  refine ax_ifnonnull B (tgt := 12) d_V_passed_7 (by decide) hf (fun hf => ?_) (fun hf => ?_)
  · refine ax_iconst B (v := (-1)) (by decide) d_V_passed_10 ?_
    exact ax_ireturn B hE d_V_passed_11 hf rfl hag (by decide) (by decide)
  · refine ax_aload_n B d_V_passed_12 rfl (j := 1) rfl ?_
    refine ax_getI B d_V_passed_13 k_V_66 rfl hf (fun x2 hf => ?_)
    refine ax_aload_n B d_V_passed_16 rfl (j := 0) rfl ?_
    refine ax_getI B d_V_passed_17 k_V_105 rfl hf (fun x3 hf => ?_)
    refine ax_icmp_ge B (tgt := 26) d_V_passed_20 (by decide) hf (fun hf => ?_) (fun hf => ?_)
    · refine ax_aload_n B d_V_passed_26 rfl (j := 1) rfl ?_
      refine ax_aload_n B d_V_passed_27 rfl (j := 0) rfl ?_
      refine ax_cVV B hR (as := [ax_O q1.1]) (V := fun q => ax_I q.1) (N := fun q => q.2) d_V_passed_28 l_V_150 m_V_isPassed hf (fun q h => c_V_isPassed _ _ _ _ _ h) rfl rfl (by decide) (by decide) (by decide) (by decide) (Nat.le_of_ble_eq_true rfl) (fun q4 hf => ?_)
      refine ax_if_eq B (tgt := 38) d_V_passed_31 (by decide) hf (fun hf => ?_) (fun hf => ?_)
      · refine ax_iconst B (v := 0) (by decide) d_V_passed_38 ?_
        refine ax_sub [] rfl ?_
        exact K_V_passed_39 B hn hR hE hag q4.2 0 hf
      · refine ax_iconst B (v := 1) (by decide) d_V_passed_34 ?_
        refine ax_goto B (tgt := 39) d_V_passed_35 (by decide) ?_
        refine ax_sub [] rfl ?_
        exact K_V_passed_39 B hn hR hE hag q4.2 1 hf
    · refine ax_bipush B (v := (-3)) (by decide) d_V_passed_23 ?_
      exact ax_ireturn B hE d_V_passed_25 hf rfl hag (by decide) (by decide)
def G_V_run_62  (M : ax_M)  : Option (Int32 × ax_M) := some ((-3), M)
set_option maxRecDepth 100000 in
set_option maxHeartbeats 4000000 in
theorem K_V_run_62 {Z : ax_Z} {ad0 ad : Nat → Nat} {q : Int32 × ax_M} (B : ax_B Z "VoteAuctions" b_V_run (some .int)) (hn : Z.2.2.2.2.2.2.2.2.2.2.2.1 = 3) (hR : ax_R Z 6 0 0) (hE : ax_E Z ad0 [] 0 0 (some (ax_I q.1)) q.2) (hag : ∀ a, a ∉ ([] : List Nat) → ad a = ad0 a)   : ∀ (M : ax_M) , G_V_run_62  M  = some q → ax_W Z ad 0 0 62 [] [] M := by
  intro M  hf
  unfold G_V_run_62 at hf
  refine ax_bipush B (v := (-3)) (by decide) d_V_run_62 ?_
  exact ax_ireturn B hE d_V_run_64 hf rfl hag (by decide) (by decide)
def f_V_run (M : ax_M) (x0 : Option Nat) (p0 : Int32) : Option (Int32 × ax_M) := (ax_ob M 0 x0).bind (fun _ => (f_V_questionAt M x0 p0).bind (fun q1 => if q1.1 = none then some ((-1), q1.2) else (ax_gi q1.2 1 10 q1.1).bind (fun x2 => (ax_ob q1.2 0 x0).bind (fun _ => (f_V_isNoAccount q1.2 x0 x2).bind (fun q3 => if q3.1 = 0 then (ax_gi q3.2 1 13 q1.1).bind (fun x4 => if x4 = 0 then (ax_gi q3.2 0 0 x0).bind (fun x5 => (ax_gi q3.2 1 12 q1.1).bind (fun x6 => if x5 < x6 then G_V_run_62 q3.2 else (ax_gl q3.2 0 1 x0).bind (fun x7 => (ax_gi q3.2 1 11 q1.1).bind (fun x8 => if (lg_cmp x7 (x8.toInt64)) < 0 then G_V_run_62 q3.2 else (ax_ob q3.2 0 x0).bind (fun _ => (f_V_isPassed q3.2 x0 q1.1).bind (fun q9 => if q9.1 = 0 then G_V_run_62 q9.2 else (ax_pi q9.2 1 13 q1.1 1).bind (fun M10 => (ax_gl M10 0 1 x0).bind (fun x11 => (ax_gi M10 1 11 q1.1).bind (fun x12 => (ax_pl M10 0 1 x0 (x11 - (x12.toInt64))).bind (fun M13 => (ax_gr M13 0 4 x0).bind (fun x14 => (ax_gi M13 1 10 q1.1).bind (fun x15 => (ax_rl M13 1 x14 x15).bind (fun x16 => (ax_gi M13 1 11 q1.1).bind (fun x17 => (ax_tl M13 1 x14 x15 (x16 + (x17.toInt64))).bind (fun M18 => some (1, M18)))))))))))))))) else G_V_run_62 q3.2) else G_V_run_62 q3.2)))))
set_option maxRecDepth 100000 in
set_option maxHeartbeats 4000000 in
theorem c_V_run (l : Launch) (G : ax_G) (M : ax_M) (x0 : Option Nat) (p0 : Int32) {q : Int32 × ax_M} (hf : f_V_run M x0 p0 = some q) : ax_C l G y_V_run b_V_run 3 (some .int) [] 6 0 0 [ax_O x0, ax_I p0] M (some (ax_I q.1)) q.2 := by
  refine ax_ofW (by decide +kernel) (lv0 := [(0, ax_O x0), (1, ax_I p0)]) (Nat.le_of_ble_eq_true rfl) rfl ?_
  intro Z ad B hin _ _ hn hR hE
  have hag : ∀ a, a ∉ ([] : List Nat) → ad a = ad a := fun _ _ => rfl
  unfold f_V_run at hf
  refine ax_aload_n B d_V_run_0 rfl (j := 0) rfl ?_
  refine ax_iload_n B d_V_run_1 rfl (j := 1) rfl ?_
  refine ax_cVV B hR (as := [ax_I p0]) (V := fun q => ax_O q.1) (N := fun q => q.2) d_V_run_2 l_V_92 m_V_questionAt hf (fun q h => c_V_questionAt _ _ _ _ _ h) rfl rfl (by decide) (by decide) (by decide) (by decide) (Nat.le_of_ble_eq_true rfl) (fun q1 hf => ?_)
  refine ax_astore_n B (lv' := [(2, ax_O q1.1), (0, ax_O x0), (1, ax_I p0)]) d_V_run_5 rfl (by rw [hn]; decide) rfl ?_
  refine ax_aload_n B d_V_run_6 rfl (j := 0) rfl ?_
  refine ax_ifnonnull B (tgt := 12) d_V_run_7 (by decide) hf (fun hf => ?_) (fun hf => ?_)
  · refine ax_iconst B (v := (-1)) (by decide) d_V_run_10 ?_
    exact ax_ireturn B hE d_V_run_11 hf rfl hag (by decide) (by decide)
  · refine ax_aload_n B d_V_run_12 rfl (j := 1) rfl ?_
    refine ax_aload_n B d_V_run_13 rfl (j := 0) rfl ?_
    refine ax_getI B d_V_run_14 k_V_99 rfl hf (fun x2 hf => ?_)
    refine ax_cVV B hR (as := [ax_I x2]) (V := fun q => ax_I q.1) (N := fun q => q.2) d_V_run_17 l_V_53 m_V_isNoAccount hf (fun q h => c_V_isNoAccount _ _ _ _ _ h) rfl rfl (by decide) (by decide) (by decide) (by decide) (Nat.le_of_ble_eq_true rfl) (fun q3 hf => ?_)
    refine ax_if_ne B (tgt := 62) d_V_run_20 (by decide) hf (fun hf => ?_) (fun hf => ?_)
    · refine ax_aload_n B d_V_run_23 rfl (j := 0) rfl ?_
      refine ax_getI B d_V_run_24 k_V_154 rfl hf (fun x4 hf => ?_)
      refine ax_if_ne B (tgt := 62) d_V_run_27 (by decide) hf (fun hf => ?_) (fun hf => ?_)
      · refine ax_aload_n B d_V_run_30 rfl (j := 1) rfl ?_
        refine ax_getI B d_V_run_31 k_V_66 rfl hf (fun x5 hf => ?_)
        refine ax_aload_n B d_V_run_34 rfl (j := 0) rfl ?_
        refine ax_getI B d_V_run_35 k_V_108 rfl hf (fun x6 hf => ?_)
        refine ax_icmp_lt B (tgt := 62) d_V_run_38 (by decide) hf (fun hf => ?_) (fun hf => ?_)
        · refine ax_sub [] rfl ?_
          exact K_V_run_62 B hn hR hE hag q3.2 hf
        · refine ax_aload_n B d_V_run_41 rfl (j := 1) rfl ?_
          refine ax_getL B d_V_run_42 k_V_62 rfl hf (fun x7 hf => ?_)
          refine ax_aload_n B d_V_run_45 rfl (j := 0) rfl ?_
          refine ax_getI B d_V_run_46 k_V_102 rfl hf (fun x8 hf => ?_)
          refine ax_i2l B d_V_run_49 ?_
          refine ax_lcmp B d_V_run_50 ?_
          refine ax_if_lt B (tgt := 62) d_V_run_51 (by decide) hf (fun hf => ?_) (fun hf => ?_)
          · refine ax_sub [] rfl ?_
            exact K_V_run_62 B hn hR hE hag q3.2 hf
          · refine ax_aload_n B d_V_run_54 rfl (j := 1) rfl ?_
            refine ax_aload_n B d_V_run_55 rfl (j := 0) rfl ?_
            refine ax_cVV B hR (as := [ax_O q1.1]) (V := fun q => ax_I q.1) (N := fun q => q.2) d_V_run_56 l_V_150 m_V_isPassed hf (fun q h => c_V_isPassed _ _ _ _ _ h) rfl rfl (by decide) (by decide) (by decide) (by decide) (Nat.le_of_ble_eq_true rfl) (fun q9 hf => ?_)
            refine ax_if_ne B (tgt := 65) d_V_run_59 (by decide) hf (fun hf => ?_) (fun hf => ?_)
            · refine ax_sub [] rfl ?_
              exact K_V_run_62 B hn hR hE hag q9.2 hf
            · refine ax_aload_n B d_V_run_65 rfl (j := 0) rfl ?_
              refine ax_iconst B (v := 1) (by decide) d_V_run_66 ?_
              refine ax_putI B d_V_run_67 k_V_154 rfl rfl rfl rfl hf (fun M10 hf => ?_)
              refine ax_aload_n B d_V_run_70 rfl (j := 1) rfl ?_
              refine ax_dup B rfl d_V_run_71 ?_
              refine ax_getL B d_V_run_72 k_V_62 rfl hf (fun x11 hf => ?_)
              refine ax_aload_n B d_V_run_75 rfl (j := 0) rfl ?_
              refine ax_getI B d_V_run_76 k_V_102 rfl hf (fun x12 hf => ?_)
              refine ax_i2l B d_V_run_79 ?_
              refine ax_lsub B d_V_run_80 ?_
              refine ax_putL B d_V_run_81 k_V_62 rfl rfl hf (fun M13 hf => ?_)
              refine ax_aload_n B d_V_run_84 rfl (j := 1) rfl ?_
              refine ax_getR B d_V_run_85 k_V_13 rfl hf (fun x14 hf => ?_)
              refine ax_aload_n B d_V_run_88 rfl (j := 0) rfl ?_
              refine ax_getI B d_V_run_89 k_V_99 rfl hf (fun x15 hf => ?_)
              refine ax_dup2_11 B rfl rfl d_V_run_92 ?_
              refine ax_lald B d_V_run_93 (t := 1) (by decide) rfl hf (fun x16 hf => ?_)
              refine ax_aload_n B d_V_run_94 rfl (j := 0) rfl ?_
              refine ax_getI B d_V_run_95 k_V_102 rfl hf (fun x17 hf => ?_)
              refine ax_i2l B d_V_run_98 ?_
              refine ax_ladd B d_V_run_99 ?_
              refine ax_last B d_V_run_100 (t := 1) (by decide) rfl hf (fun M18 hf => ?_)
              refine ax_iconst B (v := 1) (by decide) d_V_run_101 ?_
              exact ax_ireturn B hE d_V_run_102 hf rfl hag (by decide) (by decide)
      · refine ax_sub [] rfl ?_
        exact K_V_run_62 B hn hR hE hag q3.2 hf
    · refine ax_sub [] rfl ?_
      exact K_V_run_62 B hn hR hE hag q3.2 hf
def f_A_init (g : Nat) (M : ax_M) (o : Nat) (p0 : Int32) (p1 : Int32) (p2 : Int32) (p3 : Int32) (p4 : Int32) (p5 : Int32) : Option (ax_M) := (ax_pi M 2 0 (some o) p0).bind (fun M1 => (ax_pi M1 2 1 (some o) p1).bind (fun M2 => (ax_pi M2 2 2 (some o) p2).bind (fun M3 => (ax_pi M3 2 3 (some o) p3).bind (fun M4 => (ax_pi M4 2 4 (some o) p4).bind (fun M5 => (ax_pi M5 2 5 (some o) p5).bind (fun M6 => (ax_nw M6 (g + 1) (.inr (0, 8)) [(some o)]).bind (fun M7 => (ax_pr M7 2 6 (some o) (some (g + 1))).bind (fun M9 => (ax_nw M9 (g + 2) (.inr (1, 8)) [(some o)]).bind (fun M10 => (ax_pr M10 2 7 (some o) (some (g + 2))).bind (fun M12 => (ax_nw M12 (g + 3) (.inr (0, 8)) [(some o)]).bind (fun M13 => (ax_pr M13 2 8 (some o) (some (g + 3))).bind (fun M15 => (ax_nw M15 (g + 4) (.inr (0, 8)) [(some o)]).bind (fun M16 => (ax_pr M16 2 9 (some o) (some (g + 4))).bind (fun M18 => (ax_nw M18 (g + 5) (.inr (0, 8)) [(some o)]).bind (fun M19 => (ax_pr M19 2 10 (some o) (some (g + 5))).bind (fun M21 => (ax_pi M21 2 12 (some o) (-1)).bind (fun M22 => some M22)))))))))))))))))
set_option maxRecDepth 100000 in
set_option maxHeartbeats 4000000 in
theorem c_A_init (l : Launch) (G : ax_G) (g : Nat) (M : ax_M) (o : Nat) (p0 : Int32) (p1 : Int32) (p2 : Int32) (p3 : Int32) (p4 : Int32) (p5 : Int32) {q : ax_M} (hf : f_A_init g M o p0 p1 p2 p3 p4 p5 = some q) : ax_C l G y_A_init b_A_init 7 none [g + 1, g + 2, g + 3, g + 4, g + 5] 1 5 40 [ax_O (some o), ax_I p0, ax_I p1, ax_I p2, ax_I p3, ax_I p4, ax_I p5] M none q := by
  refine ax_ofW (by decide +kernel) (lv0 := [(0, ax_O (some o)), (1, ax_I p0), (2, ax_I p1), (3, ax_I p2), (4, ax_I p3), (5, ax_I p4), (6, ax_I p5)]) (Nat.le_of_ble_eq_true rfl) rfl ?_
  intro Z ad B hin _ _ hn hR hE
  have hag : ∀ a, a ∉ ([g + 1, g + 2, g + 3, g + 4, g + 5] : List Nat) → ad a = ad a := fun _ _ => rfl
  have hin : Z.2.2.2.2.2.2.2.2.1.name = "<init>" := hin
  unfold f_A_init at hf
  refine ax_aload_n B d_A_init_0 rfl (j := 0) rfl ?_
  refine ax_objInit B hR d_A_init_1 l_A_3 (by decide) (Nat.le_of_ble_eq_true rfl) ?_
  refine ax_aload_n B d_A_init_4 rfl (j := 0) rfl ?_
  refine ax_iload_n B d_A_init_5 rfl (j := 1) rfl ?_
  refine ax_putFI B d_A_init_6 kf_A_9 hin rfl rfl rfl hf (fun M1 hf => ?_)
  refine ax_aload_n B d_A_init_9 rfl (j := 0) rfl ?_
  refine ax_iload_n B d_A_init_10 rfl (j := 2) rfl ?_
  refine ax_putFI B d_A_init_11 kf_A_15 hin rfl rfl rfl hf (fun M2 hf => ?_)
  refine ax_aload_n B d_A_init_14 rfl (j := 0) rfl ?_
  refine ax_iload_n B d_A_init_15 rfl (j := 3) rfl ?_
  refine ax_putFI B d_A_init_16 kf_A_18 hin rfl rfl rfl hf (fun M3 hf => ?_)
  refine ax_aload_n B d_A_init_19 rfl (j := 0) rfl ?_
  refine ax_iload B (j := 4) d_A_init_20 rfl ?_
  refine ax_putFI B d_A_init_22 kf_A_21 hin rfl rfl rfl hf (fun M4 hf => ?_)
  refine ax_aload_n B d_A_init_25 rfl (j := 0) rfl ?_
  refine ax_iload B (j := 5) d_A_init_26 rfl ?_
  refine ax_putFI B d_A_init_28 kf_A_24 hin rfl rfl rfl hf (fun M5 hf => ?_)
  refine ax_aload_n B d_A_init_31 rfl (j := 0) rfl ?_
  refine ax_iload B (j := 6) d_A_init_32 rfl ?_
  refine ax_putFI B d_A_init_34 kf_A_27 hin rfl rfl rfl hf (fun M6 hf => ?_)
  refine ax_aload_n B d_A_init_37 rfl (j := 0) rfl ?_
  refine ax_bipush B (v := 8) (by decide) d_A_init_38 ?_
  refine ax_newarray B hR (t := 0) (N := 8) d_A_init_40 rfl (by decide) (by decide) (by decide) (by decide) (ax_cvr (by simp) (ax_cvi (ax_cvi (ax_cvi (ax_cvi (ax_cvi (ax_cvi ax_cv0))))))) (ax_cvr (by simp) ax_cv0) (by decide) (by decide) hf (fun M7 ad8 hag2 hf => ?_)
  replace hag := ax_ag (gs := [g + 1, g + 2, g + 3, g + 4, g + 5]) hag2 (by simp) hag
  refine ax_putFR B d_A_init_42 kf_A_30 hin rfl hf (fun M9 hf => ?_)
  refine ax_aload_n B d_A_init_45 rfl (j := 0) rfl ?_
  refine ax_bipush B (v := 8) (by decide) d_A_init_46 ?_
  refine ax_newarray B hR (t := 1) (N := 8) d_A_init_48 rfl (by decide) (by decide) (by decide) (by decide) (ax_cvr (by simp) (ax_cvi (ax_cvi (ax_cvi (ax_cvi (ax_cvi (ax_cvi ax_cv0))))))) (ax_cvr (by simp) ax_cv0) (by decide) (by decide) hf (fun M10 ad11 hag2 hf => ?_)
  replace hag := ax_ag (gs := [g + 1, g + 2, g + 3, g + 4, g + 5]) hag2 (by simp) hag
  refine ax_putFR B d_A_init_50 kf_A_34 hin rfl hf (fun M12 hf => ?_)
  refine ax_aload_n B d_A_init_53 rfl (j := 0) rfl ?_
  refine ax_bipush B (v := 8) (by decide) d_A_init_54 ?_
  refine ax_newarray B hR (t := 0) (N := 8) d_A_init_56 rfl (by decide) (by decide) (by decide) (by decide) (ax_cvr (by simp) (ax_cvi (ax_cvi (ax_cvi (ax_cvi (ax_cvi (ax_cvi ax_cv0))))))) (ax_cvr (by simp) ax_cv0) (by decide) (by decide) hf (fun M13 ad14 hag2 hf => ?_)
  replace hag := ax_ag (gs := [g + 1, g + 2, g + 3, g + 4, g + 5]) hag2 (by simp) hag
  refine ax_putFR B d_A_init_58 kf_A_38 hin rfl hf (fun M15 hf => ?_)
  refine ax_aload_n B d_A_init_61 rfl (j := 0) rfl ?_
  refine ax_bipush B (v := 8) (by decide) d_A_init_62 ?_
  refine ax_newarray B hR (t := 0) (N := 8) d_A_init_64 rfl (by decide) (by decide) (by decide) (by decide) (ax_cvr (by simp) (ax_cvi (ax_cvi (ax_cvi (ax_cvi (ax_cvi (ax_cvi ax_cv0))))))) (ax_cvr (by simp) ax_cv0) (by decide) (by decide) hf (fun M16 ad17 hag2 hf => ?_)
  replace hag := ax_ag (gs := [g + 1, g + 2, g + 3, g + 4, g + 5]) hag2 (by simp) hag
  refine ax_putFR B d_A_init_66 kf_A_41 hin rfl hf (fun M18 hf => ?_)
  refine ax_aload_n B d_A_init_69 rfl (j := 0) rfl ?_
  refine ax_bipush B (v := 8) (by decide) d_A_init_70 ?_
  refine ax_newarray B hR (t := 0) (N := 8) d_A_init_72 rfl (by decide) (by decide) (by decide) (by decide) (ax_cvr (by simp) (ax_cvi (ax_cvi (ax_cvi (ax_cvi (ax_cvi (ax_cvi ax_cv0))))))) (ax_cvr (by simp) ax_cv0) (by decide) (by decide) hf (fun M19 ad20 hag2 hf => ?_)
  replace hag := ax_ag (gs := [g + 1, g + 2, g + 3, g + 4, g + 5]) hag2 (by simp) hag
  refine ax_putFR B d_A_init_74 kf_A_44 hin rfl hf (fun M21 hf => ?_)
  refine ax_aload_n B d_A_init_77 rfl (j := 0) rfl ?_
  refine ax_iconst B (v := (-1)) (by decide) d_A_init_78 ?_
  refine ax_putI B d_A_init_79 k_A_47 rfl rfl rfl rfl hf (fun M22 hf => ?_)
  exact ax_vreturn B hE d_A_init_82 hf hag (by decide) (by decide)
def G_V_auction_62 (g : Nat)  (M : ax_M)  : Option (Int32 × ax_M) := some ((-2), M)
set_option maxRecDepth 100000 in
set_option maxHeartbeats 4000000 in
theorem K_V_auction_62 {Z : ax_Z} {ad0 ad : Nat → Nat} {g : Nat} {q : Int32 × ax_M} (B : ax_B Z "VoteAuctions" b_V_auction (some .int)) (hn : Z.2.2.2.2.2.2.2.2.2.2.2.1 = 10) (hR : ax_R Z 2 6 54) (hE : ax_E Z ad0 [g, g + 1, g + 2, g + 3, g + 4, g + 5] 6 54 (some (ax_I q.1)) q.2) (hag : ∀ a, a ∉ ([g, g + 1, g + 2, g + 3, g + 4, g + 5] : List Nat) → ad a = ad0 a)   : ∀ (M : ax_M) , G_V_auction_62 g  M  = some q → ax_W Z ad 0 0 62 [] [] M := by
  intro M  hf
  unfold G_V_auction_62 at hf
  refine ax_bipush B (v := (-2)) (by decide) d_V_auction_62 ?_
  exact ax_ireturn B hE d_V_auction_64 hf rfl hag (by decide) (by decide)
def G_V_auction_123 (g : Nat)  (M : ax_M) (v0 : Option Nat) (v1 : Int32) (v2 : Int32) (v3 : Int32) (v4 : Int32) (v6 : Int32) (v8 : Int32) (s0 : Int32) : Option (Int32 × ax_M) := (ax_gr M 0 10 v0).bind (fun x1 => (ax_nw M g (.inl 2) [v0, x1]).bind (fun M2 => (ax_gf [v0, (some g), x1] [g + 1, g + 2, g + 3, g + 4, g + 5]).bind (fun _ => (f_A_init g M2 g v1 v2 v3 v4 v8 s0).bind (fun q4 => (ax_tr q4 4 2 x1 v6 (some g)).bind (fun M6 => (ax_gi M6 0 9 v0).bind (fun x7 => (ax_pi M6 0 9 v0 (x7 + 1)).bind (fun M8 => some (v6, M8))))))))
set_option maxRecDepth 100000 in
set_option maxHeartbeats 4000000 in
theorem K_V_auction_123 {Z : ax_Z} {ad0 ad : Nat → Nat} {g : Nat} {q : Int32 × ax_M} (B : ax_B Z "VoteAuctions" b_V_auction (some .int)) (hn : Z.2.2.2.2.2.2.2.2.2.2.2.1 = 10) (hR : ax_R Z 2 6 54) (hE : ax_E Z ad0 [g, g + 1, g + 2, g + 3, g + 4, g + 5] 6 54 (some (ax_I q.1)) q.2) (hag : ∀ a, a ∉ ([g, g + 1, g + 2, g + 3, g + 4, g + 5] : List Nat) → ad a = ad0 a)   : ∀ (M : ax_M) (v0 : Option Nat) (v1 : Int32) (v2 : Int32) (v3 : Int32) (v4 : Int32) (v6 : Int32) (v8 : Int32) (s0 : Int32), G_V_auction_123 g  M v0 v1 v2 v3 v4 v6 v8 s0 = some q → ax_W Z ad 0 0 123 [(0, ax_O v0), (1, ax_I v1), (2, ax_I v2), (3, ax_I v3), (4, ax_I v4), (6, ax_I v6), (8, ax_I v8)] [ax_I s0] M := by
  intro M v0 v1 v2 v3 v4 v6 v8 s0 hf
  unfold G_V_auction_123 at hf
  refine ax_istore B (lv' := [(9, ax_I s0), (0, ax_O v0), (1, ax_I v1), (2, ax_I v2), (3, ax_I v3), (4, ax_I v4), (6, ax_I v6), (8, ax_I v8)]) d_V_auction_123 (by rw [hn]; decide) rfl ?_
  refine ax_aload_n B d_V_auction_125 rfl (j := 1) rfl ?_
  refine ax_getR B d_V_auction_126 k_V_31 rfl hf (fun x1 hf => ?_)
  refine ax_iload B (j := 6) d_V_auction_129 rfl ?_
  refine ax_new B hR (ci := 2) (n := 14) d_V_auction_131 j_V_29 rfl (ax_cvi (ax_cvr (by simp) (ax_cvi (ax_cvi (ax_cvi (ax_cvi (ax_cvi (ax_cvi ax_cv0)))))))) (ax_cvi (ax_cvr (by simp) ax_cv0)) (by decide) (by decide) hf (fun M2 ad3 hag2 hf => ?_)
  replace hag := ax_ag (gs := [g, g + 1, g + 2, g + 3, g + 4, g + 5]) hag2 (by simp) hag
  refine ax_dup B rfl d_V_auction_134 ?_
  refine ax_iload_n B d_V_auction_135 rfl (j := 2) rfl ?_
  refine ax_iload_n B d_V_auction_136 rfl (j := 3) rfl ?_
  refine ax_iload_n B d_V_auction_137 rfl (j := 4) rfl ?_
  refine ax_iload B (j := 5) d_V_auction_138 rfl ?_
  refine ax_iload B (j := 7) d_V_auction_140 rfl ?_
  refine ax_iload B (j := 0) d_V_auction_142 rfl ?_
  refine ax_cI B hR (as := [ax_I v1, ax_I v2, ax_I v3, ax_I v4, ax_I v8, ax_I s0]) d_V_auction_144 l_V_161 m_A_init (ax_cvi (ax_cvr (by simp) (ax_cvi (ax_cvi (ax_cvi (ax_cvi (ax_cvi (ax_cvi ax_cv0)))))))) (ax_cvr (by simp) (ax_cvi (ax_cvr (by simp) ax_cv0))) hf (fun q h => c_A_init _ _ _ _ _ _ _ _ _ _ _ h) rfl rfl (by decide) (by decide) (by decide) (by decide) (Nat.le_of_ble_eq_true rfl) (fun q4 ad5 hag2 hf => ?_)
  replace hag := ax_ag (gs := [g, g + 1, g + 2, g + 3, g + 4, g + 5]) hag2 (by simp) hag
  refine ax_aast B d_V_auction_147 (t := 4) (ci := 2) (by decide) rfl rfl hf (fun M6 hf => ?_)
  refine ax_aload_n B d_V_auction_148 rfl (j := 1) rfl ?_
  refine ax_dup B rfl d_V_auction_149 ?_
  refine ax_getI B d_V_auction_150 k_V_158 rfl hf (fun x7 hf => ?_)
  refine ax_iconst B (v := 1) (by decide) d_V_auction_153 ?_
  refine ax_iadd B d_V_auction_154 ?_
  refine ax_putI B d_V_auction_155 k_V_158 rfl rfl rfl rfl hf (fun M8 hf => ?_)
  refine ax_iload B (j := 6) d_V_auction_158 rfl ?_
  exact ax_ireturn B hE d_V_auction_160 hf rfl hag (by decide) (by decide)
def G_V_auction_98 (g : Nat)  (M : ax_M) (v0 : Option Nat) (v1 : Int32) (v2 : Int32) (v3 : Int32) (v4 : Int32) (v5 : Int32) (v6 : Int32) (s0 : Int32) : Option (Int32 × ax_M) := (ax_gi M 0 0 v0).bind (fun x1 => (some (x1 + v5)).bind (fun y2 => if s0 = 0 then G_V_auction_123 g M v0 v1 v2 v3 v4 v6 y2 y2 else G_V_auction_123 g M v0 v1 v2 v3 v4 v6 y2 (y2 + 5)))
set_option maxRecDepth 100000 in
set_option maxHeartbeats 4000000 in
theorem K_V_auction_98 {Z : ax_Z} {ad0 ad : Nat → Nat} {g : Nat} {q : Int32 × ax_M} (B : ax_B Z "VoteAuctions" b_V_auction (some .int)) (hn : Z.2.2.2.2.2.2.2.2.2.2.2.1 = 10) (hR : ax_R Z 2 6 54) (hE : ax_E Z ad0 [g, g + 1, g + 2, g + 3, g + 4, g + 5] 6 54 (some (ax_I q.1)) q.2) (hag : ∀ a, a ∉ ([g, g + 1, g + 2, g + 3, g + 4, g + 5] : List Nat) → ad a = ad0 a)   : ∀ (M : ax_M) (v0 : Option Nat) (v1 : Int32) (v2 : Int32) (v3 : Int32) (v4 : Int32) (v5 : Int32) (v6 : Int32) (s0 : Int32), G_V_auction_98 g  M v0 v1 v2 v3 v4 v5 v6 s0 = some q → ax_W Z ad 0 0 98 [(0, ax_O v0), (1, ax_I v1), (2, ax_I v2), (3, ax_I v3), (4, ax_I v4), (5, ax_I v5), (6, ax_I v6)] [ax_I s0] M := by
  intro M v0 v1 v2 v3 v4 v5 v6 s0 hf
  unfold G_V_auction_98 at hf
  refine ax_istore B (lv' := [(7, ax_I s0), (0, ax_O v0), (1, ax_I v1), (2, ax_I v2), (3, ax_I v3), (4, ax_I v4), (5, ax_I v5), (6, ax_I v6)]) d_V_auction_98 (by rw [hn]; decide) rfl ?_
  refine ax_aload_n B d_V_auction_100 rfl (j := 1) rfl ?_
  refine ax_getI B d_V_auction_101 k_V_66 rfl hf (fun x1 hf => ?_)
  refine ax_iload B (j := 6) d_V_auction_104 rfl ?_
  refine ax_iadd B d_V_auction_106 ?_
  refine ax_nmI hf (fun y2 hf => ?_)
  refine ax_istore B (lv' := [(8, ax_I y2), (7, ax_I s0), (0, ax_O v0), (1, ax_I v1), (2, ax_I v2), (3, ax_I v3), (4, ax_I v4), (5, ax_I v5), (6, ax_I v6)]) d_V_auction_107 (by rw [hn]; decide) rfl ?_
  refine ax_iload B (j := 1) d_V_auction_109 rfl ?_
  refine ax_if_eq B (tgt := 121) d_V_auction_111 (by decide) hf (fun hf => ?_) (fun hf => ?_)
  · refine ax_iload B (j := 0) d_V_auction_121 rfl ?_
    refine ax_sub [2, 3, 4, 5, 6, 8, 0] rfl ?_
    exact K_V_auction_123 B hn hR hE hag M v0 v1 v2 v3 v4 v6 y2 y2 hf
  · refine ax_iload B (j := 0) d_V_auction_114 rfl ?_
    refine ax_iconst B (v := 5) (by decide) d_V_auction_116 ?_
    refine ax_iadd B d_V_auction_117 ?_
    refine ax_goto B (tgt := 123) d_V_auction_118 (by decide) ?_
    refine ax_sub [2, 3, 4, 5, 6, 8, 0] rfl ?_
    exact K_V_auction_123 B hn hR hE hag M v0 v1 v2 v3 v4 v6 y2 (y2 + 5) hf
def G_V_auction_93 (g : Nat)  (M : ax_M) (v0 : Option Nat) (v1 : Int32) (v2 : Int32) (v3 : Int32) (v4 : Int32) (v5 : Int32) (v6 : Int32) : Option (Int32 × ax_M) := G_V_auction_98 g M v0 v1 v2 v3 v4 v5 v6 1
set_option maxRecDepth 100000 in
set_option maxHeartbeats 4000000 in
theorem K_V_auction_93 {Z : ax_Z} {ad0 ad : Nat → Nat} {g : Nat} {q : Int32 × ax_M} (B : ax_B Z "VoteAuctions" b_V_auction (some .int)) (hn : Z.2.2.2.2.2.2.2.2.2.2.2.1 = 10) (hR : ax_R Z 2 6 54) (hE : ax_E Z ad0 [g, g + 1, g + 2, g + 3, g + 4, g + 5] 6 54 (some (ax_I q.1)) q.2) (hag : ∀ a, a ∉ ([g, g + 1, g + 2, g + 3, g + 4, g + 5] : List Nat) → ad a = ad0 a)   : ∀ (M : ax_M) (v0 : Option Nat) (v1 : Int32) (v2 : Int32) (v3 : Int32) (v4 : Int32) (v5 : Int32) (v6 : Int32), G_V_auction_93 g  M v0 v1 v2 v3 v4 v5 v6 = some q → ax_W Z ad 0 0 93 [(0, ax_O v0), (1, ax_I v1), (2, ax_I v2), (3, ax_I v3), (4, ax_I v4), (5, ax_I v5), (6, ax_I v6)] [] M := by
  intro M v0 v1 v2 v3 v4 v5 v6 hf
  unfold G_V_auction_93 at hf
  refine ax_iconst B (v := 1) (by decide) d_V_auction_93 ?_
  refine ax_goto B (tgt := 98) d_V_auction_94 (by decide) ?_
  exact K_V_auction_98 B hn hR hE hag M v0 v1 v2 v3 v4 v5 v6 1 hf
def G_V_auction_22 (g : Nat)  (M : ax_M) (v0 : Option Nat) (v1 : Int32) (v2 : Int32) (v3 : Int32) (v4 : Int32) (v5 : Int32) (s0 : Int32) (s1 : Int32) (s2 : Int32) : Option (Int32 × ax_M) := (f_V_isOutside M s2 s1 s0).bind (fun q1 => if q1.1 = 0 then (f_V_isOutside q1.2 v3 1 10000).bind (fun q2 => if q2.1 = 0 then (f_V_isOutside q2.2 v4 0 1000).bind (fun q3 => if q3.1 = 0 then (f_V_isOutside q3.2 v5 1 50).bind (fun q4 => if q4.1 = 0 then (ax_gi q4.2 0 9 v0).bind (fun x5 => if x5 < 6 then (ax_gi q4.2 0 9 v0).bind (fun x6 => if v1 = 1 then G_V_auction_93 g q4.2 v0 v1 v2 v3 v4 v5 x6 else if v1 = 2 then G_V_auction_93 g q4.2 v0 v1 v2 v3 v4 v5 x6 else G_V_auction_98 g q4.2 v0 v1 v2 v3 v4 v5 x6 0) else some ((-4), q4.2)) else G_V_auction_62 g q4.2) else G_V_auction_62 g q3.2) else G_V_auction_62 g q2.2) else G_V_auction_62 g q1.2)
set_option maxRecDepth 100000 in
set_option maxHeartbeats 4000000 in
theorem K_V_auction_22 {Z : ax_Z} {ad0 ad : Nat → Nat} {g : Nat} {q : Int32 × ax_M} (B : ax_B Z "VoteAuctions" b_V_auction (some .int)) (hn : Z.2.2.2.2.2.2.2.2.2.2.2.1 = 10) (hR : ax_R Z 2 6 54) (hE : ax_E Z ad0 [g, g + 1, g + 2, g + 3, g + 4, g + 5] 6 54 (some (ax_I q.1)) q.2) (hag : ∀ a, a ∉ ([g, g + 1, g + 2, g + 3, g + 4, g + 5] : List Nat) → ad a = ad0 a)   : ∀ (M : ax_M) (v0 : Option Nat) (v1 : Int32) (v2 : Int32) (v3 : Int32) (v4 : Int32) (v5 : Int32) (s0 : Int32) (s1 : Int32) (s2 : Int32), G_V_auction_22 g  M v0 v1 v2 v3 v4 v5 s0 s1 s2 = some q → ax_W Z ad 0 0 22 [(0, ax_O v0), (1, ax_I v1), (2, ax_I v2), (3, ax_I v3), (4, ax_I v4), (5, ax_I v5)] [ax_I s0, ax_I s1, ax_I s2] M := by
  intro M v0 v1 v2 v3 v4 v5 s0 s1 s2 hf
  unfold G_V_auction_22 at hf
  refine ax_cSV B hR (as := [ax_I s2, ax_I s1, ax_I s0]) (V := fun q => ax_I q.1) (N := fun q => q.2) d_V_auction_22 l_V_44 m_V_isOutside hf (fun q h => c_V_isOutside _ _ _ _ _ _ h) rfl rfl (by decide) (by decide) (by decide) (by decide) (Nat.le_of_ble_eq_true rfl) (fun q1 hf => ?_)
  refine ax_if_ne B (tgt := 62) d_V_auction_25 (by decide) hf (fun hf => ?_) (fun hf => ?_)
  · refine ax_iload_n B d_V_auction_28 rfl (j := 3) rfl ?_
    refine ax_iconst B (v := 1) (by decide) d_V_auction_29 ?_
    refine ax_sipush B (v := 10000) (by decide) d_V_auction_30 ?_
    refine ax_cSV B hR (as := [ax_I v3, ax_I 1, ax_I 10000]) (V := fun q => ax_I q.1) (N := fun q => q.2) d_V_auction_33 l_V_44 m_V_isOutside hf (fun q h => c_V_isOutside _ _ _ _ _ _ h) rfl rfl (by decide) (by decide) (by decide) (by decide) (Nat.le_of_ble_eq_true rfl) (fun q2 hf => ?_)
    refine ax_if_ne B (tgt := 62) d_V_auction_36 (by decide) hf (fun hf => ?_) (fun hf => ?_)
    · refine ax_iload B (j := 4) d_V_auction_39 rfl ?_
      refine ax_iconst B (v := 0) (by decide) d_V_auction_41 ?_
      refine ax_sipush B (v := 1000) (by decide) d_V_auction_42 ?_
      refine ax_cSV B hR (as := [ax_I v4, ax_I 0, ax_I 1000]) (V := fun q => ax_I q.1) (N := fun q => q.2) d_V_auction_45 l_V_44 m_V_isOutside hf (fun q h => c_V_isOutside _ _ _ _ _ _ h) rfl rfl (by decide) (by decide) (by decide) (by decide) (Nat.le_of_ble_eq_true rfl) (fun q3 hf => ?_)
      refine ax_if_ne B (tgt := 62) d_V_auction_48 (by decide) hf (fun hf => ?_) (fun hf => ?_)
      · refine ax_iload B (j := 5) d_V_auction_51 rfl ?_
        refine ax_iconst B (v := 1) (by decide) d_V_auction_53 ?_
        refine ax_bipush B (v := 50) (by decide) d_V_auction_54 ?_
        refine ax_cSV B hR (as := [ax_I v5, ax_I 1, ax_I 50]) (V := fun q => ax_I q.1) (N := fun q => q.2) d_V_auction_56 l_V_44 m_V_isOutside hf (fun q h => c_V_isOutside _ _ _ _ _ _ h) rfl rfl (by decide) (by decide) (by decide) (by decide) (Nat.le_of_ble_eq_true rfl) (fun q4 hf => ?_)
        refine ax_if_eq B (tgt := 65) d_V_auction_59 (by decide) hf (fun hf => ?_) (fun hf => ?_)
        · refine ax_aload_n B d_V_auction_65 rfl (j := 0) rfl ?_
          refine ax_getI B d_V_auction_66 k_V_158 rfl hf (fun x5 hf => ?_)
          refine ax_bipush B (v := 6) (by decide) d_V_auction_69 ?_
          refine ax_icmp_lt B (tgt := 77) d_V_auction_71 (by decide) hf (fun hf => ?_) (fun hf => ?_)
          · refine ax_aload_n B d_V_auction_77 rfl (j := 0) rfl ?_
            refine ax_getI B d_V_auction_78 k_V_158 rfl hf (fun x6 hf => ?_)
            refine ax_istore B (lv' := [(6, ax_I x6), (0, ax_O v0), (1, ax_I v1), (2, ax_I v2), (3, ax_I v3), (4, ax_I v4), (5, ax_I v5)]) d_V_auction_81 (by rw [hn]; decide) rfl ?_
            refine ax_iload_n B d_V_auction_83 rfl (j := 2) rfl ?_
            refine ax_iconst B (v := 1) (by decide) d_V_auction_84 ?_
            refine ax_icmp_eq B (tgt := 93) d_V_auction_85 (by decide) hf (fun hf => ?_) (fun hf => ?_)
            · refine ax_sub [1, 2, 3, 4, 5, 6, 0] rfl ?_
              exact K_V_auction_93 B hn hR hE hag q4.2 v0 v1 v2 v3 v4 v5 x6 hf
            · refine ax_iload_n B d_V_auction_88 rfl (j := 2) rfl ?_
              refine ax_iconst B (v := 2) (by decide) d_V_auction_89 ?_
              refine ax_icmp_ne B (tgt := 97) d_V_auction_90 (by decide) hf (fun hf => ?_) (fun hf => ?_)
              · refine ax_sub [1, 2, 3, 4, 5, 6, 0] rfl ?_
                exact K_V_auction_93 B hn hR hE hag q4.2 v0 v1 v2 v3 v4 v5 x6 hf
              · refine ax_iconst B (v := 0) (by decide) d_V_auction_97 ?_
                refine ax_sub [1, 2, 3, 4, 5, 6, 0] rfl ?_
                exact K_V_auction_98 B hn hR hE hag q4.2 v0 v1 v2 v3 v4 v5 x6 0 hf
          · refine ax_bipush B (v := (-4)) (by decide) d_V_auction_74 ?_
            exact ax_ireturn B hE d_V_auction_76 hf rfl hag (by decide) (by decide)
        · refine ax_sub [] rfl ?_
          exact K_V_auction_62 B hn hR hE hag q4.2 hf
      · refine ax_sub [] rfl ?_
        exact K_V_auction_62 B hn hR hE hag q3.2 hf
    · refine ax_sub [] rfl ?_
      exact K_V_auction_62 B hn hR hE hag q2.2 hf
  · refine ax_sub [] rfl ?_
    exact K_V_auction_62 B hn hR hE hag q1.2 hf
def f_V_auction (g : Nat) (M : ax_M) (x0 : Option Nat) (p0 : Int32) (p1 : Int32) (p2 : Int32) (p3 : Int32) (p4 : Int32) : Option (Int32 × ax_M) := (f_V_isOutside M p0 0 4).bind (fun q1 => if q1.1 = 0 then if p0 = 4 then G_V_auction_22 g q1.2 x0 p0 p1 p2 p3 p4 20 1 p1 else G_V_auction_22 g q1.2 x0 p0 p1 p2 p3 p4 1 1 p1 else G_V_auction_62 g q1.2)
set_option maxRecDepth 100000 in
set_option maxHeartbeats 4000000 in
theorem c_V_auction (l : Launch) (G : ax_G) (g : Nat) (M : ax_M) (x0 : Option Nat) (p0 : Int32) (p1 : Int32) (p2 : Int32) (p3 : Int32) (p4 : Int32) {q : Int32 × ax_M} (hf : f_V_auction g M x0 p0 p1 p2 p3 p4 = some q) : ax_C l G y_V_auction b_V_auction 10 (some .int) [g, g + 1, g + 2, g + 3, g + 4, g + 5] 2 6 54 [ax_O x0, ax_I p0, ax_I p1, ax_I p2, ax_I p3, ax_I p4] M (some (ax_I q.1)) q.2 := by
  refine ax_ofW (by decide +kernel) (lv0 := [(0, ax_O x0), (1, ax_I p0), (2, ax_I p1), (3, ax_I p2), (4, ax_I p3), (5, ax_I p4)]) (Nat.le_of_ble_eq_true rfl) rfl ?_
  intro Z ad B hin _ _ hn hR hE
  have hag : ∀ a, a ∉ ([g, g + 1, g + 2, g + 3, g + 4, g + 5] : List Nat) → ad a = ad a := fun _ _ => rfl
  unfold f_V_auction at hf
  refine ax_iload_n B d_V_auction_0 rfl (j := 1) rfl ?_
  refine ax_iconst B (v := 0) (by decide) d_V_auction_1 ?_
  refine ax_iconst B (v := 4) (by decide) d_V_auction_2 ?_
  refine ax_cSV B hR (as := [ax_I p0, ax_I 0, ax_I 4]) (V := fun q => ax_I q.1) (N := fun q => q.2) d_V_auction_3 l_V_44 m_V_isOutside hf (fun q h => c_V_isOutside _ _ _ _ _ _ h) rfl rfl (by decide) (by decide) (by decide) (by decide) (Nat.le_of_ble_eq_true rfl) (fun q1 hf => ?_)
  refine ax_if_ne B (tgt := 62) d_V_auction_6 (by decide) hf (fun hf => ?_) (fun hf => ?_)
  · refine ax_iload_n B d_V_auction_9 rfl (j := 2) rfl ?_
    refine ax_iconst B (v := 1) (by decide) d_V_auction_10 ?_
    refine ax_iload_n B d_V_auction_11 rfl (j := 1) rfl ?_
    refine ax_iconst B (v := 4) (by decide) d_V_auction_12 ?_
    refine ax_icmp_ne B (tgt := 21) d_V_auction_13 (by decide) hf (fun hf => ?_) (fun hf => ?_)
    · refine ax_bipush B (v := 20) (by decide) d_V_auction_16 ?_
      refine ax_goto B (tgt := 22) d_V_auction_18 (by decide) ?_
      exact K_V_auction_22 B hn hR hE hag q1.2 x0 p0 p1 p2 p3 p4 20 1 p1 hf
    · refine ax_iconst B (v := 1) (by decide) d_V_auction_21 ?_
      exact K_V_auction_22 B hn hR hE hag q1.2 x0 p0 p1 p2 p3 p4 1 1 p1 hf
  · refine ax_sub [] rfl ?_
    exact K_V_auction_62 B hn hR hE hag q1.2 hf
def G_V_auctionAt_19  (M : ax_M) (s0 : Option Nat) : Option (Option Nat × ax_M) := some (s0, M)
set_option maxRecDepth 100000 in
set_option maxHeartbeats 4000000 in
theorem K_V_auctionAt_19 {Z : ax_Z} {ad0 ad : Nat → Nat} {q : Option Nat × ax_M} (B : ax_B Z "VoteAuctions" b_V_auctionAt (some (.object "VoteAuctions$Auction"))) (hn : Z.2.2.2.2.2.2.2.2.2.2.2.1 = 2) (hR : ax_R Z 1 0 0) (hE : ax_E Z ad0 [] 0 0 (some (ax_O q.1)) q.2) (hag : ∀ a, a ∉ ([] : List Nat) → ad a = ad0 a)   : ∀ (M : ax_M) (s0 : Option Nat), G_V_auctionAt_19  M s0 = some q → ax_W Z ad 0 0 19 [] [ax_O s0] M := by
  intro M s0 hf
  unfold G_V_auctionAt_19 at hf
  exact ax_areturn B hE d_V_auctionAt_19 hf (Or.inl ⟨_, rfl⟩) hag (by decide) (by decide)
def f_V_auctionAt (M : ax_M) (x0 : Option Nat) (p0 : Int32) : Option (Option Nat × ax_M) := (f_V_isOutside M p0 0 5).bind (fun q1 => if q1.1 = 0 then (ax_gr q1.2 0 10 x0).bind (fun x2 => (ax_rr q1.2 4 x2 p0).bind (fun x3 => G_V_auctionAt_19 q1.2 x3)) else G_V_auctionAt_19 q1.2 none)
set_option maxRecDepth 100000 in
set_option maxHeartbeats 4000000 in
theorem c_V_auctionAt (l : Launch) (G : ax_G) (M : ax_M) (x0 : Option Nat) (p0 : Int32) {q : Option Nat × ax_M} (hf : f_V_auctionAt M x0 p0 = some q) : ax_C l G y_V_auctionAt b_V_auctionAt 2 (some (.object "VoteAuctions$Auction")) [] 1 0 0 [ax_O x0, ax_I p0] M (some (ax_O q.1)) q.2 := by
  refine ax_ofW (by decide +kernel) (lv0 := [(0, ax_O x0), (1, ax_I p0)]) (Nat.le_of_ble_eq_true rfl) rfl ?_
  intro Z ad B hin _ _ hn hR hE
  have hag : ∀ a, a ∉ ([] : List Nat) → ad a = ad a := fun _ _ => rfl
  unfold f_V_auctionAt at hf
  refine ax_iload_n B d_V_auctionAt_0 rfl (j := 1) rfl ?_
  refine ax_iconst B (v := 0) (by decide) d_V_auctionAt_1 ?_
  refine ax_iconst B (v := 5) (by decide) d_V_auctionAt_2 ?_
  refine ax_cSV B hR (as := [ax_I p0, ax_I 0, ax_I 5]) (V := fun q => ax_I q.1) (N := fun q => q.2) d_V_auctionAt_3 l_V_44 m_V_isOutside hf (fun q h => c_V_isOutside _ _ _ _ _ _ h) rfl rfl (by decide) (by decide) (by decide) (by decide) (Nat.le_of_ble_eq_true rfl) (fun q1 hf => ?_)
  refine ax_if_eq B (tgt := 13) d_V_auctionAt_6 (by decide) hf (fun hf => ?_) (fun hf => ?_)
  · refine ax_aload_n B d_V_auctionAt_13 rfl (j := 0) rfl ?_
    refine ax_getR B d_V_auctionAt_14 k_V_31 rfl hf (fun x2 hf => ?_)
    refine ax_iload_n B d_V_auctionAt_17 rfl (j := 1) rfl ?_
    refine ax_aald B d_V_auctionAt_18 (t := 4) (C := "VoteAuctions$Auction") (by decide) rfl hf (fun x3 hf => ?_)
    refine ax_sub [] rfl ?_
    exact K_V_auctionAt_19 B hn hR hE hag q1.2 x3 hf
  · refine ax_null B d_V_auctionAt_9 ?_
    refine ax_goto B (tgt := 19) d_V_auctionAt_10 (by decide) ?_
    refine ax_sub [] rfl ?_
    exact K_V_auctionAt_19 B hn hR hE hag q1.2 none hf
def G_V_isBelowStep_33  (M : ax_M) (s0 : Int32) : Option (Int32 × ax_M) := (ax_bo s0).bind (fun _ => some (s0, M))
set_option maxRecDepth 100000 in
set_option maxHeartbeats 4000000 in
theorem K_V_isBelowStep_33 {Z : ax_Z} {ad0 ad : Nat → Nat} {q : Int32 × ax_M} (B : ax_B Z "VoteAuctions" b_V_isBelowStep (some .boolean)) (hn : Z.2.2.2.2.2.2.2.2.2.2.2.1 = 2) (hR : ax_R Z 0 0 0) (hE : ax_E Z ad0 [] 0 0 (some (ax_I q.1)) q.2) (hag : ∀ a, a ∉ ([] : List Nat) → ad a = ad0 a)   : ∀ (M : ax_M) (s0 : Int32), G_V_isBelowStep_33  M s0 = some q → ax_W Z ad 0 0 33 [] [ax_I s0] M := by
  intro M s0 hf
  unfold G_V_isBelowStep_33 at hf
  obtain ⟨_, hb, hf⟩ := ax_bd hf
  exact ax_ireturn B hE d_V_isBelowStep_33 hf (ax_bo_n hb) hag (by decide) (by decide)
def G_V_isBelowStep_32  (M : ax_M)  : Option (Int32 × ax_M) := G_V_isBelowStep_33 M 0
set_option maxRecDepth 100000 in
set_option maxHeartbeats 4000000 in
theorem K_V_isBelowStep_32 {Z : ax_Z} {ad0 ad : Nat → Nat} {q : Int32 × ax_M} (B : ax_B Z "VoteAuctions" b_V_isBelowStep (some .boolean)) (hn : Z.2.2.2.2.2.2.2.2.2.2.2.1 = 2) (hR : ax_R Z 0 0 0) (hE : ax_E Z ad0 [] 0 0 (some (ax_I q.1)) q.2) (hag : ∀ a, a ∉ ([] : List Nat) → ad a = ad0 a)   : ∀ (M : ax_M) , G_V_isBelowStep_32  M  = some q → ax_W Z ad 0 0 32 [] [] M := by
  intro M  hf
  unfold G_V_isBelowStep_32 at hf
  refine ax_iconst B (v := 0) (by decide) d_V_isBelowStep_32 ?_
  exact K_V_isBelowStep_33 B hn hR hE hag M 0 hf
def f_V_isBelowStep (M : ax_M) (p0 : Option Nat) (p1 : Int32) : Option (Int32 × ax_M) := (ax_gi M 2 0 p0).bind (fun x1 => if x1 = 0 then (ax_gi M 2 12 p0).bind (fun x2 => if x2 = (-1) then G_V_isBelowStep_32 M else (ax_gi M 2 13 p0).bind (fun x3 => (ax_gi M 2 3 p0).bind (fun x4 => if (x3 + x4) ≤ p1 then G_V_isBelowStep_32 M else G_V_isBelowStep_33 M 1))) else G_V_isBelowStep_32 M)
set_option maxRecDepth 100000 in
set_option maxHeartbeats 4000000 in
theorem c_V_isBelowStep (l : Launch) (G : ax_G) (M : ax_M) (p0 : Option Nat) (p1 : Int32) {q : Int32 × ax_M} (hf : f_V_isBelowStep M p0 p1 = some q) : ax_C l G y_V_isBelowStep b_V_isBelowStep 2 (some .boolean) [] 0 0 0 [ax_O p0, ax_I p1] M (some (ax_I q.1)) q.2 := by
  refine ax_ofW (by decide +kernel) (lv0 := [(0, ax_O p0), (1, ax_I p1)]) (Nat.le_of_ble_eq_true rfl) rfl ?_
  intro Z ad B hin _ _ hn hR hE
  have hag : ∀ a, a ∉ ([] : List Nat) → ad a = ad a := fun _ _ => rfl
  unfold f_V_isBelowStep at hf
  refine ax_aload_n B d_V_isBelowStep_0 rfl (j := 0) rfl ?_
  refine ax_getI B d_V_isBelowStep_1 k_V_174 rfl hf (fun x1 hf => ?_)
  refine ax_if_ne B (tgt := 32) d_V_isBelowStep_4 (by decide) hf (fun hf => ?_) (fun hf => ?_)
  · refine ax_aload_n B d_V_isBelowStep_7 rfl (j := 0) rfl ?_
    refine ax_getI B d_V_isBelowStep_8 k_V_184 rfl hf (fun x2 hf => ?_)
    refine ax_iconst B (v := (-1)) (by decide) d_V_isBelowStep_11 ?_
    refine ax_icmp_eq B (tgt := 32) d_V_isBelowStep_12 (by decide) hf (fun hf => ?_) (fun hf => ?_)
    · refine ax_sub [] rfl ?_
      exact K_V_isBelowStep_32 B hn hR hE hag M hf
    · refine ax_iload_n B d_V_isBelowStep_15 rfl (j := 1) rfl ?_
      refine ax_aload_n B d_V_isBelowStep_16 rfl (j := 0) rfl ?_
      refine ax_getI B d_V_isBelowStep_17 k_V_191 rfl hf (fun x3 hf => ?_)
      refine ax_aload_n B d_V_isBelowStep_20 rfl (j := 0) rfl ?_
      refine ax_getI B d_V_isBelowStep_21 k_V_279 rfl hf (fun x4 hf => ?_)
      refine ax_iadd B d_V_isBelowStep_24 ?_
      refine ax_icmp_ge B (tgt := 32) d_V_isBelowStep_25 (by decide) hf (fun hf => ?_) (fun hf => ?_)
      · refine ax_sub [] rfl ?_
        exact K_V_isBelowStep_32 B hn hR hE hag M hf
      · refine ax_iconst B (v := 1) (by decide) d_V_isBelowStep_28 ?_
        refine ax_goto B (tgt := 33) d_V_isBelowStep_29 (by decide) ?_
        refine ax_sub [] rfl ?_
        exact K_V_isBelowStep_33 B hn hR hE hag M 1 hf
  · refine ax_sub [] rfl ?_
    exact K_V_isBelowStep_32 B hn hR hE hag M hf
def f_V_dropBid (M : ax_M) (x0 : Option Nat) (p0 : Option Nat) (p1 : Int32) : Option (ax_M) := (ax_ob M 0 x0).bind (fun _ => (f_V_isNoAccount M x0 p1).bind (fun q1 => if q1.1 = 0 then (ax_ob q1.2 2 p0).bind (fun _ => (f_A_costOf q1.2 p0 p1).bind (fun q2 => (ax_ob q2.2 0 x0).bind (fun _ => (f_V_giveBack q2.2 x0 p1 q2.1).bind (fun q3 => (ax_gr q3 2 8 p0).bind (fun x4 => (ax_ti q3 0 x4 p1 0).bind (fun M5 => (ax_gr M5 2 9 p0).bind (fun x6 => (ax_ti M5 0 x6 p1 0).bind (fun M7 => some M7)))))))) else some q1.2))
set_option maxRecDepth 100000 in
set_option maxHeartbeats 4000000 in
theorem c_V_dropBid (l : Launch) (G : ax_G) (M : ax_M) (x0 : Option Nat) (p0 : Option Nat) (p1 : Int32) {q : ax_M} (hf : f_V_dropBid M x0 p0 p1 = some q) : ax_C l G y_V_dropBid b_V_dropBid 3 none [] 1 0 0 [ax_O x0, ax_O p0, ax_I p1] M none q := by
  refine ax_ofW (by decide +kernel) (lv0 := [(0, ax_O x0), (1, ax_O p0), (2, ax_I p1)]) (Nat.le_of_ble_eq_true rfl) rfl ?_
  intro Z ad B hin _ _ hn hR hE
  have hag : ∀ a, a ∉ ([] : List Nat) → ad a = ad a := fun _ _ => rfl
  unfold f_V_dropBid at hf
  refine ax_aload_n B d_V_dropBid_0 rfl (j := 0) rfl ?_
  refine ax_iload_n B d_V_dropBid_1 rfl (j := 2) rfl ?_
  refine ax_cVV B hR (as := [ax_I p1]) (V := fun q => ax_I q.1) (N := fun q => q.2) d_V_dropBid_2 l_V_53 m_V_isNoAccount hf (fun q h => c_V_isNoAccount _ _ _ _ _ h) rfl rfl (by decide) (by decide) (by decide) (by decide) (Nat.le_of_ble_eq_true rfl) (fun q1 hf => ?_)
  refine ax_if_eq B (tgt := 9) d_V_dropBid_5 (by decide) hf (fun hf => ?_) (fun hf => ?_)
  · refine ax_aload_n B d_V_dropBid_9 rfl (j := 0) rfl ?_
    refine ax_iload_n B d_V_dropBid_10 rfl (j := 2) rfl ?_
    refine ax_aload_n B d_V_dropBid_11 rfl (j := 1) rfl ?_
    refine ax_iload_n B d_V_dropBid_12 rfl (j := 2) rfl ?_
    refine ax_cVV B hR (as := [ax_I p1]) (V := fun q => ax_L q.1) (N := fun q => q.2) d_V_dropBid_13 l_V_180 m_A_costOf hf (fun q h => c_A_costOf _ _ _ _ _ h) rfl rfl (by decide) (by decide) (by decide) (by decide) (Nat.le_of_ble_eq_true rfl) (fun q2 hf => ?_)
    refine ax_cVN B hR (as := [ax_I p1, ax_L q2.1]) (N := fun q => q) d_V_dropBid_16 l_V_216 m_V_giveBack hf (fun q h => c_V_giveBack _ _ _ _ _ _ h) rfl rfl (by decide) (by decide) (by decide) (by decide) (Nat.le_of_ble_eq_true rfl) (fun q3 hf => ?_)
    refine ax_aload_n B d_V_dropBid_19 rfl (j := 1) rfl ?_
    refine ax_getR B d_V_dropBid_20 k_V_198 rfl hf (fun x4 hf => ?_)
    refine ax_iload_n B d_V_dropBid_23 rfl (j := 2) rfl ?_
    refine ax_iconst B (v := 0) (by decide) d_V_dropBid_24 ?_
    refine ax_iast B d_V_dropBid_25 (t := 0) (by decide) rfl hf (fun M5 hf => ?_)
    refine ax_aload_n B d_V_dropBid_26 rfl (j := 1) rfl ?_
    refine ax_getR B d_V_dropBid_27 k_V_201 rfl hf (fun x6 hf => ?_)
    refine ax_iload_n B d_V_dropBid_30 rfl (j := 2) rfl ?_
    refine ax_iconst B (v := 0) (by decide) d_V_dropBid_31 ?_
    refine ax_iast B d_V_dropBid_32 (t := 0) (by decide) rfl hf (fun M7 hf => ?_)
    exact ax_vreturn B hE d_V_dropBid_33 hf hag (by decide) (by decide)
  · exact ax_vreturn B hE d_V_dropBid_8 hf hag (by decide) (by decide)
def f_A_tell (M : ax_M) (x0 : Option Nat) (p0 : Int32) : Option (ax_M) := (ax_gi M 2 11 x0).bind (fun x1 => (ax_pi M 2 11 x0 (x1 + 1)).bind (fun M2 => (ax_gr M2 2 6 x0).bind (fun x3 => (ax_gi M2 2 11 x0).bind (fun x4 => (ax_ti M2 0 x3 p0 x4).bind (fun M5 => some M5)))))
set_option maxRecDepth 100000 in
set_option maxHeartbeats 4000000 in
theorem c_A_tell (l : Launch) (G : ax_G) (M : ax_M) (x0 : Option Nat) (p0 : Int32) {q : ax_M} (hf : f_A_tell M x0 p0 = some q) : ax_C l G y_A_tell b_A_tell 2 none [] 0 0 0 [ax_O x0, ax_I p0] M none q := by
  refine ax_ofW (by decide +kernel) (lv0 := [(0, ax_O x0), (1, ax_I p0)]) (Nat.le_of_ble_eq_true rfl) rfl ?_
  intro Z ad B hin _ _ hn hR hE
  have hag : ∀ a, a ∉ ([] : List Nat) → ad a = ad a := fun _ _ => rfl
  unfold f_A_tell at hf
  refine ax_aload_n B d_A_tell_0 rfl (j := 0) rfl ?_
  refine ax_dup B rfl d_A_tell_1 ?_
  refine ax_getI B d_A_tell_2 k_A_50 rfl hf (fun x1 hf => ?_)
  refine ax_iconst B (v := 1) (by decide) d_A_tell_5 ?_
  refine ax_iadd B d_A_tell_6 ?_
  refine ax_putI B d_A_tell_7 k_A_50 rfl rfl rfl rfl hf (fun M2 hf => ?_)
  refine ax_aload_n B d_A_tell_10 rfl (j := 0) rfl ?_
  refine ax_getR B d_A_tell_11 k_A_30 rfl hf (fun x3 hf => ?_)
  refine ax_iload_n B d_A_tell_14 rfl (j := 1) rfl ?_
  refine ax_aload_n B d_A_tell_15 rfl (j := 0) rfl ?_
  refine ax_getI B d_A_tell_16 k_A_50 rfl hf (fun x4 hf => ?_)
  refine ax_iast B d_A_tell_19 (t := 0) (by decide) rfl hf (fun M5 hf => ?_)
  exact ax_vreturn B hE d_A_tell_20 hf hag (by decide) (by decide)
def f_V_setAside (M : ax_M) (x0 : Option Nat) (p0 : Int32) (p1 : Int64) : Option (ax_M) := (ax_gr M 0 4 x0).bind (fun x1 => (ax_rl M 1 x1 p0).bind (fun x2 => (ax_tl M 1 x1 p0 (x2 - p1)).bind (fun M3 => (ax_gr M3 0 5 x0).bind (fun x4 => (ax_rl M3 1 x4 p0).bind (fun x5 => (ax_tl M3 1 x4 p0 (x5 + p1)).bind (fun M6 => some M6))))))
set_option maxRecDepth 100000 in
set_option maxHeartbeats 4000000 in
theorem c_V_setAside (l : Launch) (G : ax_G) (M : ax_M) (x0 : Option Nat) (p0 : Int32) (p1 : Int64) {q : ax_M} (hf : f_V_setAside M x0 p0 p1 = some q) : ax_C l G y_V_setAside b_V_setAside 4 none [] 0 0 0 [ax_O x0, ax_I p0, ax_L p1] M none q := by
  refine ax_ofW (by decide +kernel) (lv0 := [(0, ax_O x0), (1, ax_I p0), (2, ax_L p1)]) (Nat.le_of_ble_eq_true rfl) rfl ?_
  intro Z ad B hin _ _ hn hR hE
  have hag : ∀ a, a ∉ ([] : List Nat) → ad a = ad a := fun _ _ => rfl
  unfold f_V_setAside at hf
  refine ax_aload_n B d_V_setAside_0 rfl (j := 0) rfl ?_
  refine ax_getR B d_V_setAside_1 k_V_13 rfl hf (fun x1 hf => ?_)
  refine ax_iload_n B d_V_setAside_4 rfl (j := 1) rfl ?_
  refine ax_dup2_11 B rfl rfl d_V_setAside_5 ?_
  refine ax_lald B d_V_setAside_6 (t := 1) (by decide) rfl hf (fun x2 hf => ?_)
  refine ax_lload_n B d_V_setAside_7 rfl (j := 2) rfl ?_
  refine ax_lsub B d_V_setAside_8 ?_
  refine ax_last B d_V_setAside_9 (t := 1) (by decide) rfl hf (fun M3 hf => ?_)
  refine ax_aload_n B d_V_setAside_10 rfl (j := 0) rfl ?_
  refine ax_getR B d_V_setAside_11 k_V_17 rfl hf (fun x4 hf => ?_)
  refine ax_iload_n B d_V_setAside_14 rfl (j := 1) rfl ?_
  refine ax_dup2_11 B rfl rfl d_V_setAside_15 ?_
  refine ax_lald B d_V_setAside_16 (t := 1) (by decide) rfl hf (fun x5 hf => ?_)
  refine ax_lload_n B d_V_setAside_17 rfl (j := 2) rfl ?_
  refine ax_ladd B d_V_setAside_18 ?_
  refine ax_last B d_V_setAside_19 (t := 1) (by decide) rfl hf (fun M6 hf => ?_)
  exact ax_vreturn B hE d_V_setAside_20 hf hag (by decide) (by decide)
