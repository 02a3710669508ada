def f_M_pay (M : ax_M) (x0 : Option Nat) (p0 : Int32) (p1 : Int64) : Option (ax_M) := (ax_gr M 3 6 x0).bind (fun x1 => (ax_rl M 1 x1 p0).bind (fun x2 => (ax_tl M 1 x1 p0 (x2 - p1)).bind (fun M3 => (ax_gl M3 3 2 x0).bind (fun x4 => (ax_pl M3 3 2 x0 (x4 + p1)).bind (fun M5 => some M5)))))
set_option maxRecDepth 100000 in
set_option maxHeartbeats 4000000 in
theorem c_M_pay (l : Launch) (G : ax_G) (M : ax_M) (x0 : Option Nat) (p0 : Int32) (p1 : Int64) {q : ax_M} (hf : f_M_pay M x0 p0 p1 = some q) : ax_C l G y_M_pay b_M_pay 4 none [] 0 0 0 [ax_O x0, ax_I p0, ax_L p1] M none q := by
  refine ax_ofW (by decide +kernel) (lv0 := [(0, ax_O x0), (1, ax_I p0), (2, ax_L p1)]) (Nat.le_of_ble_eq_true rfl) rfl ?_
  intro Z ad B hin _ _ hn hR hE
  have hag : ∀ a, a ∉ ([] : List Nat) → ad a = ad a := fun _ _ => rfl
  unfold f_M_pay at hf
  refine ax_aload_n B d_M_pay_0 rfl (j := 0) rfl ?_
  refine ax_getR B d_M_pay_1 k_M_17 rfl hf (fun x1 hf => ?_)
  refine ax_iload_n B d_M_pay_4 rfl (j := 1) rfl ?_
  refine ax_dup2_11 B rfl rfl d_M_pay_5 ?_
  refine ax_lald B d_M_pay_6 (t := 1) (by decide) rfl hf (fun x2 hf => ?_)
  refine ax_lload_n B d_M_pay_7 rfl (j := 2) rfl ?_
  refine ax_lsub B d_M_pay_8 ?_
  refine ax_last B d_M_pay_9 (t := 1) (by decide) rfl hf (fun M3 hf => ?_)
  refine ax_aload_n B d_M_pay_10 rfl (j := 0) rfl ?_
  refine ax_dup B rfl d_M_pay_11 ?_
  refine ax_getL B d_M_pay_12 k_M_152 rfl hf (fun x4 hf => ?_)
  refine ax_lload_n B d_M_pay_15 rfl (j := 2) rfl ?_
  refine ax_ladd B d_M_pay_16 ?_
  refine ax_putL B d_M_pay_17 k_M_152 rfl rfl hf (fun M5 hf => ?_)
  exact ax_vreturn B hE d_M_pay_20 hf hag (by decide) (by decide)
def f_M_setAside (M : ax_M) (x0 : Option Nat) (p0 : Int32) (p1 : Int64) : Option (ax_M) := (ax_gr M 3 6 x0).bind (fun x1 => (ax_rl M 1 x1 p0).bind (fun x2 => (ax_tl M 1 x1 p0 (x2 + p1)).bind (fun M3 => (ax_gr M3 3 5 x0).bind (fun x4 => (ax_rl M3 1 x4 p0).bind (fun x5 => (ax_tl M3 1 x4 p0 (x5 - p1)).bind (fun M6 => some M6))))))
set_option maxRecDepth 100000 in
set_option maxHeartbeats 4000000 in
theorem c_M_setAside (l : Launch) (G : ax_G) (M : ax_M) (x0 : Option Nat) (p0 : Int32) (p1 : Int64) {q : ax_M} (hf : f_M_setAside M x0 p0 p1 = some q) : ax_C l G y_M_setAside b_M_setAside 4 none [] 0 0 0 [ax_O x0, ax_I p0, ax_L p1] M none q := by
  refine ax_ofW (by decide +kernel) (lv0 := [(0, ax_O x0), (1, ax_I p0), (2, ax_L p1)]) (Nat.le_of_ble_eq_true rfl) rfl ?_
  intro Z ad B hin _ _ hn hR hE
  have hag : ∀ a, a ∉ ([] : List Nat) → ad a = ad a := fun _ _ => rfl
  unfold f_M_setAside at hf
  refine ax_aload_n B d_M_setAside_0 rfl (j := 0) rfl ?_
  refine ax_getR B d_M_setAside_1 k_M_17 rfl hf (fun x1 hf => ?_)
  refine ax_iload_n B d_M_setAside_4 rfl (j := 1) rfl ?_
  refine ax_dup2_11 B rfl rfl d_M_setAside_5 ?_
  refine ax_lald B d_M_setAside_6 (t := 1) (by decide) rfl hf (fun x2 hf => ?_)
  refine ax_lload_n B d_M_setAside_7 rfl (j := 2) rfl ?_
  refine ax_ladd B d_M_setAside_8 ?_
  refine ax_last B d_M_setAside_9 (t := 1) (by decide) rfl hf (fun M3 hf => ?_)
  refine ax_aload_n B d_M_setAside_10 rfl (j := 0) rfl ?_
  refine ax_getR B d_M_setAside_11 k_M_13 rfl hf (fun x4 hf => ?_)
  refine ax_iload_n B d_M_setAside_14 rfl (j := 1) rfl ?_
  refine ax_dup2_11 B rfl rfl d_M_setAside_15 ?_
  refine ax_lald B d_M_setAside_16 (t := 1) (by decide) rfl hf (fun x5 hf => ?_)
  refine ax_lload_n B d_M_setAside_17 rfl (j := 2) rfl ?_
  refine ax_lsub B d_M_setAside_18 ?_
  refine ax_last B d_M_setAside_19 (t := 1) (by decide) rfl hf (fun M6 hf => ?_)
  exact ax_vreturn B hE d_M_setAside_20 hf hag (by decide) (by decide)
def G_M_endUnits_190 (rec96 : ax_M → Option Nat → Int32 → Int32 → Option (ax_M)) (M : ax_M) (v0 : Option Nat) (v1 : Int32) (v4 : Int32) : Option (ax_M) := (some (v4 + 1)).bind (fun y1 => rec96 M v0 v1 y1)
set_option maxRecDepth 100000 in
set_option maxHeartbeats 4000000 in
theorem K_M_endUnits_190 {Z : ax_Z} {ad0 ad : Nat → Nat} {q : ax_M} (B : ax_B Z "VoteAuctionsModel" b_M_endUnits none) (hn : Z.2.2.2.2.2.2.2.2.2.2.2.1 = 10) (hR : ax_R Z 1 0 0) (hE : ax_E Z ad0 [] 0 0 none q) (hag : ∀ a, a ∉ ([] : List Nat) → ad a = ad0 a) {rec96 : ax_M → Option Nat → Int32 → Int32 → Option (ax_M)} (hr96 : ∀ (M : ax_M) (v0 : Option Nat) (v1 : Int32) (v4 : Int32), rec96 M v0 v1 v4 = some q → ax_W Z ad 0 0 96 [(0, ax_O v0), (1, ax_I v1), (4, ax_I v4)] [] M) : ∀ (M : ax_M) (v0 : Option Nat) (v1 : Int32) (v4 : Int32), G_M_endUnits_190 rec96 M v0 v1 v4 = some q → ax_W Z ad 0 0 190 [(0, ax_O v0), (1, ax_I v1), (4, ax_I v4)] [] M := by
  intro M v0 v1 v4 hf
  unfold G_M_endUnits_190 at hf
  refine ax_iincN B (j := 2) (lv' := fun y => [(4, ax_I y), (0, ax_O v0), (1, ax_I v1)]) d_M_endUnits_190 rfl hf rfl (by rw [hn]; decide) (fun _ => rfl) (fun y1 hf => ?_)
  refine ax_goto B (tgt := 96) d_M_endUnits_193 (by decide) ?_
  refine ax_sub [1, 2, 0] rfl ?_
  exact hr96 M v0 v1 y1 hf
def G_M_endUnits_184 (rec96 : ax_M → Option Nat → Int32 → Int32 → Option (ax_M)) (M : ax_M) (v0 : Option Nat) (v1 : Int32) (v4 : Int32) (v8 : Int64) (s0 : Int64) (s1 : Int32) (s2 : Option Nat) : Option (ax_M) := (ax_ob M 3 s2).bind (fun _ => (f_M_setAside M s2 s1 (s0 - v8)).bind (fun q1 => G_M_endUnits_190 rec96 q1 v0 v1 v4))
set_option maxRecDepth 100000 in
set_option maxHeartbeats 4000000 in
theorem K_M_endUnits_184 {Z : ax_Z} {ad0 ad : Nat → Nat} {q : ax_M} (B : ax_B Z "VoteAuctionsModel" b_M_endUnits none) (hn : Z.2.2.2.2.2.2.2.2.2.2.2.1 = 10) (hR : ax_R Z 1 0 0) (hE : ax_E Z ad0 [] 0 0 none q) (hag : ∀ a, a ∉ ([] : List Nat) → ad a = ad0 a) {rec96 : ax_M → Option Nat → Int32 → Int32 → Option (ax_M)} (hr96 : ∀ (M : ax_M) (v0 : Option Nat) (v1 : Int32) (v4 : Int32), rec96 M v0 v1 v4 = some q → ax_W Z ad 0 0 96 [(0, ax_O v0), (1, ax_I v1), (4, ax_I v4)] [] M) : ∀ (M : ax_M) (v0 : Option Nat) (v1 : Int32) (v4 : Int32) (v8 : Int64) (s0 : Int64) (s1 : Int32) (s2 : Option Nat), G_M_endUnits_184 rec96 M v0 v1 v4 v8 s0 s1 s2 = some q → ax_W Z ad 0 0 184 [(0, ax_O v0), (1, ax_I v1), (4, ax_I v4), (8, ax_L v8)] [ax_L s0, ax_I s1, ax_O s2] M := by
  intro M v0 v1 v4 v8 s0 s1 s2 hf
  unfold G_M_endUnits_184 at hf
  refine ax_lload B (j := 3) d_M_endUnits_184 rfl ?_
  refine ax_lsub B d_M_endUnits_186 ?_
  refine ax_cVN B hR (as := [ax_I s1, ax_L (s0 - v8)]) (N := fun q => q) d_M_endUnits_187 l_M_241 m_M_setAside hf (fun q h => c_M_setAside _ _ _ _ _ _ h) rfl rfl (by decide) (by decide) (by decide) (by decide) (Nat.le_of_ble_eq_true rfl) (fun q1 hf => ?_)
  refine ax_sub [0, 1, 2] rfl ?_
  exact K_M_endUnits_190 B hn hR hE hag hr96 q1 v0 v1 v4 hf
def G_M_endUnits_165 (rec96 : ax_M → Option Nat → Int32 → Int32 → Option (ax_M)) (M : ax_M) (v0 : Option Nat) (v1 : Int32) (v4 : Int32) (v6 : Int64) (v8 : Int64) (s0 : Int64) (s1 : Int32) (s2 : Option Nat) : Option (ax_M) := (ax_ob M 3 s2).bind (fun _ => (f_M_pay M s2 s1 s0).bind (fun q1 => if (lg_cmp v6 0) ≤ 0 then G_M_endUnits_184 rec96 q1 v0 v1 v4 v8 0 v4 v0 else G_M_endUnits_184 rec96 q1 v0 v1 v4 v8 v6 v4 v0))
set_option maxRecDepth 100000 in
set_option maxHeartbeats 4000000 in
theorem K_M_endUnits_165 {Z : ax_Z} {ad0 ad : Nat → Nat} {q : ax_M} (B : ax_B Z "VoteAuctionsModel" b_M_endUnits none) (hn : Z.2.2.2.2.2.2.2.2.2.2.2.1 = 10) (hR : ax_R Z 1 0 0) (hE : ax_E Z ad0 [] 0 0 none q) (hag : ∀ a, a ∉ ([] : List Nat) → ad a = ad0 a) {rec96 : ax_M → Option Nat → Int32 → Int32 → Option (ax_M)} (hr96 : ∀ (M : ax_M) (v0 : Option Nat) (v1 : Int32) (v4 : Int32), rec96 M v0 v1 v4 = some q → ax_W Z ad 0 0 96 [(0, ax_O v0), (1, ax_I v1), (4, ax_I v4)] [] M) : ∀ (M : ax_M) (v0 : Option Nat) (v1 : Int32) (v4 : Int32) (v6 : Int64) (v8 : Int64) (s0 : Int64) (s1 : Int32) (s2 : Option Nat), G_M_endUnits_165 rec96 M v0 v1 v4 v6 v8 s0 s1 s2 = some q → ax_W Z ad 0 0 165 [(0, ax_O v0), (1, ax_I v1), (4, ax_I v4), (6, ax_L v6), (8, ax_L v8)] [ax_L s0, ax_I s1, ax_O s2] M := by
  intro M v0 v1 v4 v6 v8 s0 s1 s2 hf
  unfold G_M_endUnits_165 at hf
  refine ax_cVN B hR (as := [ax_I s1, ax_L s0]) (N := fun q => q) d_M_endUnits_165 l_M_254 m_M_pay hf (fun q h => c_M_pay _ _ _ _ _ _ h) rfl rfl (by decide) (by decide) (by decide) (by decide) (Nat.le_of_ble_eq_true rfl) (fun q1 hf => ?_)
  refine ax_aload_n B d_M_endUnits_168 rfl (j := 0) rfl ?_
  refine ax_iload B (j := 2) d_M_endUnits_169 rfl ?_
  refine ax_lload B (j := 3) d_M_endUnits_171 rfl ?_
  refine ax_lconst B (v := 0) (by decide) d_M_endUnits_173 ?_
  refine ax_lcmp B d_M_endUnits_174 ?_
  refine ax_if_le B (tgt := 183) d_M_endUnits_175 (by decide) hf (fun hf => ?_) (fun hf => ?_)
  · refine ax_lconst B (v := 0) (by decide) d_M_endUnits_183 ?_
    refine ax_sub [0, 1, 2, 4] rfl ?_
    exact K_M_endUnits_184 B hn hR hE hag hr96 q1 v0 v1 v4 v8 0 v4 v0 hf
  · refine ax_lload B (j := 3) d_M_endUnits_178 rfl ?_
    refine ax_goto B (tgt := 184) d_M_endUnits_180 (by decide) ?_
    refine ax_sub [0, 1, 2, 4] rfl ?_
    exact K_M_endUnits_184 B hn hR hE hag hr96 q1 v0 v1 v4 v8 v6 v4 v0 hf
def G_M_endUnits_96 (rec96 : ax_M → Option Nat → Int32 → Int32 → Option (ax_M)) (M : ax_M) (v0 : Option Nat) (v1 : Int32) (v4 : Int32) : Option (ax_M) := (ax_gi M 3 3 v0).bind (fun x1 => if x1 ≤ v4 then some M else (some ((8 * v1) + v4)).bind (fun y2 => (ax_gr M 3 35 v0).bind (fun x3 => (ax_ri M 2 x3 y2).bind (fun x4 => if x4 = 0 then G_M_endUnits_190 rec96 M v0 v1 v4 else (ax_gr M 3 41 v0).bind (fun x5 => (ax_ri M 0 x5 y2).bind (fun x6 => (ax_gr M 3 33 v0).bind (fun x7 => (ax_rl M 1 x7 v1).bind (fun x8 => (some ((x6.toInt64) * x8)).bind (fun y9 => (ax_ob M 3 v0).bind (fun _ => (f_M_costOf M v0 y2).bind (fun q10 => if (lg_cmp y9 0) ≤ 0 then G_M_endUnits_165 rec96 q10.2 v0 v1 v4 y9 q10.1 0 v4 v0 else G_M_endUnits_165 rec96 q10.2 v0 v1 v4 y9 q10.1 y9 v4 v0)))))))))))
set_option maxRecDepth 100000 in
set_option maxHeartbeats 4000000 in
theorem K_M_endUnits_96 {Z : ax_Z} {ad0 ad : Nat → Nat} {q : ax_M} (B : ax_B Z "VoteAuctionsModel" b_M_endUnits none) (hn : Z.2.2.2.2.2.2.2.2.2.2.2.1 = 10) (hR : ax_R Z 1 0 0) (hE : ax_E Z ad0 [] 0 0 none q) (hag : ∀ a, a ∉ ([] : List Nat) → ad a = ad0 a) {rec96 : ax_M → Option Nat → Int32 → Int32 → Option (ax_M)} (hr96 : ∀ (M : ax_M) (v0 : Option Nat) (v1 : Int32) (v4 : Int32), rec96 M v0 v1 v4 = some q → ax_W Z ad 0 0 96 [(0, ax_O v0), (1, ax_I v1), (4, ax_I v4)] [] M) : ∀ (M : ax_M) (v0 : Option Nat) (v1 : Int32) (v4 : Int32), G_M_endUnits_96 rec96 M v0 v1 v4 = some q → ax_W Z ad 0 0 96 [(0, ax_O v0), (1, ax_I v1), (4, ax_I v4)] [] M := by
  intro M v0 v1 v4 hf
  unfold G_M_endUnits_96 at hf
  refine ax_iload B (j := 2) d_M_endUnits_96 rfl ?_
  refine ax_aload_n B d_M_endUnits_98 rfl (j := 0) rfl ?_
  refine ax_getI B d_M_endUnits_99 k_M_136 rfl hf (fun x1 hf => ?_)
  refine ax_icmp_ge B (tgt := 196) d_M_endUnits_102 (by decide) hf (fun hf => ?_) (fun hf => ?_)
  · exact ax_vreturn B hE d_M_endUnits_196 hf hag (by decide) (by decide)
  · refine ax_bipush B (v := 8) (by decide) d_M_endUnits_105 ?_
    refine ax_iload_n B d_M_endUnits_107 rfl (j := 1) rfl ?_
    refine ax_imul B d_M_endUnits_108 ?_
    refine ax_iload B (j := 2) d_M_endUnits_109 rfl ?_
    refine ax_iadd B d_M_endUnits_111 ?_
    refine ax_nmI hf (fun y2 hf => ?_)
    refine ax_istore B (lv' := [(5, ax_I y2), (0, ax_O v0), (1, ax_I v1), (4, ax_I v4)]) d_M_endUnits_112 (by rw [hn]; decide) rfl ?_
    refine ax_aload_n B d_M_endUnits_114 rfl (j := 1) rfl ?_
    refine ax_getR B d_M_endUnits_115 k_M_96 rfl hf (fun x3 hf => ?_)
    refine ax_iload B (j := 0) d_M_endUnits_118 rfl ?_
    refine ax_zald B d_M_endUnits_120 (t := 2) (by decide) rfl hf (fun x4 hf => ?_)
    refine ax_if_eq B (tgt := 190) d_M_endUnits_121 (by decide) hf (fun hf => ?_) (fun hf => ?_)
    · refine ax_sub [1, 2, 3] rfl ?_
      exact K_M_endUnits_190 B hn hR hE hag hr96 M v0 v1 v4 hf
    · refine ax_aload_n B d_M_endUnits_124 rfl (j := 1) rfl ?_
      refine ax_getR B d_M_endUnits_125 k_M_114 rfl hf (fun x5 hf => ?_)
      refine ax_iload B (j := 0) d_M_endUnits_128 rfl ?_
      refine ax_iald B d_M_endUnits_130 (t := 0) (by decide) rfl hf (fun x6 hf => ?_)
      refine ax_i2l B d_M_endUnits_131 ?_
      refine ax_aload_n B d_M_endUnits_132 rfl (j := 1) rfl ?_
      refine ax_getR B d_M_endUnits_133 k_M_90 rfl hf (fun x7 hf => ?_)
      refine ax_iload_n B d_M_endUnits_136 rfl (j := 2) rfl ?_
      refine ax_lald B d_M_endUnits_137 (t := 1) (by decide) rfl hf (fun x8 hf => ?_)
      refine ax_lmul B d_M_endUnits_138 ?_
      refine ax_nmL hf (fun y9 hf => ?_)
      refine ax_lstore B (lv' := [(6, ax_L y9), (5, ax_I y2), (0, ax_O v0), (1, ax_I v1), (4, ax_I v4)]) d_M_endUnits_139 (by rw [hn]; decide) rfl ?_
      refine ax_aload_n B d_M_endUnits_141 rfl (j := 2) rfl ?_
      refine ax_iload B (j := 1) d_M_endUnits_142 rfl ?_
      refine ax_cVV B hR (as := [ax_I y2]) (V := fun q => ax_L q.1) (N := fun q => q.2) d_M_endUnits_144 l_M_237 m_M_costOf hf (fun q h => c_M_costOf _ _ _ _ _ h) rfl rfl (by decide) (by decide) (by decide) (by decide) (Nat.le_of_ble_eq_true rfl) (fun q10 hf => ?_)
      refine ax_lstore B (lv' := [(8, ax_L q10.1), (6, ax_L y9), (5, ax_I y2), (0, ax_O v0), (1, ax_I v1), (4, ax_I v4)]) d_M_endUnits_147 (by rw [hn]; decide) rfl ?_
      refine ax_aload_n B d_M_endUnits_149 rfl (j := 3) rfl ?_
      refine ax_iload B (j := 5) d_M_endUnits_150 rfl ?_
      refine ax_lload B (j := 1) d_M_endUnits_152 rfl ?_
      refine ax_lconst B (v := 0) (by decide) d_M_endUnits_154 ?_
      refine ax_lcmp B d_M_endUnits_155 ?_
      refine ax_if_le B (tgt := 164) d_M_endUnits_156 (by decide) hf (fun hf => ?_) (fun hf => ?_)
      · refine ax_lconst B (v := 0) (by decide) d_M_endUnits_164 ?_
        refine ax_sub [3, 4, 5, 1, 0] rfl ?_
        exact K_M_endUnits_165 B hn hR hE hag hr96 q10.2 v0 v1 v4 y9 q10.1 0 v4 v0 hf
      · refine ax_lload B (j := 1) d_M_endUnits_159 rfl ?_
        refine ax_goto B (tgt := 165) d_M_endUnits_161 (by decide) ?_
        refine ax_sub [3, 4, 5, 1, 0] rfl ?_
        exact K_M_endUnits_165 B hn hR hE hag hr96 q10.2 v0 v1 v4 y9 q10.1 y9 v4 v0 hf
def F_M_endUnits_96  : Nat → ax_M → Option Nat → Int32 → Int32 → Option (ax_M)
  | 0 => fun _ _ _ _ => none
  | n + 1 => G_M_endUnits_96 (F_M_endUnits_96  n)
set_option maxRecDepth 100000 in
set_option maxHeartbeats 4000000 in
theorem L_M_endUnits_96 {Z : ax_Z} {ad0 ad : Nat → Nat} {q : ax_M} (B : ax_B Z "VoteAuctionsModel" b_M_endUnits none) (hn : Z.2.2.2.2.2.2.2.2.2.2.2.1 = 10) (hR : ax_R Z 1 0 0) (hE : ax_E Z ad0 [] 0 0 none q) (hag : ∀ a, a ∉ ([] : List Nat) → ad a = ad0 a)   : ∀ (n : Nat) (M : ax_M) (v0 : Option Nat) (v1 : Int32) (v4 : Int32), F_M_endUnits_96  n M v0 v1 v4 = some q → ax_W Z ad 0 0 96 [(0, ax_O v0), (1, ax_I v1), (4, ax_I v4)] [] M := by
  intro n
  induction n with
  | zero => intro M v0 v1 v4 hf; cases hf
  | succ n ih => exact K_M_endUnits_96 B hn hR hE hag ih
def G_M_endUnits_93  (M : ax_M) (v0 : Option Nat) (v1 : Int32) : Option (ax_M) := F_M_endUnits_96 64 M v0 v1 0
set_option maxRecDepth 100000 in
set_option maxHeartbeats 4000000 in
theorem K_M_endUnits_93 {Z : ax_Z} {ad0 ad : Nat → Nat} {q : ax_M} (B : ax_B Z "VoteAuctionsModel" b_M_endUnits none) (hn : Z.2.2.2.2.2.2.2.2.2.2.2.1 = 10) (hR : ax_R Z 1 0 0) (hE : ax_E Z ad0 [] 0 0 none q) (hag : ∀ a, a ∉ ([] : List Nat) → ad a = ad0 a)   : ∀ (M : ax_M) (v0 : Option Nat) (v1 : Int32), G_M_endUnits_93  M v0 v1 = some q → ax_W Z ad 0 0 93 [(0, ax_O v0), (1, ax_I v1)] [] M := by
  intro M v0 v1 hf
  unfold G_M_endUnits_93 at hf
  refine ax_iconst B (v := 0) (by decide) d_M_endUnits_93 ?_
  refine ax_istore B (lv' := [(4, ax_I 0), (0, ax_O v0), (1, ax_I v1)]) d_M_endUnits_94 (by rw [hn]; decide) rfl ?_
  refine ax_sub [1, 2, 0] rfl ?_
  exact L_M_endUnits_96 B hn hR hE hag 64 M v0 v1 0 hf
def G_M_endUnits_58 (rec14 : ax_M → Option Nat → Int32 → Int32 → Int32 → Option (ax_M)) (M : ax_M) (v0 : Option Nat) (v1 : Int32) (v2 : Int32) (v4 : Int32) (s0 : Int32) (s1 : Int32) (s2 : Option Nat) : Option (ax_M) := (ax_ti M 0 s2 s1 s0).bind (fun M1 => (ax_gr M1 3 41 v0).bind (fun x2 => (ax_ri M1 0 x2 v4).bind (fun x3 => (some (v2 - x3)).bind (fun y4 => (ax_gr M1 3 33 v0).bind (fun x5 => (ax_gr M1 3 37 v0).bind (fun x6 => (ax_ri M1 0 x6 v4).bind (fun x7 => (ax_tl M1 1 x5 v1 (x7.toInt64)).bind (fun M8 => (ax_ob M8 3 v0).bind (fun _ => (f_M_greatest M8 v0 v1 (-1)).bind (fun q9 => rec14 q9.2 v0 v1 y4 q9.1))))))))))
set_option maxRecDepth 100000 in
set_option maxHeartbeats 4000000 in
theorem K_M_endUnits_58 {Z : ax_Z} {ad0 ad : Nat → Nat} {q : ax_M} (B : ax_B Z "VoteAuctionsModel" b_M_endUnits none) (hn : Z.2.2.2.2.2.2.2.2.2.2.2.1 = 10) (hR : ax_R Z 1 0 0) (hE : ax_E Z ad0 [] 0 0 none q) (hag : ∀ a, a ∉ ([] : List Nat) → ad a = ad0 a) {rec14 : ax_M → Option Nat → Int32 → Int32 → Int32 → Option (ax_M)} (hr14 : ∀ (M : ax_M) (v0 : Option Nat) (v1 : Int32) (v2 : Int32) (v3 : Int32), rec14 M v0 v1 v2 v3 = some q → ax_W Z ad 0 0 14 [(0, ax_O v0), (1, ax_I v1), (2, ax_I v2), (3, ax_I v3)] [] M) : ∀ (M : ax_M) (v0 : Option Nat) (v1 : Int32) (v2 : Int32) (v4 : Int32) (s0 : Int32) (s1 : Int32) (s2 : Option Nat), G_M_endUnits_58 rec14 M v0 v1 v2 v4 s0 s1 s2 = some q → ax_W Z ad 0 0 58 [(0, ax_O v0), (1, ax_I v1), (2, ax_I v2), (4, ax_I v4)] [ax_I s0, ax_I s1, ax_O s2] M := by
  intro M v0 v1 v2 v4 s0 s1 s2 hf
  unfold G_M_endUnits_58 at hf
  refine ax_iast B d_M_endUnits_58 (t := 0) (by decide) rfl hf (fun M1 hf => ?_)
  refine ax_iload_n B d_M_endUnits_59 rfl (j := 2) rfl ?_
  refine ax_aload_n B d_M_endUnits_60 rfl (j := 0) rfl ?_
  refine ax_getR B d_M_endUnits_61 k_M_114 rfl hf (fun x2 hf => ?_)
  refine ax_iload B (j := 3) d_M_endUnits_64 rfl ?_
  refine ax_iald B d_M_endUnits_66 (t := 0) (by decide) rfl hf (fun x3 hf => ?_)
  refine ax_isub B d_M_endUnits_67 ?_
  refine ax_nmI hf (fun y4 hf => ?_)
  refine ax_istore_n B (lv' := [(2, ax_I y4), (0, ax_O v0), (1, ax_I v1), (4, ax_I v4)]) d_M_endUnits_68 rfl (by rw [hn]; decide) rfl ?_
  refine ax_aload_n B d_M_endUnits_69 rfl (j := 1) rfl ?_
  refine ax_getR B d_M_endUnits_70 k_M_90 rfl hf (fun x5 hf => ?_)
  refine ax_iload_n B d_M_endUnits_73 rfl (j := 2) rfl ?_
  refine ax_aload_n B d_M_endUnits_74 rfl (j := 1) rfl ?_
  refine ax_getR B d_M_endUnits_75 k_M_102 rfl hf (fun x6 hf => ?_)
  refine ax_iload B (j := 3) d_M_endUnits_78 rfl ?_
  refine ax_iald B d_M_endUnits_80 (t := 0) (by decide) rfl hf (fun x7 hf => ?_)
  refine ax_i2l B d_M_endUnits_81 ?_
  refine ax_last B d_M_endUnits_82 (t := 1) (by decide) rfl hf (fun M8 hf => ?_)
  refine ax_aload_n B d_M_endUnits_83 rfl (j := 1) rfl ?_
  refine ax_iload_n B d_M_endUnits_84 rfl (j := 2) rfl ?_
  refine ax_iconst B (v := (-1)) (by decide) d_M_endUnits_85 ?_
  refine ax_cVV B hR (as := [ax_I v1, ax_I (-1)]) (V := fun q => ax_I q.1) (N := fun q => q.2) d_M_endUnits_86 l_M_234 m_M_greatest hf (fun q h => c_M_greatest _ _ _ _ _ _ h) rfl rfl (by decide) (by decide) (by decide) (by decide) (Nat.le_of_ble_eq_true rfl) (fun q9 hf => ?_)
  refine ax_istore_n B (lv' := [(3, ax_I q9.1), (2, ax_I y4), (0, ax_O v0), (1, ax_I v1), (4, ax_I v4)]) d_M_endUnits_89 rfl (by rw [hn]; decide) rfl ?_
  refine ax_goto B (tgt := 14) d_M_endUnits_90 (by decide) ?_
  refine ax_sub [2, 3, 1, 0] rfl ?_
  exact hr14 q9.2 v0 v1 y4 q9.1 hf
def G_M_endUnits_14 (rec14 : ax_M → Option Nat → Int32 → Int32 → Int32 → Option (ax_M)) (M : ax_M) (v0 : Option Nat) (v1 : Int32) (v2 : Int32) (v3 : Int32) : Option (ax_M) := if v2 ≤ 0 then G_M_endUnits_93 M v0 v1 else if v3 < 0 then G_M_endUnits_93 M v0 v1 else (some ((8 * v1) + v3)).bind (fun y1 => (ax_gr M 3 41 v0).bind (fun x2 => (ax_gr M 3 36 v0).bind (fun x3 => (ax_ri M 0 x3 y1).bind (fun x4 => if v2 ≤ x4 then G_M_endUnits_58 rec14 M v0 v1 v2 y1 v2 y1 x2 else (ax_gr M 3 36 v0).bind (fun x5 => (ax_ri M 0 x5 y1).bind (fun x6 => G_M_endUnits_58 rec14 M v0 v1 v2 y1 x6 y1 x2))))))
set_option maxRecDepth 100000 in
set_option maxHeartbeats 4000000 in
theorem K_M_endUnits_14 {Z : ax_Z} {ad0 ad : Nat → Nat} {q : ax_M} (B : ax_B Z "VoteAuctionsModel" b_M_endUnits none) (hn : Z.2.2.2.2.2.2.2.2.2.2.2.1 = 10) (hR : ax_R Z 1 0 0) (hE : ax_E Z ad0 [] 0 0 none q) (hag : ∀ a, a ∉ ([] : List Nat) → ad a = ad0 a) {rec14 : ax_M → Option Nat → Int32 → Int32 → Int32 → Option (ax_M)} (hr14 : ∀ (M : ax_M) (v0 : Option Nat) (v1 : Int32) (v2 : Int32) (v3 : Int32), rec14 M v0 v1 v2 v3 = some q → ax_W Z ad 0 0 14 [(0, ax_O v0), (1, ax_I v1), (2, ax_I v2), (3, ax_I v3)] [] M) : ∀ (M : ax_M) (v0 : Option Nat) (v1 : Int32) (v2 : Int32) (v3 : Int32), G_M_endUnits_14 rec14 M v0 v1 v2 v3 = some q → ax_W Z ad 0 0 14 [(0, ax_O v0), (1, ax_I v1), (2, ax_I v2), (3, ax_I v3)] [] M := by
  intro M v0 v1 v2 v3 hf
  unfold G_M_endUnits_14 at hf
  refine ax_iload_n B d_M_endUnits_14 rfl (j := 2) rfl ?_
  refine ax_if_le B (tgt := 93) d_M_endUnits_15 (by decide) hf (fun hf => ?_) (fun hf => ?_)
  · refine ax_sub [0, 1] rfl ?_
    exact K_M_endUnits_93 B hn hR hE hag M v0 v1 hf
  · refine ax_iload_n B d_M_endUnits_18 rfl (j := 3) rfl ?_
    refine ax_if_lt B (tgt := 93) d_M_endUnits_19 (by decide) hf (fun hf => ?_) (fun hf => ?_)
    · refine ax_sub [0, 1] rfl ?_
      exact K_M_endUnits_93 B hn hR hE hag M v0 v1 hf
    · refine ax_bipush B (v := 8) (by decide) d_M_endUnits_22 ?_
      refine ax_iload_n B d_M_endUnits_24 rfl (j := 1) rfl ?_
      refine ax_imul B d_M_endUnits_25 ?_
      refine ax_iload_n B d_M_endUnits_26 rfl (j := 3) rfl ?_
      refine ax_iadd B d_M_endUnits_27 ?_
      refine ax_nmI hf (fun y1 hf => ?_)
      refine ax_istore B (lv' := [(4, ax_I y1), (0, ax_O v0), (1, ax_I v1), (2, ax_I v2), (3, ax_I v3)]) d_M_endUnits_28 (by rw [hn]; decide) rfl ?_
      refine ax_aload_n B d_M_endUnits_30 rfl (j := 1) rfl ?_
      refine ax_getR B d_M_endUnits_31 k_M_114 rfl hf (fun x2 hf => ?_)
      refine ax_iload B (j := 0) d_M_endUnits_34 rfl ?_
      refine ax_aload_n B d_M_endUnits_36 rfl (j := 1) rfl ?_
      refine ax_getR B d_M_endUnits_37 k_M_99 rfl hf (fun x3 hf => ?_)
      refine ax_iload B (j := 0) d_M_endUnits_40 rfl ?_
      refine ax_iald B d_M_endUnits_42 (t := 0) (by decide) rfl hf (fun x4 hf => ?_)
      refine ax_iload_n B d_M_endUnits_43 rfl (j := 3) rfl ?_
      refine ax_icmp_ge B (tgt := 57) d_M_endUnits_44 (by decide) hf (fun hf => ?_) (fun hf => ?_)
      · refine ax_iload_n B d_M_endUnits_57 rfl (j := 3) rfl ?_
        refine ax_sub [1, 2, 3, 0] rfl ?_
        exact K_M_endUnits_58 B hn hR hE hag hr14 M v0 v1 v2 y1 v2 y1 x2 hf
      · refine ax_aload_n B d_M_endUnits_47 rfl (j := 1) rfl ?_
        refine ax_getR B d_M_endUnits_48 k_M_99 rfl hf (fun x5 hf => ?_)
        refine ax_iload B (j := 0) d_M_endUnits_51 rfl ?_
        refine ax_iald B d_M_endUnits_53 (t := 0) (by decide) rfl hf (fun x6 hf => ?_)
        refine ax_goto B (tgt := 58) d_M_endUnits_54 (by decide) ?_
        refine ax_sub [1, 2, 3, 0] rfl ?_
        exact K_M_endUnits_58 B hn hR hE hag hr14 M v0 v1 v2 y1 x6 y1 x2 hf
def F_M_endUnits_14  : Nat → ax_M → Option Nat → Int32 → Int32 → Int32 → Option (ax_M)
  | 0 => fun _ _ _ _ _ => none
  | n + 1 => G_M_endUnits_14 (F_M_endUnits_14  n)
set_option maxRecDepth 100000 in
set_option maxHeartbeats 4000000 in
theorem L_M_endUnits_14 {Z : ax_Z} {ad0 ad : Nat → Nat} {q : ax_M} (B : ax_B Z "VoteAuctionsModel" b_M_endUnits none) (hn : Z.2.2.2.2.2.2.2.2.2.2.2.1 = 10) (hR : ax_R Z 1 0 0) (hE : ax_E Z ad0 [] 0 0 none q) (hag : ∀ a, a ∉ ([] : List Nat) → ad a = ad0 a)   : ∀ (n : Nat) (M : ax_M) (v0 : Option Nat) (v1 : Int32) (v2 : Int32) (v3 : Int32), F_M_endUnits_14  n M v0 v1 v2 v3 = some q → ax_W Z ad 0 0 14 [(0, ax_O v0), (1, ax_I v1), (2, ax_I v2), (3, ax_I v3)] [] M := by
  intro n
  induction n with
  | zero => intro M v0 v1 v2 v3 hf; cases hf
  | succ n ih => exact K_M_endUnits_14 B hn hR hE hag ih
def f_M_endUnits (M : ax_M) (x0 : Option Nat) (p0 : Int32) : Option (ax_M) := (ax_gr M 3 28 x0).bind (fun x1 => (ax_ri M 0 x1 p0).bind (fun x2 => (ax_ob M 3 x0).bind (fun _ => (f_M_greatest M x0 p0 (-1)).bind (fun q3 => F_M_endUnits_14 64 q3.2 x0 p0 x2 q3.1))))
set_option maxRecDepth 100000 in
set_option maxHeartbeats 4000000 in
theorem c_M_endUnits (l : Launch) (G : ax_G) (M : ax_M) (x0 : Option Nat) (p0 : Int32) {q : ax_M} (hf : f_M_endUnits M x0 p0 = some q) : ax_C l G y_M_endUnits b_M_endUnits 10 none [] 1 0 0 [ax_O x0, ax_I p0] M none q := by
  refine ax_ofW (by decide +kernel) (lv0 := [(0, ax_O x0), (1, ax_I p0)]) (Nat.le_of_ble_eq_true rfl) rfl ?_
  intro Z ad B hin _ _ hn hR hE
  have hag : ∀ a, a ∉ ([] : List Nat) → ad a = ad a := fun _ _ => rfl
  unfold f_M_endUnits at hf
  refine ax_aload_n B d_M_endUnits_0 rfl (j := 0) rfl ?_
  refine ax_getR B d_M_endUnits_1 k_M_75 rfl hf (fun x1 hf => ?_)
  refine ax_iload_n B d_M_endUnits_4 rfl (j := 1) rfl ?_
  refine ax_iald B d_M_endUnits_5 (t := 0) (by decide) rfl hf (fun x2 hf => ?_)
  refine ax_istore_n B (lv' := [(2, ax_I x2), (0, ax_O x0), (1, ax_I p0)]) d_M_endUnits_6 rfl (by rw [hn]; decide) rfl ?_
  refine ax_aload_n B d_M_endUnits_7 rfl (j := 1) rfl ?_
  refine ax_iload_n B d_M_endUnits_8 rfl (j := 2) rfl ?_
  refine ax_iconst B (v := (-1)) (by decide) d_M_endUnits_9 ?_
  refine ax_cVV B hR (as := [ax_I p0, ax_I (-1)]) (V := fun q => ax_I q.1) (N := fun q => q.2) d_M_endUnits_10 l_M_234 m_M_greatest hf (fun q h => c_M_greatest _ _ _ _ _ _ h) rfl rfl (by decide) (by decide) (by decide) (by decide) (Nat.le_of_ble_eq_true rfl) (fun q3 hf => ?_)
  refine ax_istore_n B (lv' := [(3, ax_I q3.1), (2, ax_I x2), (0, ax_O x0), (1, ax_I p0)]) d_M_endUnits_13 rfl (by rw [hn]; decide) rfl ?_
  refine ax_sub [2, 3, 1, 0] rfl ?_
  exact L_M_endUnits_14 B hn hR hE hag 64 q3.2 x0 p0 x2 q3.1 hf
def G_M_end_270  (M : ax_M)  : Option (ax_M) := some M
set_option maxRecDepth 100000 in
set_option maxHeartbeats 4000000 in
theorem K_M_end_270 {Z : ax_Z} {ad0 ad : Nat → Nat} {q : ax_M} (B : ax_B Z "VoteAuctionsModel" b_M_end none) (hn : Z.2.2.2.2.2.2.2.2.2.2.2.1 = 5) (hR : ax_R Z 2 0 0) (hE : ax_E Z ad0 [] 0 0 none q) (hag : ∀ a, a ∉ ([] : List Nat) → ad a = ad0 a)   : ∀ (M : ax_M) , G_M_end_270  M  = some q → ax_W Z ad 0 0 270 [] [] M := by
  intro M  hf
  unfold G_M_end_270 at hf
  exact ax_vreturn B hE d_M_end_270 hf hag (by decide) (by decide)
def G_M_end_264 (rec185 : ax_M → Option Nat → Int32 → Int32 → Int32 → Option (ax_M)) (M : ax_M) (v0 : Option Nat) (v1 : Int32) (v2 : Int32) (v3 : Int32) : Option (ax_M) := (some (v3 + 1)).bind (fun y1 => rec185 M v0 v1 v2 y1)
set_option maxRecDepth 100000 in
set_option maxHeartbeats 4000000 in
theorem K_M_end_264 {Z : ax_Z} {ad0 ad : Nat → Nat} {q : ax_M} (B : ax_B Z "VoteAuctionsModel" b_M_end none) (hn : Z.2.2.2.2.2.2.2.2.2.2.2.1 = 5) (hR : ax_R Z 2 0 0) (hE : ax_E Z ad0 [] 0 0 none q) (hag : ∀ a, a ∉ ([] : List Nat) → ad a = ad0 a) {rec185 : ax_M → Option Nat → Int32 → Int32 → Int32 → Option (ax_M)} (hr185 : ∀ (M : ax_M) (v0 : Option Nat) (v1 : Int32) (v2 : Int32) (v3 : Int32), rec185 M v0 v1 v2 v3 = some q → ax_W Z ad 0 0 185 [(0, ax_O v0), (1, ax_I v1), (2, ax_I v2), (3, ax_I v3)] [] M) : ∀ (M : ax_M) (v0 : Option Nat) (v1 : Int32) (v2 : Int32) (v3 : Int32), G_M_end_264 rec185 M v0 v1 v2 v3 = some q → ax_W Z ad 0 0 264 [(0, ax_O v0), (1, ax_I v1), (2, ax_I v2), (3, ax_I v3)] [] M := by
  intro M v0 v1 v2 v3 hf
  unfold G_M_end_264 at hf
  refine ax_iincN B (j := 3) (lv' := fun y => [(3, ax_I y), (0, ax_O v0), (1, ax_I v1), (2, ax_I v2)]) d_M_end_264 rfl hf rfl (by rw [hn]; decide) (fun _ => rfl) (fun y1 hf => ?_)
  refine ax_goto B (tgt := 185) d_M_end_267 (by decide) ?_
  refine ax_sub [1, 2, 3, 0] rfl ?_
  exact hr185 M v0 v1 v2 y1 hf
def G_M_end_185 (rec185 : ax_M → Option Nat → Int32 → Int32 → Int32 → Option (ax_M)) (M : ax_M) (v0 : Option Nat) (v1 : Int32) (v2 : Int32) (v3 : Int32) : Option (ax_M) := (ax_gi M 3 3 v0).bind (fun x1 => if x1 ≤ v3 then G_M_end_270 M else (ax_gr M 3 27 v0).bind (fun x2 => (ax_ri M 0 x2 v1).bind (fun x3 => if x3 ≤ 0 then G_M_end_270 M else (some ((8 * v1) + v3)).bind (fun y4 => (ax_gr M 3 35 v0).bind (fun x5 => (ax_ri M 2 x5 y4).bind (fun x6 => if x6 = 0 then G_M_end_264 rec185 M v0 v1 v2 v3 else if v3 = v2 then G_M_end_264 rec185 M v0 v1 v2 v3 else (ax_gr M 3 40 v0).bind (fun x7 => (ax_ri M 2 x7 y4).bind (fun x8 => if x8 = 0 then (ax_gr M 3 29 v0).bind (fun x9 => (ax_ri M 0 x9 v1).bind (fun x10 => (ax_ob M 3 v0).bind (fun _ => (f_M_pay M v0 v3 (x10.toInt64)).bind (fun q11 => G_M_end_264 rec185 q11 v0 v1 v2 v3)))) else (ax_gr M 3 37 v0).bind (fun x12 => (ax_ri M 0 x12 y4).bind (fun x13 => (ax_ob M 3 v0).bind (fun _ => (f_M_setAside M v0 v3 ((-x13).toInt64)).bind (fun q14 => G_M_end_264 rec185 q14 v0 v1 v2 v3))))))))))))
set_option maxRecDepth 100000 in
set_option maxHeartbeats 4000000 in
theorem K_M_end_185 {Z : ax_Z} {ad0 ad : Nat → Nat} {q : ax_M} (B : ax_B Z "VoteAuctionsModel" b_M_end none) (hn : Z.2.2.2.2.2.2.2.2.2.2.2.1 = 5) (hR : ax_R Z 2 0 0) (hE : ax_E Z ad0 [] 0 0 none q) (hag : ∀ a, a ∉ ([] : List Nat) → ad a = ad0 a) {rec185 : ax_M → Option Nat → Int32 → Int32 → Int32 → Option (ax_M)} (hr185 : ∀ (M : ax_M) (v0 : Option Nat) (v1 : Int32) (v2 : Int32) (v3 : Int32), rec185 M v0 v1 v2 v3 = some q → ax_W Z ad 0 0 185 [(0, ax_O v0), (1, ax_I v1), (2, ax_I v2), (3, ax_I v3)] [] M) : ∀ (M : ax_M) (v0 : Option Nat) (v1 : Int32) (v2 : Int32) (v3 : Int32), G_M_end_185 rec185 M v0 v1 v2 v3 = some q → ax_W Z ad 0 0 185 [(0, ax_O v0), (1, ax_I v1), (2, ax_I v2), (3, ax_I v3)] [] M := by
  intro M v0 v1 v2 v3 hf
  unfold G_M_end_185 at hf
  refine ax_iload_n B d_M_end_185 rfl (j := 3) rfl ?_
  refine ax_aload_n B d_M_end_186 rfl (j := 0) rfl ?_
  refine ax_getI B d_M_end_187 k_M_136 rfl hf (fun x1 hf => ?_)
  refine ax_icmp_ge B (tgt := 270) d_M_end_190 (by decide) hf (fun hf => ?_) (fun hf => ?_)
  · refine ax_sub [] rfl ?_
    exact K_M_end_270 B hn hR hE hag M hf
  · refine ax_aload_n B d_M_end_193 rfl (j := 0) rfl ?_
    refine ax_getR B d_M_end_194 k_M_72 rfl hf (fun x2 hf => ?_)
    refine ax_iload_n B d_M_end_197 rfl (j := 1) rfl ?_
    refine ax_iald B d_M_end_198 (t := 0) (by decide) rfl hf (fun x3 hf => ?_)
    refine ax_if_le B (tgt := 270) d_M_end_199 (by decide) hf (fun hf => ?_) (fun hf => ?_)
    · refine ax_sub [] rfl ?_
      exact K_M_end_270 B hn hR hE hag M hf
    · refine ax_bipush B (v := 8) (by decide) d_M_end_202 ?_
      refine ax_iload_n B d_M_end_204 rfl (j := 1) rfl ?_
      refine ax_imul B d_M_end_205 ?_
      refine ax_iload_n B d_M_end_206 rfl (j := 3) rfl ?_
      refine ax_iadd B d_M_end_207 ?_
      refine ax_nmI hf (fun y4 hf => ?_)
      refine ax_istore B (lv' := [(4, ax_I y4), (0, ax_O v0), (1, ax_I v1), (2, ax_I v2), (3, ax_I v3)]) d_M_end_208 (by rw [hn]; decide) rfl ?_
      refine ax_aload_n B d_M_end_210 rfl (j := 1) rfl ?_
      refine ax_getR B d_M_end_211 k_M_96 rfl hf (fun x5 hf => ?_)
      refine ax_iload B (j := 0) d_M_end_214 rfl ?_
      refine ax_zald B d_M_end_216 (t := 2) (by decide) rfl hf (fun x6 hf => ?_)
      refine ax_if_eq B (tgt := 264) d_M_end_217 (by decide) hf (fun hf => ?_) (fun hf => ?_)
      · refine ax_sub [1, 2, 3, 4] rfl ?_
        exact K_M_end_264 B hn hR hE hag hr185 M v0 v1 v2 v3 hf
      · refine ax_iload_n B d_M_end_220 rfl (j := 4) rfl ?_
        refine ax_iload_n B d_M_end_221 rfl (j := 3) rfl ?_
        refine ax_icmp_eq B (tgt := 264) d_M_end_222 (by decide) hf (fun hf => ?_) (fun hf => ?_)
        · refine ax_sub [1, 2, 3, 4] rfl ?_
          exact K_M_end_264 B hn hR hE hag hr185 M v0 v1 v2 v3 hf
        · refine ax_aload_n B d_M_end_225 rfl (j := 1) rfl ?_
          refine ax_getR B d_M_end_226 k_M_111 rfl hf (fun x7 hf => ?_)
          refine ax_iload B (j := 0) d_M_end_229 rfl ?_
          refine ax_zald B d_M_end_231 (t := 2) (by decide) rfl hf (fun x8 hf => ?_)
          refine ax_if_eq B (tgt := 252) d_M_end_232 (by decide) hf (fun hf => ?_) (fun hf => ?_)
          · refine ax_aload_n B d_M_end_252 rfl (j := 1) rfl ?_
            refine ax_iload_n B d_M_end_253 rfl (j := 4) rfl ?_
            refine ax_aload_n B d_M_end_254 rfl (j := 1) rfl ?_
            refine ax_getR B d_M_end_255 k_M_78 rfl hf (fun x9 hf => ?_)
            refine ax_iload_n B d_M_end_258 rfl (j := 2) rfl ?_
            refine ax_iald B d_M_end_259 (t := 0) (by decide) rfl hf (fun x10 hf => ?_)
            refine ax_i2l B d_M_end_260 ?_
            refine ax_cVN B hR (as := [ax_I v3, ax_L (x10.toInt64)]) (N := fun q => q) d_M_end_261 l_M_254 m_M_pay hf (fun q h => c_M_pay _ _ _ _ _ _ h) rfl rfl (by decide) (by decide) (by decide) (by decide) (Nat.le_of_ble_eq_true rfl) (fun q11 hf => ?_)
            refine ax_sub [1, 2, 3, 4] rfl ?_
            exact K_M_end_264 B hn hR hE hag hr185 q11 v0 v1 v2 v3 hf
          · refine ax_aload_n B d_M_end_235 rfl (j := 1) rfl ?_
            refine ax_iload_n B d_M_end_236 rfl (j := 4) rfl ?_
            refine ax_aload_n B d_M_end_237 rfl (j := 1) rfl ?_
            refine ax_getR B d_M_end_238 k_M_102 rfl hf (fun x12 hf => ?_)
            refine ax_iload B (j := 0) d_M_end_241 rfl ?_
            refine ax_iald B d_M_end_243 (t := 0) (by decide) rfl hf (fun x13 hf => ?_)
            refine ax_ineg B d_M_end_244 ?_
            refine ax_i2l B d_M_end_245 ?_
            refine ax_cVN B hR (as := [ax_I v3, ax_L ((-x13).toInt64)]) (N := fun q => q) d_M_end_246 l_M_241 m_M_setAside hf (fun q h => c_M_setAside _ _ _ _ _ _ h) rfl rfl (by decide) (by decide) (by decide) (by decide) (Nat.le_of_ble_eq_true rfl) (fun q14 hf => ?_)
            refine ax_goto B (tgt := 264) d_M_end_249 (by decide) ?_
            refine ax_sub [1, 2, 3, 4] rfl ?_
            exact K_M_end_264 B hn hR hE hag hr185 q14 v0 v1 v2 v3 hf
def F_M_end_185  : Nat → ax_M → Option Nat → Int32 → Int32 → Int32 → Option (ax_M)
  | 0 => fun _ _ _ _ _ => none
  | n + 1 => G_M_end_185 (F_M_end_185  n)
set_option maxRecDepth 100000 in
set_option maxHeartbeats 4000000 in
theorem L_M_end_185 {Z : ax_Z} {ad0 ad : Nat → Nat} {q : ax_M} (B : ax_B Z "VoteAuctionsModel" b_M_end none) (hn : Z.2.2.2.2.2.2.2.2.2.2.2.1 = 5) (hR : ax_R Z 2 0 0) (hE : ax_E Z ad0 [] 0 0 none q) (hag : ∀ a, a ∉ ([] : List Nat) → ad a = ad0 a)   : ∀ (n : Nat) (M : ax_M) (v0 : Option Nat) (v1 : Int32) (v2 : Int32) (v3 : Int32), F_M_end_185  n M v0 v1 v2 v3 = some q → ax_W Z ad 0 0 185 [(0, ax_O v0), (1, ax_I v1), (2, ax_I v2), (3, ax_I v3)] [] M := by
  intro n
  induction n with
  | zero => intro M v0 v1 v2 v3 hf; cases hf
  | succ n ih => exact K_M_end_185 B hn hR hE hag ih
def G_M_end_183  (M : ax_M) (v0 : Option Nat) (v1 : Int32) (v2 : Int32) : Option (ax_M) := F_M_end_185 64 M v0 v1 v2 0
set_option maxRecDepth 100000 in
set_option maxHeartbeats 4000000 in
theorem K_M_end_183 {Z : ax_Z} {ad0 ad : Nat → Nat} {q : ax_M} (B : ax_B Z "VoteAuctionsModel" b_M_end none) (hn : Z.2.2.2.2.2.2.2.2.2.2.2.1 = 5) (hR : ax_R Z 2 0 0) (hE : ax_E Z ad0 [] 0 0 none q) (hag : ∀ a, a ∉ ([] : List Nat) → ad a = ad0 a)   : ∀ (M : ax_M) (v0 : Option Nat) (v1 : Int32) (v2 : Int32), G_M_end_183  M v0 v1 v2 = some q → ax_W Z ad 0 0 183 [(0, ax_O v0), (1, ax_I v1), (2, ax_I v2)] [] M := by
  intro M v0 v1 v2 hf
  unfold G_M_end_183 at hf
  refine ax_iconst B (v := 0) (by decide) d_M_end_183 ?_
  refine ax_istore_n B (lv' := [(3, ax_I 0), (0, ax_O v0), (1, ax_I v1), (2, ax_I v2)]) d_M_end_184 rfl (by rw [hn]; decide) rfl ?_
  refine ax_sub [1, 2, 3, 0] rfl ?_
  exact L_M_end_185 B hn hR hE hag 64 M v0 v1 v2 0 hf
def G_M_end_135  (M : ax_M) (v0 : Option Nat) (v1 : Int32) (v2 : Int32) (s0 : Int64) (s1 : Int32) (s2 : Option Nat) : Option (ax_M) := (ax_tl M 1 s2 s1 s0).bind (fun M1 => (ax_gr M1 3 41 v0).bind (fun x2 => (ax_ti M1 0 x2 ((8 * v1) + v2) 1).bind (fun M3 => (ax_gr M3 3 33 v0).bind (fun x4 => (ax_rl M3 1 x4 v1).bind (fun x5 => (ax_ob M3 3 v0).bind (fun _ => (f_M_pay M3 v0 v2 x5).bind (fun q6 => (ax_gr q6 3 33 v0).bind (fun x7 => (ax_rl q6 1 x7 v1).bind (fun x8 => (ax_gr q6 3 37 v0).bind (fun x9 => (ax_ri q6 0 x9 ((8 * v1) + v2)).bind (fun x10 => (ax_ob q6 3 v0).bind (fun _ => (f_M_setAside q6 v0 v2 (x8 - (x10.toInt64))).bind (fun q11 => G_M_end_183 q11 v0 v1 v2)))))))))))))
set_option maxRecDepth 100000 in
set_option maxHeartbeats 4000000 in
theorem K_M_end_135 {Z : ax_Z} {ad0 ad : Nat → Nat} {q : ax_M} (B : ax_B Z "VoteAuctionsModel" b_M_end none) (hn : Z.2.2.2.2.2.2.2.2.2.2.2.1 = 5) (hR : ax_R Z 2 0 0) (hE : ax_E Z ad0 [] 0 0 none q) (hag : ∀ a, a ∉ ([] : List Nat) → ad a = ad0 a)   : ∀ (M : ax_M) (v0 : Option Nat) (v1 : Int32) (v2 : Int32) (s0 : Int64) (s1 : Int32) (s2 : Option Nat), G_M_end_135  M v0 v1 v2 s0 s1 s2 = some q → ax_W Z ad 0 0 135 [(0, ax_O v0), (1, ax_I v1), (2, ax_I v2)] [ax_L s0, ax_I s1, ax_O s2] M := by
  intro M v0 v1 v2 s0 s1 s2 hf
  unfold G_M_end_135 at hf
  refine ax_last B d_M_end_135 (t := 1) (by decide) rfl hf (fun M1 hf => ?_)
  refine ax_aload_n B d_M_end_136 rfl (j := 0) rfl ?_
  refine ax_getR B d_M_end_137 k_M_114 rfl hf (fun x2 hf => ?_)
  refine ax_bipush B (v := 8) (by decide) d_M_end_140 ?_
  refine ax_iload_n B d_M_end_142 rfl (j := 1) rfl ?_
  refine ax_imul B d_M_end_143 ?_
  refine ax_iload_n B d_M_end_144 rfl (j := 2) rfl ?_
  refine ax_iadd B d_M_end_145 ?_
  refine ax_iconst B (v := 1) (by decide) d_M_end_146 ?_
  refine ax_iast B d_M_end_147 (t := 0) (by decide) rfl hf (fun M3 hf => ?_)
  refine ax_aload_n B d_M_end_148 rfl (j := 0) rfl ?_
  refine ax_iload_n B d_M_end_149 rfl (j := 2) rfl ?_
  refine ax_aload_n B d_M_end_150 rfl (j := 0) rfl ?_
  refine ax_getR B d_M_end_151 k_M_90 rfl hf (fun x4 hf => ?_)
  refine ax_iload_n B d_M_end_154 rfl (j := 1) rfl ?_
  refine ax_lald B d_M_end_155 (t := 1) (by decide) rfl hf (fun x5 hf => ?_)
  refine ax_cVN B hR (as := [ax_I v2, ax_L x5]) (N := fun q => q) d_M_end_156 l_M_254 m_M_pay hf (fun q h => c_M_pay _ _ _ _ _ _ h) rfl rfl (by decide) (by decide) (by decide) (by decide) (Nat.le_of_ble_eq_true rfl) (fun q6 hf => ?_)
  refine ax_aload_n B d_M_end_159 rfl (j := 0) rfl ?_
  refine ax_iload_n B d_M_end_160 rfl (j := 2) rfl ?_
  refine ax_aload_n B d_M_end_161 rfl (j := 0) rfl ?_
  refine ax_getR B d_M_end_162 k_M_90 rfl hf (fun x7 hf => ?_)
  refine ax_iload_n B d_M_end_165 rfl (j := 1) rfl ?_
  refine ax_lald B d_M_end_166 (t := 1) (by decide) rfl hf (fun x8 hf => ?_)
  refine ax_aload_n B d_M_end_167 rfl (j := 0) rfl ?_
  refine ax_getR B d_M_end_168 k_M_102 rfl hf (fun x9 hf => ?_)
  refine ax_bipush B (v := 8) (by decide) d_M_end_171 ?_
  refine ax_iload_n B d_M_end_173 rfl (j := 1) rfl ?_
  refine ax_imul B d_M_end_174 ?_
  refine ax_iload_n B d_M_end_175 rfl (j := 2) rfl ?_
  refine ax_iadd B d_M_end_176 ?_
  refine ax_iald B d_M_end_177 (t := 0) (by decide) rfl hf (fun x10 hf => ?_)
  refine ax_i2l B d_M_end_178 ?_
  refine ax_lsub B d_M_end_179 ?_
  refine ax_cVN B hR (as := [ax_I v2, ax_L (x8 - (x10.toInt64))]) (N := fun q => q) d_M_end_180 l_M_241 m_M_setAside hf (fun q h => c_M_setAside _ _ _ _ _ _ h) rfl rfl (by decide) (by decide) (by decide) (by decide) (Nat.le_of_ble_eq_true rfl) (fun q11 hf => ?_)
  exact K_M_end_183 B hn hR hE hag q11 v0 v1 v2 hf
def G_M_end_132  (M : ax_M) (v0 : Option Nat) (v1 : Int32) (v2 : Int32) (v4 : Int32) (s0 : Int32) (s1 : Option Nat) : Option (ax_M) := G_M_end_135 M v0 v1 v2 (v4.toInt64) s0 s1
set_option maxRecDepth 100000 in
set_option maxHeartbeats 4000000 in
theorem K_M_end_132 {Z : ax_Z} {ad0 ad : Nat → Nat} {q : ax_M} (B : ax_B Z "VoteAuctionsModel" b_M_end none) (hn : Z.2.2.2.2.2.2.2.2.2.2.2.1 = 5) (hR : ax_R Z 2 0 0) (hE : ax_E Z ad0 [] 0 0 none q) (hag : ∀ a, a ∉ ([] : List Nat) → ad a = ad0 a)   : ∀ (M : ax_M) (v0 : Option Nat) (v1 : Int32) (v2 : Int32) (v4 : Int32) (s0 : Int32) (s1 : Option Nat), G_M_end_132  M v0 v1 v2 v4 s0 s1 = some q → ax_W Z ad 0 0 132 [(0, ax_O v0), (1, ax_I v1), (2, ax_I v2), (4, ax_I v4)] [ax_I s0, ax_O s1] M := by
  intro M v0 v1 v2 v4 s0 s1 hf
  unfold G_M_end_132 at hf
  refine ax_iload B (j := 3) d_M_end_132 rfl ?_
  refine ax_i2l B d_M_end_134 ?_
  refine ax_sub [0, 1, 2] rfl ?_
  exact K_M_end_135 B hn hR hE hag M v0 v1 v2 (v4.toInt64) s0 s1 hf
def G_M_end_58  (M : ax_M) (v0 : Option Nat) (v1 : Int32) (v2 : Int32) (s0 : Int32) : Option (ax_M) := (ax_gr M 3 29 v0).bind (fun x1 => (ax_ri M 0 x1 v1).bind (fun x2 => (ax_gr M 3 33 v0).bind (fun x3 => (ax_gr M 3 27 v0).bind (fun x4 => (ax_ri M 0 x4 v1).bind (fun x5 => if 2 ≤ x5 then if s0 < 0 then G_M_end_132 M v0 v1 v2 x2 v1 x3 else (ax_gr M 3 37 v0).bind (fun x6 => (ax_ri M 0 x6 ((8 * v1) + s0)).bind (fun x7 => if x7 ≤ x2 then G_M_end_132 M v0 v1 v2 x2 v1 x3 else (ax_gr M 3 37 v0).bind (fun x8 => (ax_ri M 0 x8 ((8 * v1) + s0)).bind (fun x9 => G_M_end_135 M v0 v1 v2 (x9.toInt64) v1 x3)))) else (ax_gr M 3 37 v0).bind (fun x10 => (ax_ri M 0 x10 ((8 * v1) + v2)).bind (fun x11 => G_M_end_135 M v0 v1 v2 (x11.toInt64) v1 x3)))))))
set_option maxRecDepth 100000 in
set_option maxHeartbeats 4000000 in
theorem K_M_end_58 {Z : ax_Z} {ad0 ad : Nat → Nat} {q : ax_M} (B : ax_B Z "VoteAuctionsModel" b_M_end none) (hn : Z.2.2.2.2.2.2.2.2.2.2.2.1 = 5) (hR : ax_R Z 2 0 0) (hE : ax_E Z ad0 [] 0 0 none q) (hag : ∀ a, a ∉ ([] : List Nat) → ad a = ad0 a)   : ∀ (M : ax_M) (v0 : Option Nat) (v1 : Int32) (v2 : Int32) (s0 : Int32), G_M_end_58  M v0 v1 v2 s0 = some q → ax_W Z ad 0 0 58 [(0, ax_O v0), (1, ax_I v1), (2, ax_I v2)] [ax_I s0] M := by
  intro M v0 v1 v2 s0 hf
  unfold G_M_end_58 at hf
  refine ax_istore_n B (lv' := [(3, ax_I s0), (0, ax_O v0), (1, ax_I v1), (2, ax_I v2)]) d_M_end_58 rfl (by rw [hn]; decide) rfl ?_
  refine ax_aload_n B d_M_end_59 rfl (j := 1) rfl ?_
  refine ax_getR B d_M_end_60 k_M_78 rfl hf (fun x1 hf => ?_)
  refine ax_iload_n B d_M_end_63 rfl (j := 2) rfl ?_
  refine ax_iald B d_M_end_64 (t := 0) (by decide) rfl hf (fun x2 hf => ?_)
  refine ax_istore B (lv' := [(4, ax_I x2), (3, ax_I s0), (0, ax_O v0), (1, ax_I v1), (2, ax_I v2)]) d_M_end_65 (by rw [hn]; decide) rfl ?_
  refine ax_aload_n B d_M_end_67 rfl (j := 2) rfl ?_
  refine ax_getR B d_M_end_68 k_M_90 rfl hf (fun x3 hf => ?_)
  refine ax_iload_n B d_M_end_71 rfl (j := 3) rfl ?_
  refine ax_aload_n B d_M_end_72 rfl (j := 2) rfl ?_
  refine ax_getR B d_M_end_73 k_M_72 rfl hf (fun x4 hf => ?_)
  refine ax_iload_n B d_M_end_76 rfl (j := 3) rfl ?_
  refine ax_iald B d_M_end_77 (t := 0) (by decide) rfl hf (fun x5 hf => ?_)
  refine ax_iconst B (v := 2) (by decide) d_M_end_78 ?_
  refine ax_icmp_ge B (tgt := 97) d_M_end_79 (by decide) hf (fun hf => ?_) (fun hf => ?_)
  · refine ax_iload_n B d_M_end_97 rfl (j := 1) rfl ?_
    refine ax_if_lt B (tgt := 132) d_M_end_98 (by decide) hf (fun hf => ?_) (fun hf => ?_)
    · refine ax_sub [2, 3, 4, 0] rfl ?_
      exact K_M_end_132 B hn hR hE hag M v0 v1 v2 x2 v1 x3 hf
    · refine ax_aload_n B d_M_end_101 rfl (j := 2) rfl ?_
      refine ax_getR B d_M_end_102 k_M_102 rfl hf (fun x6 hf => ?_)
      refine ax_bipush B (v := 8) (by decide) d_M_end_105 ?_
      refine ax_iload_n B d_M_end_107 rfl (j := 3) rfl ?_
      refine ax_imul B d_M_end_108 ?_
      refine ax_iload_n B d_M_end_109 rfl (j := 1) rfl ?_
      refine ax_iadd B d_M_end_110 ?_
      refine ax_iald B d_M_end_111 (t := 0) (by decide) rfl hf (fun x7 hf => ?_)
      refine ax_iload B (j := 0) d_M_end_112 rfl ?_
      refine ax_icmp_le B (tgt := 132) d_M_end_114 (by decide) hf (fun hf => ?_) (fun hf => ?_)
      · refine ax_sub [2, 3, 4, 0] rfl ?_
        exact K_M_end_132 B hn hR hE hag M v0 v1 v2 x2 v1 x3 hf
      · refine ax_aload_n B d_M_end_117 rfl (j := 2) rfl ?_
        refine ax_getR B d_M_end_118 k_M_102 rfl hf (fun x8 hf => ?_)
        refine ax_bipush B (v := 8) (by decide) d_M_end_121 ?_
        refine ax_iload_n B d_M_end_123 rfl (j := 3) rfl ?_
        refine ax_imul B d_M_end_124 ?_
        refine ax_iload_n B d_M_end_125 rfl (j := 1) rfl ?_
        refine ax_iadd B d_M_end_126 ?_
        refine ax_iald B d_M_end_127 (t := 0) (by decide) rfl hf (fun x9 hf => ?_)
        refine ax_i2l B d_M_end_128 ?_
        refine ax_goto B (tgt := 135) d_M_end_129 (by decide) ?_
        refine ax_sub [2, 3, 4] rfl ?_
        exact K_M_end_135 B hn hR hE hag M v0 v1 v2 (x9.toInt64) v1 x3 hf
  · refine ax_aload_n B d_M_end_82 rfl (j := 2) rfl ?_
    refine ax_getR B d_M_end_83 k_M_102 rfl hf (fun x10 hf => ?_)
    refine ax_bipush B (v := 8) (by decide) d_M_end_86 ?_
    refine ax_iload_n B d_M_end_88 rfl (j := 3) rfl ?_
    refine ax_imul B d_M_end_89 ?_
    refine ax_iload_n B d_M_end_90 rfl (j := 4) rfl ?_
    refine ax_iadd B d_M_end_91 ?_
    refine ax_iald B d_M_end_92 (t := 0) (by decide) rfl hf (fun x11 hf => ?_)
    refine ax_i2l B d_M_end_93 ?_
    refine ax_goto B (tgt := 135) d_M_end_94 (by decide) ?_
    refine ax_sub [2, 3, 4] rfl ?_
    exact K_M_end_135 B hn hR hE hag M v0 v1 v2 (x11.toInt64) v1 x3 hf
def f_M_end (M : ax_M) (x0 : Option Nat) (p0 : Int32) : Option (ax_M) := (ax_gr M 3 27 x0).bind (fun x1 => (ax_ri M 0 x1 p0).bind (fun x2 => if x2 = 3 then some M else (ax_gr M 3 27 x0).bind (fun x3 => (ax_ri M 0 x3 p0).bind (fun x4 => if x4 = 4 then (ax_ob M 3 x0).bind (fun _ => (f_M_endUnits M x0 p0).bind (fun q5 => some q5)) else (ax_ob M 3 x0).bind (fun _ => (f_M_greatest M x0 p0 (-1)).bind (fun q6 => if q6.1 < 0 then G_M_end_183 q6.2 x0 p0 q6.1 else (ax_gr q6.2 3 27 x0).bind (fun x7 => (ax_ri q6.2 0 x7 p0).bind (fun x8 => if x8 = 2 then (ax_ob q6.2 3 x0).bind (fun _ => (f_M_greatest q6.2 x0 p0 q6.1).bind (fun q9 => G_M_end_58 q9.2 x0 p0 q6.1 q9.1)) else G_M_end_58 q6.2 x0 p0 q6.1 (-1)))))))))
set_option maxRecDepth 100000 in
set_option maxHeartbeats 4000000 in
theorem c_M_end (l : Launch) (G : ax_G) (M : ax_M) (x0 : Option Nat) (p0 : Int32) {q : ax_M} (hf : f_M_end M x0 p0 = some q) : ax_C l G y_M_end b_M_end 5 none [] 2 0 0 [ax_O x0, ax_I p0] M none q := by
  refine ax_ofW (by decide +kernel) (lv0 := [(0, ax_O x0), (1, ax_I p0)]) (Nat.le_of_ble_eq_true rfl) rfl ?_
  intro Z ad B hin _ _ hn hR hE
  have hag : ∀ a, a ∉ ([] : List Nat) → ad a = ad a := fun _ _ => rfl
  unfold f_M_end at hf
  refine ax_aload_n B d_M_end_0 rfl (j := 0) rfl ?_
  refine ax_getR B d_M_end_1 k_M_72 rfl hf (fun x1 hf => ?_)
  refine ax_iload_n B d_M_end_4 rfl (j := 1) rfl ?_
  refine ax_iald B d_M_end_5 (t := 0) (by decide) rfl hf (fun x2 hf => ?_)
  refine ax_iconst B (v := 3) (by decide) d_M_end_6 ?_
  refine ax_icmp_ne B (tgt := 11) d_M_end_7 (by decide) hf (fun hf => ?_) (fun hf => ?_)
  · exact ax_vreturn B hE d_M_end_10 hf hag (by decide) (by decide)
  · refine ax_aload_n B d_M_end_11 rfl (j := 0) rfl ?_
    refine ax_getR B d_M_end_12 k_M_72 rfl hf (fun x3 hf => ?_)
    refine ax_iload_n B d_M_end_15 rfl (j := 1) rfl ?_
    refine ax_iald B d_M_end_16 (t := 0) (by decide) rfl hf (fun x4 hf => ?_)
    refine ax_iconst B (v := 4) (by decide) d_M_end_17 ?_
    refine ax_icmp_ne B (tgt := 27) d_M_end_18 (by decide) hf (fun hf => ?_) (fun hf => ?_)
    · refine ax_aload_n B d_M_end_21 rfl (j := 0) rfl ?_
      refine ax_iload_n B d_M_end_22 rfl (j := 1) rfl ?_
      refine ax_cVN B hR (as := [ax_I p0]) (N := fun q => q) d_M_end_23 l_M_251 m_M_endUnits hf (fun q h => c_M_endUnits _ _ _ _ _ h) rfl rfl (by decide) (by decide) (by decide) (by decide) (Nat.le_of_ble_eq_true rfl) (fun q5 hf => ?_)
      exact ax_vreturn B hE d_M_end_26 hf hag (by decide) (by decide)
    · refine ax_aload_n B d_M_end_27 rfl (j := 0) rfl ?_
      refine ax_iload_n B d_M_end_28 rfl (j := 1) rfl ?_
      refine ax_iconst B (v := (-1)) (by decide) d_M_end_29 ?_
      refine ax_cVV B hR (as := [ax_I p0, ax_I (-1)]) (V := fun q => ax_I q.1) (N := fun q => q.2) d_M_end_30 l_M_234 m_M_greatest hf (fun q h => c_M_greatest _ _ _ _ _ _ h) rfl rfl (by decide) (by decide) (by decide) (by decide) (Nat.le_of_ble_eq_true rfl) (fun q6 hf => ?_)
      refine ax_istore_n B (lv' := [(2, ax_I q6.1), (0, ax_O x0), (1, ax_I p0)]) d_M_end_33 rfl (by rw [hn]; decide) rfl ?_
      refine ax_iload_n B d_M_end_34 rfl (j := 0) rfl ?_
      refine ax_if_lt B (tgt := 183) d_M_end_35 (by decide) hf (fun hf => ?_) (fun hf => ?_)
      · refine ax_sub [1, 2, 0] rfl ?_
        exact K_M_end_183 B hn hR hE hag q6.2 x0 p0 q6.1 hf
      · refine ax_aload_n B d_M_end_38 rfl (j := 1) rfl ?_
        refine ax_getR B d_M_end_39 k_M_72 rfl hf (fun x7 hf => ?_)
        refine ax_iload_n B d_M_end_42 rfl (j := 2) rfl ?_
        refine ax_iald B d_M_end_43 (t := 0) (by decide) rfl hf (fun x8 hf => ?_)
        refine ax_iconst B (v := 2) (by decide) d_M_end_44 ?_
        refine ax_icmp_ne B (tgt := 57) d_M_end_45 (by decide) hf (fun hf => ?_) (fun hf => ?_)
        · refine ax_aload_n B d_M_end_48 rfl (j := 1) rfl ?_
          refine ax_iload_n B d_M_end_49 rfl (j := 2) rfl ?_
          refine ax_iload_n B d_M_end_50 rfl (j := 0) rfl ?_
          refine ax_cVV B hR (as := [ax_I p0, ax_I q6.1]) (V := fun q => ax_I q.1) (N := fun q => q.2) d_M_end_51 l_M_234 m_M_greatest hf (fun q h => c_M_greatest _ _ _ _ _ _ h) rfl rfl (by decide) (by decide) (by decide) (by decide) (Nat.le_of_ble_eq_true rfl) (fun q9 hf => ?_)
          refine ax_goto B (tgt := 58) d_M_end_54 (by decide) ?_
          refine ax_sub [1, 2, 0] rfl ?_
          exact K_M_end_58 B hn hR hE hag q9.2 x0 p0 q6.1 q9.1 hf
        · refine ax_iconst B (v := (-1)) (by decide) d_M_end_57 ?_
          refine ax_sub [1, 2, 0] rfl ?_
          exact K_M_end_58 B hn hR hE hag q6.2 x0 p0 q6.1 (-1) hf
def G_M_tick_124 (rec15 : ax_M → Option Nat → Int32 → Int32 → Option (Int32 × ax_M)) (rec98 : ax_M → Option Nat → Int32 → Int32 → Int32 → Option (Int32 × ax_M)) (M : ax_M) (v0 : Option Nat) (v1 : Int32) (v2 : Int32) (v3 : Int32) : Option (Int32 × ax_M) := (some (v3 + 1)).bind (fun y1 => rec98 M v0 v1 v2 y1)
set_option maxRecDepth 100000 in
set_option maxHeartbeats 4000000 in
theorem K_M_tick_124 {Z : ax_Z} {ad0 ad : Nat → Nat} {q : Int32 × ax_M} (B : ax_B Z "VoteAuctionsModel" b_M_tick (some .int)) (hn : Z.2.2.2.2.2.2.2.2.2.2.2.1 = 5) (hR : ax_R Z 3 0 0) (hE : ax_E Z ad0 [] 0 0 (some (ax_I q.1)) q.2) (hag : ∀ a, a ∉ ([] : List Nat) → ad a = ad0 a) {rec15 : ax_M → Option Nat → Int32 → Int32 → Option (Int32 × ax_M)} {rec98 : ax_M → Option Nat → Int32 → Int32 → Int32 → Option (Int32 × ax_M)} (hr15 : ∀ (M : ax_M) (v0 : Option Nat) (v1 : Int32) (v2 : Int32), rec15 M v0 v1 v2 = some q → ax_W Z ad 0 0 15 [(0, ax_O v0), (1, ax_I v1), (2, ax_I v2)] [] M) (hr98 : ∀ (M : ax_M) (v0 : Option Nat) (v1 : Int32) (v2 : Int32) (v3 : Int32), rec98 M v0 v1 v2 v3 = some q → ax_W Z ad 0 0 98 [(0, ax_O v0), (1, ax_I v1), (2, ax_I v2), (3, ax_I v3)] [] M) : ∀ (M : ax_M) (v0 : Option Nat) (v1 : Int32) (v2 : Int32) (v3 : Int32), G_M_tick_124 rec15 rec98 M v0 v1 v2 v3 = some q → ax_W Z ad 0 0 124 [(0, ax_O v0), (1, ax_I v1), (2, ax_I v2), (3, ax_I v3)] [] M := by
  intro M v0 v1 v2 v3 hf
  unfold G_M_tick_124 at hf
  refine ax_iincN B (j := 3) (lv' := fun y => [(3, ax_I y), (0, ax_O v0), (1, ax_I v1), (2, ax_I v2)]) d_M_tick_124 rfl hf rfl (by rw [hn]; decide) (fun _ => rfl) (fun y1 hf => ?_)
  refine ax_goto B (tgt := 98) d_M_tick_127 (by decide) ?_
  refine ax_sub [1, 2, 3, 0] rfl ?_
  exact hr98 M v0 v1 v2 y1 hf
def G_M_tick_98 (rec15 : ax_M → Option Nat → Int32 → Int32 → Option (Int32 × ax_M)) (rec98 : ax_M → Option Nat → Int32 → Int32 → Int32 → Option (Int32 × ax_M)) (M : ax_M) (v0 : Option Nat) (v1 : Int32) (v2 : Int32) (v3 : Int32) : Option (Int32 × ax_M) := (ax_gi M 3 25 v0).bind (fun x1 => if x1 ≤ v3 then (some (v2 + 1)).bind (fun y2 => rec15 M v0 v1 y2) else (ax_gr M 3 32 v0).bind (fun x3 => (ax_ri M 0 x3 v3).bind (fun x4 => (ax_gi M 3 1 v0).bind (fun x5 => if x4 = x5 then (ax_ob M 3 v0).bind (fun _ => (f_M_end M v0 v3).bind (fun q6 => G_M_tick_124 rec15 rec98 q6 v0 v1 v2 v3)) else G_M_tick_124 rec15 rec98 M v0 v1 v2 v3))))
set_option maxRecDepth 100000 in
set_option maxHeartbeats 4000000 in
theorem K_M_tick_98 {Z : ax_Z} {ad0 ad : Nat → Nat} {q : Int32 × ax_M} (B : ax_B Z "VoteAuctionsModel" b_M_tick (some .int)) (hn : Z.2.2.2.2.2.2.2.2.2.2.2.1 = 5) (hR : ax_R Z 3 0 0) (hE : ax_E Z ad0 [] 0 0 (some (ax_I q.1)) q.2) (hag : ∀ a, a ∉ ([] : List Nat) → ad a = ad0 a) {rec15 : ax_M → Option Nat → Int32 → Int32 → Option (Int32 × ax_M)} {rec98 : ax_M → Option Nat → Int32 → Int32 → Int32 → Option (Int32 × ax_M)} (hr15 : ∀ (M : ax_M) (v0 : Option Nat) (v1 : Int32) (v2 : Int32), rec15 M v0 v1 v2 = some q → ax_W Z ad 0 0 15 [(0, ax_O v0), (1, ax_I v1), (2, ax_I v2)] [] M) (hr98 : ∀ (M : ax_M) (v0 : Option Nat) (v1 : Int32) (v2 : Int32) (v3 : Int32), rec98 M v0 v1 v2 v3 = some q → ax_W Z ad 0 0 98 [(0, ax_O v0), (1, ax_I v1), (2, ax_I v2), (3, ax_I v3)] [] M) : ∀ (M : ax_M) (v0 : Option Nat) (v1 : Int32) (v2 : Int32) (v3 : Int32), G_M_tick_98 rec15 rec98 M v0 v1 v2 v3 = some q → ax_W Z ad 0 0 98 [(0, ax_O v0), (1, ax_I v1), (2, ax_I v2), (3, ax_I v3)] [] M := by
  intro M v0 v1 v2 v3 hf
  unfold G_M_tick_98 at hf
  refine ax_iload_n B d_M_tick_98 rfl (j := 3) rfl ?_
  refine ax_aload_n B d_M_tick_99 rfl (j := 0) rfl ?_
  refine ax_getI B d_M_tick_100 k_M_162 rfl hf (fun x1 hf => ?_)
  refine ax_icmp_ge B (tgt := 130) d_M_tick_103 (by decide) hf (fun hf => ?_) (fun hf => ?_)
  · refine ax_iincN B (j := 2) (lv' := fun y => [(2, ax_I y), (0, ax_O v0), (1, ax_I v1), (3, ax_I v3)]) d_M_tick_130 rfl hf rfl (by rw [hn]; decide) (fun _ => rfl) (fun y2 hf => ?_)
    refine ax_goto B (tgt := 15) d_M_tick_133 (by decide) ?_
    refine ax_sub [1, 2, 0] rfl ?_
    exact hr15 M v0 v1 y2 hf
  · refine ax_aload_n B d_M_tick_106 rfl (j := 0) rfl ?_
    refine ax_getR B d_M_tick_107 k_M_87 rfl hf (fun x3 hf => ?_)
    refine ax_iload_n B d_M_tick_110 rfl (j := 3) rfl ?_
    refine ax_iald B d_M_tick_111 (t := 0) (by decide) rfl hf (fun x4 hf => ?_)
    refine ax_aload_n B d_M_tick_112 rfl (j := 0) rfl ?_
    refine ax_getI B d_M_tick_113 k_M_156 rfl hf (fun x5 hf => ?_)
    refine ax_icmp_ne B (tgt := 124) d_M_tick_116 (by decide) hf (fun hf => ?_) (fun hf => ?_)
    · refine ax_aload_n B d_M_tick_119 rfl (j := 0) rfl ?_
      refine ax_iload_n B d_M_tick_120 rfl (j := 3) rfl ?_
      refine ax_cVN B hR (as := [ax_I v3]) (N := fun q => q) d_M_tick_121 l_M_165 m_M_end hf (fun q h => c_M_end _ _ _ _ _ h) rfl rfl (by decide) (by decide) (by decide) (by decide) (Nat.le_of_ble_eq_true rfl) (fun q6 hf => ?_)
      exact K_M_tick_124 B hn hR hE hag hr15 hr98 q6 v0 v1 v2 v3 hf
    · exact K_M_tick_124 B hn hR hE hag hr15 hr98 M v0 v1 v2 v3 hf
def F_M_tick_98 (rec15 : ax_M → Option Nat → Int32 → Int32 → Option (Int32 × ax_M)) : Nat → ax_M → Option Nat → Int32 → Int32 → Int32 → Option (Int32 × ax_M)
  | 0 => fun _ _ _ _ _ => none
  | n + 1 => G_M_tick_98 rec15 (F_M_tick_98 rec15 n)
set_option maxRecDepth 100000 in
set_option maxHeartbeats 4000000 in
theorem L_M_tick_98 {Z : ax_Z} {ad0 ad : Nat → Nat} {q : Int32 × ax_M} (B : ax_B Z "VoteAuctionsModel" b_M_tick (some .int)) (hn : Z.2.2.2.2.2.2.2.2.2.2.2.1 = 5) (hR : ax_R Z 3 0 0) (hE : ax_E Z ad0 [] 0 0 (some (ax_I q.1)) q.2) (hag : ∀ a, a ∉ ([] : List Nat) → ad a = ad0 a) {rec15 : ax_M → Option Nat → Int32 → Int32 → Option (Int32 × ax_M)} (hr15 : ∀ (M : ax_M) (v0 : Option Nat) (v1 : Int32) (v2 : Int32), rec15 M v0 v1 v2 = some q → ax_W Z ad 0 0 15 [(0, ax_O v0), (1, ax_I v1), (2, ax_I v2)] [] M) : ∀ (n : Nat) (M : ax_M) (v0 : Option Nat) (v1 : Int32) (v2 : Int32) (v3 : Int32), F_M_tick_98 rec15 n M v0 v1 v2 v3 = some q → ax_W Z ad 0 0 98 [(0, ax_O v0), (1, ax_I v1), (2, ax_I v2), (3, ax_I v3)] [] M := by
  intro n
  induction n with
  | zero => intro M v0 v1 v2 v3 hf; cases hf
  | succ n ih => exact K_M_tick_98 B hn hR hE hag hr15 ih
def G_M_tick_90 (rec15 : ax_M → Option Nat → Int32 → Int32 → Option (Int32 × ax_M)) (rec32 : ax_M → Option Nat → Int32 → Int32 → Int32 → Option (Int32 × ax_M)) (M : ax_M) (v0 : Option Nat) (v1 : Int32) (v2 : Int32) (v3 : Int32) : Option (Int32 × ax_M) := (some (v3 + 1)).bind (fun y1 => rec32 M v0 v1 v2 y1)
set_option maxRecDepth 100000 in
set_option maxHeartbeats 4000000 in
theorem K_M_tick_90 {Z : ax_Z} {ad0 ad : Nat → Nat} {q : Int32 × ax_M} (B : ax_B Z "VoteAuctionsModel" b_M_tick (some .int)) (hn : Z.2.2.2.2.2.2.2.2.2.2.2.1 = 5) (hR : ax_R Z 3 0 0) (hE : ax_E Z ad0 [] 0 0 (some (ax_I q.1)) q.2) (hag : ∀ a, a ∉ ([] : List Nat) → ad a = ad0 a) {rec15 : ax_M → Option Nat → Int32 → Int32 → Option (Int32 × ax_M)} {rec32 : ax_M → Option Nat → Int32 → Int32 → Int32 → Option (Int32 × ax_M)} (hr15 : ∀ (M : ax_M) (v0 : Option Nat) (v1 : Int32) (v2 : Int32), rec15 M v0 v1 v2 = some q → ax_W Z ad 0 0 15 [(0, ax_O v0), (1, ax_I v1), (2, ax_I v2)] [] M) (hr32 : ∀ (M : ax_M) (v0 : Option Nat) (v1 : Int32) (v2 : Int32) (v3 : Int32), rec32 M v0 v1 v2 v3 = some q → ax_W Z ad 0 0 32 [(0, ax_O v0), (1, ax_I v1), (2, ax_I v2), (3, ax_I v3)] [] M) : ∀ (M : ax_M) (v0 : Option Nat) (v1 : Int32) (v2 : Int32) (v3 : Int32), G_M_tick_90 rec15 rec32 M v0 v1 v2 v3 = some q → ax_W Z ad 0 0 90 [(0, ax_O v0), (1, ax_I v1), (2, ax_I v2), (3, ax_I v3)] [] M := by
  intro M v0 v1 v2 v3 hf
  unfold G_M_tick_90 at hf
  refine ax_iincN B (j := 3) (lv' := fun y => [(3, ax_I y), (0, ax_O v0), (1, ax_I v1), (2, ax_I v2)]) d_M_tick_90 rfl hf rfl (by rw [hn]; decide) (fun _ => rfl) (fun y1 hf => ?_)
  refine ax_goto B (tgt := 32) d_M_tick_93 (by decide) ?_
  refine ax_sub [1, 2, 3, 0] rfl ?_
  exact hr32 M v0 v1 v2 y1 hf
def G_M_tick_43 (rec15 : ax_M → Option Nat → Int32 → Int32 → Option (Int32 × ax_M)) (rec32 : ax_M → Option Nat → Int32 → Int32 → Int32 → Option (Int32 × ax_M)) (rec43 : ax_M → Option Nat → Int32 → Int32 → Int32 → Int32 → Option (Int32 × ax_M)) (M : ax_M) (v0 : Option Nat) (v1 : Int32) (v2 : Int32) (v3 : Int32) (v4 : Int32) : Option (Int32 × ax_M) := (ax_gi M 3 3 v0).bind (fun x1 => if x1 ≤ v4 then G_M_tick_90 rec15 rec32 M v0 v1 v2 v3 else (ax_gr M 3 12 v0).bind (fun x2 => (ax_ri M 0 x2 v3).bind (fun x3 => (ax_gi M 3 1 v0).bind (fun x4 => if x3 = x4 then (ax_gr M 3 24 v0).bind (fun x5 => (ax_gr M 3 7 v0).bind (fun x6 => (ax_ri M 0 x6 v4).bind (fun x7 => (ax_ti M 0 x5 ((8 * v3) + v4) x7).bind (fun M8 => (some (v4 + 1)).bind (fun y9 => rec43 M8 v0 v1 v2 v3 y9))))) else G_M_tick_90 rec15 rec32 M v0 v1 v2 v3))))
set_option maxRecDepth 100000 in
set_option maxHeartbeats 4000000 in
theorem K_M_tick_43 {Z : ax_Z} {ad0 ad : Nat → Nat} {q : Int32 × ax_M} (B : ax_B Z "VoteAuctionsModel" b_M_tick (some .int)) (hn : Z.2.2.2.2.2.2.2.2.2.2.2.1 = 5) (hR : ax_R Z 3 0 0) (hE : ax_E Z ad0 [] 0 0 (some (ax_I q.1)) q.2) (hag : ∀ a, a ∉ ([] : List Nat) → ad a = ad0 a) {rec15 : ax_M → Option Nat → Int32 → Int32 → Option (Int32 × ax_M)} {rec32 : ax_M → Option Nat → Int32 → Int32 → Int32 → Option (Int32 × ax_M)} {rec43 : ax_M → Option Nat → Int32 → Int32 → Int32 → Int32 → Option (Int32 × ax_M)} (hr15 : ∀ (M : ax_M) (v0 : Option Nat) (v1 : Int32) (v2 : Int32), rec15 M v0 v1 v2 = some q → ax_W Z ad 0 0 15 [(0, ax_O v0), (1, ax_I v1), (2, ax_I v2)] [] M) (hr32 : ∀ (M : ax_M) (v0 : Option Nat) (v1 : Int32) (v2 : Int32) (v3 : Int32), rec32 M v0 v1 v2 v3 = some q → ax_W Z ad 0 0 32 [(0, ax_O v0), (1, ax_I v1), (2, ax_I v2), (3, ax_I v3)] [] M) (hr43 : ∀ (M : ax_M) (v0 : Option Nat) (v1 : Int32) (v2 : Int32) (v3 : Int32) (v4 : Int32), rec43 M v0 v1 v2 v3 v4 = some q → ax_W Z ad 0 0 43 [(0, ax_O v0), (1, ax_I v1), (2, ax_I v2), (3, ax_I v3), (4, ax_I v4)] [] M) : ∀ (M : ax_M) (v0 : Option Nat) (v1 : Int32) (v2 : Int32) (v3 : Int32) (v4 : Int32), G_M_tick_43 rec15 rec32 rec43 M v0 v1 v2 v3 v4 = some q → ax_W Z ad 0 0 43 [(0, ax_O v0), (1, ax_I v1), (2, ax_I v2), (3, ax_I v3), (4, ax_I v4)] [] M := by
  intro M v0 v1 v2 v3 v4 hf
  unfold G_M_tick_43 at hf
  refine ax_iload B (j := 4) d_M_tick_43 rfl ?_
  refine ax_aload_n B d_M_tick_45 rfl (j := 0) rfl ?_
  refine ax_getI B d_M_tick_46 k_M_136 rfl hf (fun x1 hf => ?_)
  refine ax_icmp_ge B (tgt := 90) d_M_tick_49 (by decide) hf (fun hf => ?_) (fun hf => ?_)
  · refine ax_sub [0, 1, 2, 3] rfl ?_
    exact K_M_tick_90 B hn hR hE hag hr15 hr32 M v0 v1 v2 v3 hf
  · refine ax_aload_n B d_M_tick_52 rfl (j := 0) rfl ?_
    refine ax_getR B d_M_tick_53 k_M_32 rfl hf (fun x2 hf => ?_)
    refine ax_iload_n B d_M_tick_56 rfl (j := 3) rfl ?_
    refine ax_iald B d_M_tick_57 (t := 0) (by decide) rfl hf (fun x3 hf => ?_)
    refine ax_aload_n B d_M_tick_58 rfl (j := 0) rfl ?_
    refine ax_getI B d_M_tick_59 k_M_156 rfl hf (fun x4 hf => ?_)
    refine ax_icmp_ne B (tgt := 90) d_M_tick_62 (by decide) hf (fun hf => ?_) (fun hf => ?_)
    · refine ax_aload_n B d_M_tick_65 rfl (j := 0) rfl ?_
      refine ax_getR B d_M_tick_66 k_M_69 rfl hf (fun x5 hf => ?_)
      refine ax_bipush B (v := 8) (by decide) d_M_tick_69 ?_
      refine ax_iload_n B d_M_tick_71 rfl (j := 3) rfl ?_
      refine ax_imul B d_M_tick_72 ?_
      refine ax_iload B (j := 4) d_M_tick_73 rfl ?_
      refine ax_iadd B d_M_tick_75 ?_
      refine ax_aload_n B d_M_tick_76 rfl (j := 0) rfl ?_
      refine ax_getR B d_M_tick_77 k_M_20 rfl hf (fun x6 hf => ?_)
      refine ax_iload B (j := 4) d_M_tick_80 rfl ?_
      refine ax_iald B d_M_tick_82 (t := 0) (by decide) rfl hf (fun x7 hf => ?_)
      refine ax_iast B d_M_tick_83 (t := 0) (by decide) rfl hf (fun M8 hf => ?_)
      refine ax_iincN B (j := 4) (lv' := fun y => [(4, ax_I y), (0, ax_O v0), (1, ax_I v1), (2, ax_I v2), (3, ax_I v3)]) d_M_tick_84 rfl hf rfl (by rw [hn]; decide) (fun _ => rfl) (fun y9 hf => ?_)
      refine ax_goto B (tgt := 43) d_M_tick_87 (by decide) ?_
      refine ax_sub [1, 2, 3, 4, 0] rfl ?_
      exact hr43 M8 v0 v1 v2 v3 y9 hf
    · refine ax_sub [0, 1, 2, 3] rfl ?_
      exact K_M_tick_90 B hn hR hE hag hr15 hr32 M v0 v1 v2 v3 hf
def F_M_tick_43 (rec15 : ax_M → Option Nat → Int32 → Int32 → Option (Int32 × ax_M)) (rec32 : ax_M → Option Nat → Int32 → Int32 → Int32 → Option (Int32 × ax_M)) : Nat → ax_M → Option Nat → Int32 → Int32 → Int32 → Int32 → Option (Int32 × ax_M)
  | 0 => fun _ _ _ _ _ _ => none
  | n + 1 => G_M_tick_43 rec15 rec32 (F_M_tick_43 rec15 rec32 n)
set_option maxRecDepth 100000 in
set_option maxHeartbeats 4000000 in
theorem L_M_tick_43 {Z : ax_Z} {ad0 ad : Nat → Nat} {q : Int32 × ax_M} (B : ax_B Z "VoteAuctionsModel" b_M_tick (some .int)) (hn : Z.2.2.2.2.2.2.2.2.2.2.2.1 = 5) (hR : ax_R Z 3 0 0) (hE : ax_E Z ad0 [] 0 0 (some (ax_I q.1)) q.2) (hag : ∀ a, a ∉ ([] : List Nat) → ad a = ad0 a) {rec15 : ax_M → Option Nat → Int32 → Int32 → Option (Int32 × ax_M)} {rec32 : ax_M → Option Nat → Int32 → Int32 → Int32 → Option (Int32 × ax_M)} (hr15 : ∀ (M : ax_M) (v0 : Option Nat) (v1 : Int32) (v2 : Int32), rec15 M v0 v1 v2 = some q → ax_W Z ad 0 0 15 [(0, ax_O v0), (1, ax_I v1), (2, ax_I v2)] [] M) (hr32 : ∀ (M : ax_M) (v0 : Option Nat) (v1 : Int32) (v2 : Int32) (v3 : Int32), rec32 M v0 v1 v2 v3 = some q → ax_W Z ad 0 0 32 [(0, ax_O v0), (1, ax_I v1), (2, ax_I v2), (3, ax_I v3)] [] M) : ∀ (n : Nat) (M : ax_M) (v0 : Option Nat) (v1 : Int32) (v2 : Int32) (v3 : Int32) (v4 : Int32), F_M_tick_43 rec15 rec32 n M v0 v1 v2 v3 v4 = some q → ax_W Z ad 0 0 43 [(0, ax_O v0), (1, ax_I v1), (2, ax_I v2), (3, ax_I v3), (4, ax_I v4)] [] M := by
  intro n
  induction n with
  | zero => intro M v0 v1 v2 v3 v4 hf; cases hf
  | succ n ih => exact K_M_tick_43 B hn hR hE hag hr15 hr32 ih
def G_M_tick_32 (rec15 : ax_M → Option Nat → Int32 → Int32 → Option (Int32 × ax_M)) (rec32 : ax_M → Option Nat → Int32 → Int32 → Int32 → Option (Int32 × ax_M)) (M : ax_M) (v0 : Option Nat) (v1 : Int32) (v2 : Int32) (v3 : Int32) : Option (Int32 × ax_M) := (ax_gi M 3 8 v0).bind (fun x1 => if x1 ≤ v3 then F_M_tick_98 rec15 64 M v0 v1 v2 0 else F_M_tick_43 rec15 rec32 64 M v0 v1 v2 v3 0)
set_option maxRecDepth 100000 in
set_option maxHeartbeats 4000000 in
theorem K_M_tick_32 {Z : ax_Z} {ad0 ad : Nat → Nat} {q : Int32 × ax_M} (B : ax_B Z "VoteAuctionsModel" b_M_tick (some .int)) (hn : Z.2.2.2.2.2.2.2.2.2.2.2.1 = 5) (hR : ax_R Z 3 0 0) (hE : ax_E Z ad0 [] 0 0 (some (ax_I q.1)) q.2) (hag : ∀ a, a ∉ ([] : List Nat) → ad a = ad0 a) {rec15 : ax_M → Option Nat → Int32 → Int32 → Option (Int32 × ax_M)} {rec32 : ax_M → Option Nat → Int32 → Int32 → Int32 → Option (Int32 × ax_M)} (hr15 : ∀ (M : ax_M) (v0 : Option Nat) (v1 : Int32) (v2 : Int32), rec15 M v0 v1 v2 = some q → ax_W Z ad 0 0 15 [(0, ax_O v0), (1, ax_I v1), (2, ax_I v2)] [] M) (hr32 : ∀ (M : ax_M) (v0 : Option Nat) (v1 : Int32) (v2 : Int32) (v3 : Int32), rec32 M v0 v1 v2 v3 = some q → ax_W Z ad 0 0 32 [(0, ax_O v0), (1, ax_I v1), (2, ax_I v2), (3, ax_I v3)] [] M) : ∀ (M : ax_M) (v0 : Option Nat) (v1 : Int32) (v2 : Int32) (v3 : Int32), G_M_tick_32 rec15 rec32 M v0 v1 v2 v3 = some q → ax_W Z ad 0 0 32 [(0, ax_O v0), (1, ax_I v1), (2, ax_I v2), (3, ax_I v3)] [] M := by
  intro M v0 v1 v2 v3 hf
  unfold G_M_tick_32 at hf
  refine ax_iload_n B d_M_tick_32 rfl (j := 3) rfl ?_
  refine ax_aload_n B d_M_tick_33 rfl (j := 0) rfl ?_
  refine ax_getI B d_M_tick_34 k_M_159 rfl hf (fun x1 hf => ?_)
  refine ax_icmp_ge B (tgt := 96) d_M_tick_37 (by decide) hf (fun hf => ?_) (fun hf => ?_)
  · refine ax_iconst B (v := 0) (by decide) d_M_tick_96 ?_
    refine ax_istore_n B (lv' := [(3, ax_I 0), (0, ax_O v0), (1, ax_I v1), (2, ax_I v2)]) d_M_tick_97 rfl (by rw [hn]; decide) rfl ?_
    refine ax_sub [1, 2, 3, 0] rfl ?_
    exact L_M_tick_98 B hn hR hE hag hr15 64 M v0 v1 v2 0 hf
  · refine ax_iconst B (v := 0) (by decide) d_M_tick_40 ?_
    refine ax_istore B (lv' := [(4, ax_I 0), (0, ax_O v0), (1, ax_I v1), (2, ax_I v2), (3, ax_I v3)]) d_M_tick_41 (by rw [hn]; decide) rfl ?_
    refine ax_sub [1, 2, 3, 4, 0] rfl ?_
    exact L_M_tick_43 B hn hR hE hag hr15 hr32 64 M v0 v1 v2 v3 0 hf
def F_M_tick_32 (rec15 : ax_M → Option Nat → Int32 → Int32 → Option (Int32 × ax_M)) : Nat → ax_M → Option Nat → Int32 → Int32 → Int32 → Option (Int32 × ax_M)
  | 0 => fun _ _ _ _ _ => none
  | n + 1 => G_M_tick_32 rec15 (F_M_tick_32 rec15 n)
set_option maxRecDepth 100000 in
set_option maxHeartbeats 4000000 in
theorem L_M_tick_32 {Z : ax_Z} {ad0 ad : Nat → Nat} {q : Int32 × ax_M} (B : ax_B Z "VoteAuctionsModel" b_M_tick (some .int)) (hn : Z.2.2.2.2.2.2.2.2.2.2.2.1 = 5) (hR : ax_R Z 3 0 0) (hE : ax_E Z ad0 [] 0 0 (some (ax_I q.1)) q.2) (hag : ∀ a, a ∉ ([] : List Nat) → ad a = ad0 a) {rec15 : ax_M → Option Nat → Int32 → Int32 → Option (Int32 × ax_M)} (hr15 : ∀ (M : ax_M) (v0 : Option Nat) (v1 : Int32) (v2 : Int32), rec15 M v0 v1 v2 = some q → ax_W Z ad 0 0 15 [(0, ax_O v0), (1, ax_I v1), (2, ax_I v2)] [] M) : ∀ (n : Nat) (M : ax_M) (v0 : Option Nat) (v1 : Int32) (v2 : Int32) (v3 : Int32), F_M_tick_32 rec15 n M v0 v1 v2 v3 = some q → ax_W Z ad 0 0 32 [(0, ax_O v0), (1, ax_I v1), (2, ax_I v2), (3, ax_I v3)] [] M := by
  intro n
  induction n with
  | zero => intro M v0 v1 v2 v3 hf; cases hf
  | succ n ih => exact K_M_tick_32 B hn hR hE hag hr15 ih
def G_M_tick_15 (rec15 : ax_M → Option Nat → Int32 → Int32 → Option (Int32 × ax_M)) (M : ax_M) (v0 : Option Nat) (v1 : Int32) (v2 : Int32) : Option (Int32 × ax_M) := if v1 ≤ v2 then (ax_gi M 3 1 v0).bind (fun x1 => some (x1, M)) else (ax_gi M 3 1 v0).bind (fun x2 => (ax_pi M 3 1 v0 (x2 + 1)).bind (fun M3 => F_M_tick_32 rec15 64 M3 v0 v1 v2 0))
set_option maxRecDepth 100000 in
set_option maxHeartbeats 4000000 in
theorem K_M_tick_15 {Z : ax_Z} {ad0 ad : Nat → Nat} {q : Int32 × ax_M} (B : ax_B Z "VoteAuctionsModel" b_M_tick (some .int)) (hn : Z.2.2.2.2.2.2.2.2.2.2.2.1 = 5) (hR : ax_R Z 3 0 0) (hE : ax_E Z ad0 [] 0 0 (some (ax_I q.1)) q.2) (hag : ∀ a, a ∉ ([] : List Nat) → ad a = ad0 a) {rec15 : ax_M → Option Nat → Int32 → Int32 → Option (Int32 × ax_M)} (hr15 : ∀ (M : ax_M) (v0 : Option Nat) (v1 : Int32) (v2 : Int32), rec15 M v0 v1 v2 = some q → ax_W Z ad 0 0 15 [(0, ax_O v0), (1, ax_I v1), (2, ax_I v2)] [] M) : ∀ (M : ax_M) (v0 : Option Nat) (v1 : Int32) (v2 : Int32), G_M_tick_15 rec15 M v0 v1 v2 = some q → ax_W Z ad 0 0 15 [(0, ax_O v0), (1, ax_I v1), (2, ax_I v2)] [] M := by
  intro M v0 v1 v2 hf
  unfold G_M_tick_15 at hf
  refine ax_iload_n B d_M_tick_15 rfl (j := 2) rfl ?_
  refine ax_iload_n B d_M_tick_16 rfl (j := 1) rfl ?_
  refine ax_icmp_ge B (tgt := 136) d_M_tick_17 (by decide) hf (fun hf => ?_) (fun hf => ?_)
  · refine ax_aload_n B d_M_tick_136 rfl (j := 0) rfl ?_
    refine ax_getI B d_M_tick_137 k_M_156 rfl hf (fun x1 hf => ?_)
    exact ax_ireturn B hE d_M_tick_140 hf rfl hag (by decide) (by decide)
  · refine ax_aload_n B d_M_tick_20 rfl (j := 0) rfl ?_
    refine ax_dup B rfl d_M_tick_21 ?_
    refine ax_getI B d_M_tick_22 k_M_156 rfl hf (fun x2 hf => ?_)
    refine ax_iconst B (v := 1) (by decide) d_M_tick_25 ?_
    refine ax_iadd B d_M_tick_26 ?_
    refine ax_putI B d_M_tick_27 k_M_156 rfl rfl rfl rfl hf (fun M3 hf => ?_)
    refine ax_iconst B (v := 0) (by decide) d_M_tick_30 ?_
    refine ax_istore_n B (lv' := [(3, ax_I 0), (0, ax_O v0), (1, ax_I v1), (2, ax_I v2)]) d_M_tick_31 rfl (by rw [hn]; decide) rfl ?_
    refine ax_sub [1, 2, 3, 0] rfl ?_
    exact L_M_tick_32 B hn hR hE hag hr15 64 M3 v0 v1 v2 0 hf
def F_M_tick_15  : Nat → ax_M → Option Nat → Int32 → Int32 → Option (Int32 × ax_M)
  | 0 => fun _ _ _ _ => none
  | n + 1 => G_M_tick_15 (F_M_tick_15  n)
set_option maxRecDepth 100000 in
set_option maxHeartbeats 4000000 in
theorem L_M_tick_15 {Z : ax_Z} {ad0 ad : Nat → Nat} {q : Int32 × ax_M} (B : ax_B Z "VoteAuctionsModel" b_M_tick (some .int)) (hn : Z.2.2.2.2.2.2.2.2.2.2.2.1 = 5) (hR : ax_R Z 3 0 0) (hE : ax_E Z ad0 [] 0 0 (some (ax_I q.1)) q.2) (hag : ∀ a, a ∉ ([] : List Nat) → ad a = ad0 a)   : ∀ (n : Nat) (M : ax_M) (v0 : Option Nat) (v1 : Int32) (v2 : Int32), F_M_tick_15  n M v0 v1 v2 = some q → ax_W Z ad 0 0 15 [(0, ax_O v0), (1, ax_I v1), (2, ax_I v2)] [] M := by
  intro n
  induction n with
  | zero => intro M v0 v1 v2 hf; cases hf
  | succ n ih => exact K_M_tick_15 B hn hR hE hag ih
def f_M_tick (M : ax_M) (x0 : Option Nat) (p0 : Int32) : Option (Int32 × ax_M) := (f_M_isIn M p0 0 50).bind (fun q1 => if q1.1 = 0 then some ((-2), q1.2) else F_M_tick_15 64 q1.2 x0 p0 0)
set_option maxRecDepth 100000 in
set_option maxHeartbeats 4000000 in
theorem c_M_tick (l : Launch) (G : ax_G) (M : ax_M) (x0 : Option Nat) (p0 : Int32) {q : Int32 × ax_M} (hf : f_M_tick M x0 p0 = some q) : ax_C l G y_M_tick b_M_tick 5 (some .int) [] 3 0 0 [ax_O x0, ax_I p0] M (some (ax_I q.1)) q.2 := by
  refine ax_ofW (by decide +kernel) (lv0 := [(0, ax_O x0), (1, ax_I p0)]) (Nat.le_of_ble_eq_true rfl) rfl ?_
  intro Z ad B hin _ _ hn hR hE
  have hag : ∀ a, a ∉ ([] : List Nat) → ad a = ad a := fun _ _ => rfl
  unfold f_M_tick at hf
  refine ax_iload_n B d_M_tick_0 rfl (j := 1) rfl ?_
  refine ax_iconst B (v := 0) (by decide) d_M_tick_1 ?_
  refine ax_bipush B (v := 50) (by decide) d_M_tick_2 ?_
  refine ax_cSV B hR (as := [ax_I p0, ax_I 0, ax_I 50]) (V := fun q => ax_I q.1) (N := fun q => q.2) d_M_tick_4 l_M_139 m_M_isIn hf (fun q h => c_M_isIn _ _ _ _ _ _ h) rfl rfl (by decide) (by decide) (by decide) (by decide) (Nat.le_of_ble_eq_true rfl) (fun q1 hf => ?_)
  refine ax_if_ne B (tgt := 13) d_M_tick_7 (by decide) hf (fun hf => ?_) (fun hf => ?_)
  · refine ax_bipush B (v := (-2)) (by decide) d_M_tick_10 ?_
    exact ax_ireturn B hE d_M_tick_12 hf rfl hag (by decide) (by decide)
  · refine ax_iconst B (v := 0) (by decide) d_M_tick_13 ?_
    refine ax_istore_n B (lv' := [(2, ax_I 0), (0, ax_O x0), (1, ax_I p0)]) d_M_tick_14 rfl (by rw [hn]; decide) rfl ?_
    refine ax_sub [1, 2, 0] rfl ?_
    exact L_M_tick_15 B hn hR hE hag 64 q1.2 x0 p0 0 hf
def f_M_mark (M : ax_M) (x0 : Option Nat) (p0 : Int32) (p1 : Int32) (p2 : Int32) : Option (Int64 × ax_M) := (some (((p0.toInt64) * (-7046029254386353131)) + (p1.toInt64))).bind (fun y1 => (some (((y1 ^^^ ((y1.toUInt64 >>> ((31 : Int32).toInt64.toUInt64 &&& Int64.toUInt64 63)).toInt64)) * (-4658895280553007687)) + (p2.toInt64))).bind (fun y2 => some ((y2 ^^^ ((y2.toUInt64 >>> ((29 : Int32).toInt64.toUInt64 &&& Int64.toUInt64 63)).toInt64)), M)))
set_option maxRecDepth 100000 in
set_option maxHeartbeats 4000000 in
theorem c_M_mark (l : Launch) (G : ax_G) (M : ax_M) (x0 : Option Nat) (p0 : Int32) (p1 : Int32) (p2 : Int32) {q : Int64 × ax_M} (hf : f_M_mark M x0 p0 p1 p2 = some q) : ax_C l G y_M_mark b_M_mark 6 (some .long) [] 0 0 0 [ax_O x0, ax_I p0, ax_I p1, ax_I p2] M (some (ax_L q.1)) q.2 := by
  refine ax_ofW (by decide +kernel) (lv0 := [(0, ax_O x0), (1, ax_I p0), (2, ax_I p1), (3, ax_I p2)]) (Nat.le_of_ble_eq_true rfl) rfl ?_
  intro Z ad B hin _ _ hn hR hE
  have hag : ∀ a, a ∉ ([] : List Nat) → ad a = ad a := fun _ _ => rfl
  unfold f_M_mark at hf
  refine ax_iload_n B d_M_mark_0 rfl (j := 1) rfl ?_
  refine ax_i2l B d_M_mark_1 ?_
  refine ax_ldc2 B (v := (-7046029254386353131)) n_M_169 d_M_mark_2 ?_
  refine ax_lmul B d_M_mark_5 ?_
  refine ax_iload_n B d_M_mark_6 rfl (j := 2) rfl ?_
  refine ax_i2l B d_M_mark_7 ?_
  refine ax_ladd B d_M_mark_8 ?_
  refine ax_nmL hf (fun y1 hf => ?_)
  refine ax_lstore B (lv' := [(4, ax_L y1), (0, ax_O x0), (1, ax_I p0), (2, ax_I p1), (3, ax_I p2)]) d_M_mark_9 (by rw [hn]; decide) rfl ?_
  refine ax_lload B (j := 0) d_M_mark_11 rfl ?_
  refine ax_lload B (j := 0) d_M_mark_13 rfl ?_
  refine ax_bipush B (v := 31) (by decide) d_M_mark_15 ?_
  refine ax_lushr B d_M_mark_17 ?_
  refine ax_lxor B d_M_mark_18 ?_
  refine ax_ldc2 B (v := (-4658895280553007687)) n_M_171 d_M_mark_19 ?_
  refine ax_lmul B d_M_mark_22 ?_
  refine ax_iload_n B d_M_mark_23 rfl (j := 4) rfl ?_
  refine ax_i2l B d_M_mark_24 ?_
  refine ax_ladd B d_M_mark_25 ?_
  refine ax_nmL hf (fun y2 hf => ?_)
  refine ax_lstore B (lv' := [(4, ax_L y2), (0, ax_O x0), (1, ax_I p0), (2, ax_I p1), (3, ax_I p2)]) d_M_mark_26 (by rw [hn]; decide) rfl ?_
  refine ax_lload B (j := 0) d_M_mark_28 rfl ?_
  refine ax_lload B (j := 0) d_M_mark_30 rfl ?_
  refine ax_bipush B (v := 29) (by decide) d_M_mark_32 ?_
  refine ax_lushr B d_M_mark_34 ?_
  refine ax_lxor B d_M_mark_35 ?_
  exact ax_lreturn B hE d_M_mark_36 hf hag (by decide) (by decide)
def G_M_isQuestion_17  (M : ax_M) (s0 : Int32) : Option (Int32 × ax_M) := (ax_bo s0).bind (fun _ => some (s0, M))
set_option maxRecDepth 100000 in
set_option maxHeartbeats 4000000 in
theorem K_M_isQuestion_17 {Z : ax_Z} {ad0 ad : Nat → Nat} {q : Int32 × ax_M} (B : ax_B Z "VoteAuctionsModel" b_M_isQuestion (some .boolean)) (hn : Z.2.2.2.2.2.2.2.2.2.2.2.1 = 2) (hR : ax_R Z 0 0 0) (hE : ax_E Z ad0 [] 0 0 (some (ax_I q.1)) q.2) (hag : ∀ a, a ∉ ([] : List Nat) → ad a = ad0 a)   : ∀ (M : ax_M) (s0 : Int32), G_M_isQuestion_17  M s0 = some q → ax_W Z ad 0 0 17 [] [ax_I s0] M := by
  intro M s0 hf
  unfold G_M_isQuestion_17 at hf
  obtain ⟨_, hb, hf⟩ := ax_bd hf
  exact ax_ireturn B hE d_M_isQuestion_17 hf (ax_bo_n hb) hag (by decide) (by decide)
def G_M_isQuestion_16  (M : ax_M)  : Option (Int32 × ax_M) := G_M_isQuestion_17 M 0
set_option maxRecDepth 100000 in
set_option maxHeartbeats 4000000 in
theorem K_M_isQuestion_16 {Z : ax_Z} {ad0 ad : Nat → Nat} {q : Int32 × ax_M} (B : ax_B Z "VoteAuctionsModel" b_M_isQuestion (some .boolean)) (hn : Z.2.2.2.2.2.2.2.2.2.2.2.1 = 2) (hR : ax_R Z 0 0 0) (hE : ax_E Z ad0 [] 0 0 (some (ax_I q.1)) q.2) (hag : ∀ a, a ∉ ([] : List Nat) → ad a = ad0 a)   : ∀ (M : ax_M) , G_M_isQuestion_16  M  = some q → ax_W Z ad 0 0 16 [] [] M := by
  intro M  hf
  unfold G_M_isQuestion_16 at hf
  refine ax_iconst B (v := 0) (by decide) d_M_isQuestion_16 ?_
  exact K_M_isQuestion_17 B hn hR hE hag M 0 hf
def f_M_isQuestion (M : ax_M) (x0 : Option Nat) (p0 : Int32) : Option (Int32 × ax_M) := if p0 < 0 then G_M_isQuestion_16 M else (ax_gi M 3 8 x0).bind (fun x1 => if x1 ≤ p0 then G_M_isQuestion_16 M else G_M_isQuestion_17 M 1)
set_option maxRecDepth 100000 in
set_option maxHeartbeats 4000000 in
theorem c_M_isQuestion (l : Launch) (G : ax_G) (M : ax_M) (x0 : Option Nat) (p0 : Int32) {q : Int32 × ax_M} (hf : f_M_isQuestion M x0 p0 = some q) : ax_C l G y_M_isQuestion b_M_isQuestion 2 (some .boolean) [] 0 0 0 [ax_O x0, ax_I p0] M (some (ax_I q.1)) q.2 := by
  refine ax_ofW (by decide +kernel) (lv0 := [(0, ax_O x0), (1, ax_I p0)]) (Nat.le_of_ble_eq_true rfl) rfl ?_
  intro Z ad B hin _ _ hn hR hE
  have hag : ∀ a, a ∉ ([] : List Nat) → ad a = ad a := fun _ _ => rfl
  unfold f_M_isQuestion at hf
  refine ax_iload_n B d_M_isQuestion_0 rfl (j := 1) rfl ?_
  refine ax_if_lt B (tgt := 16) d_M_isQuestion_1 (by decide) hf (fun hf => ?_) (fun hf => ?_)
  · refine ax_sub [] rfl ?_
    exact K_M_isQuestion_16 B hn hR hE hag M hf
  · refine ax_iload_n B d_M_isQuestion_4 rfl (j := 1) rfl ?_
    refine ax_aload_n B d_M_isQuestion_5 rfl (j := 0) rfl ?_
    refine ax_getI B d_M_isQuestion_6 k_M_159 rfl hf (fun x1 hf => ?_)
    refine ax_icmp_ge B (tgt := 16) d_M_isQuestion_9 (by decide) hf (fun hf => ?_) (fun hf => ?_)
    · refine ax_sub [] rfl ?_
      exact K_M_isQuestion_16 B hn hR hE hag M hf
    · refine ax_iconst B (v := 1) (by decide) d_M_isQuestion_12 ?_
      refine ax_goto B (tgt := 17) d_M_isQuestion_13 (by decide) ?_
      refine ax_sub [] rfl ?_
      exact K_M_isQuestion_17 B hn hR hE hag M 1 hf
def G_M_question_50  (M : ax_M)  : Option (Int32 × ax_M) := some ((-2), M)
set_option maxRecDepth 100000 in
set_option maxHeartbeats 4000000 in
theorem K_M_question_50 {Z : ax_Z} {ad0 ad : Nat → Nat} {q : Int32 × ax_M} (B : ax_B Z "VoteAuctionsModel" b_M_question (some .int)) (hn : Z.2.2.2.2.2.2.2.2.2.2.2.1 = 8) (hR : ax_R Z 1 0 0) (hE : ax_E Z ad0 [] 0 0 (some (ax_I q.1)) q.2) (hag : ∀ a, a ∉ ([] : List Nat) → ad a = ad0 a)   : ∀ (M : ax_M) , G_M_question_50  M  = some q → ax_W Z ad 0 0 50 [] [] M := by
  intro M  hf
  unfold G_M_question_50 at hf
  refine ax_bipush B (v := (-2)) (by decide) d_M_question_50 ?_
  exact ax_ireturn B hE d_M_question_52 hf rfl hag (by decide) (by decide)
def G_M_question_183 (rec144 : ax_M → Option Nat → Int32 → Int32 → Option (Int32 × ax_M)) (M : ax_M) (v0 : Option Nat) (v6 : Int32) (v7 : Int32) (s0 : Int32) (s1 : Int32) (s2 : Option Nat) : Option (Int32 × ax_M) := (ax_ti M 0 s2 s1 s0).bind (fun M1 => (ax_gr M1 3 20 v0).bind (fun x2 => (ax_ti M1 2 x2 ((8 * v6) + v7) 0).bind (fun M3 => (ax_gr M3 3 22 v0).bind (fun x4 => (ax_ti M3 2 x4 ((8 * v6) + v7) 0).bind (fun M5 => (ax_gr M5 3 24 v0).bind (fun x6 => (ax_ti M5 0 x6 ((8 * v6) + v7) v7).bind (fun M7 => (some (v7 + 1)).bind (fun y8 => rec144 M7 v0 v6 y8))))))))
set_option maxRecDepth 100000 in
set_option maxHeartbeats 4000000 in
theorem K_M_question_183 {Z : ax_Z} {ad0 ad : Nat → Nat} {q : Int32 × ax_M} (B : ax_B Z "VoteAuctionsModel" b_M_question (some .int)) (hn : Z.2.2.2.2.2.2.2.2.2.2.2.1 = 8) (hR : ax_R Z 1 0 0) (hE : ax_E Z ad0 [] 0 0 (some (ax_I q.1)) q.2) (hag : ∀ a, a ∉ ([] : List Nat) → ad a = ad0 a) {rec144 : ax_M → Option Nat → Int32 → Int32 → Option (Int32 × ax_M)} (hr144 : ∀ (M : ax_M) (v0 : Option Nat) (v6 : Int32) (v7 : Int32), rec144 M v0 v6 v7 = some q → ax_W Z ad 0 0 144 [(0, ax_O v0), (6, ax_I v6), (7, ax_I v7)] [] M) : ∀ (M : ax_M) (v0 : Option Nat) (v6 : Int32) (v7 : Int32) (s0 : Int32) (s1 : Int32) (s2 : Option Nat), G_M_question_183 rec144 M v0 v6 v7 s0 s1 s2 = some q → ax_W Z ad 0 0 183 [(0, ax_O v0), (6, ax_I v6), (7, ax_I v7)] [ax_I s0, ax_I s1, ax_O s2] M := by
  intro M v0 v6 v7 s0 s1 s2 hf
  unfold G_M_question_183 at hf
  refine ax_iast B d_M_question_183 (t := 0) (by decide) rfl hf (fun M1 hf => ?_)
  refine ax_aload_n B d_M_question_184 rfl (j := 0) rfl ?_
  refine ax_getR B d_M_question_185 k_M_57 rfl hf (fun x2 hf => ?_)
  refine ax_bipush B (v := 8) (by decide) d_M_question_188 ?_
  refine ax_iload B (j := 1) d_M_question_190 rfl ?_
  refine ax_imul B d_M_question_192 ?_
  refine ax_iload B (j := 2) d_M_question_193 rfl ?_
  refine ax_iadd B d_M_question_195 ?_
  refine ax_iconst B (v := 0) (by decide) d_M_question_196 ?_
  refine ax_zast B d_M_question_197 (t := 2) (by decide) rfl (by decide) hf (fun M3 hf => ?_)
  refine ax_aload_n B d_M_question_198 rfl (j := 0) rfl ?_
  refine ax_getR B d_M_question_199 k_M_63 rfl hf (fun x4 hf => ?_)
  refine ax_bipush B (v := 8) (by decide) d_M_question_202 ?_
  refine ax_iload B (j := 1) d_M_question_204 rfl ?_
  refine ax_imul B d_M_question_206 ?_
  refine ax_iload B (j := 2) d_M_question_207 rfl ?_
  refine ax_iadd B d_M_question_209 ?_
  refine ax_iconst B (v := 0) (by decide) d_M_question_210 ?_
  refine ax_zast B d_M_question_211 (t := 2) (by decide) rfl (by decide) hf (fun M5 hf => ?_)
  refine ax_aload_n B d_M_question_212 rfl (j := 0) rfl ?_
  refine ax_getR B d_M_question_213 k_M_69 rfl hf (fun x6 hf => ?_)
  refine ax_bipush B (v := 8) (by decide) d_M_question_216 ?_
  refine ax_iload B (j := 1) d_M_question_218 rfl ?_
  refine ax_imul B d_M_question_220 ?_
  refine ax_iload B (j := 2) d_M_question_221 rfl ?_
  refine ax_iadd B d_M_question_223 ?_
  refine ax_iload B (j := 2) d_M_question_224 rfl ?_
  refine ax_iast B d_M_question_226 (t := 0) (by decide) rfl hf (fun M7 hf => ?_)
  refine ax_iincN B (j := 2) (lv' := fun y => [(7, ax_I y), (0, ax_O v0), (6, ax_I v6)]) d_M_question_227 rfl hf rfl (by rw [hn]; decide) (fun _ => rfl) (fun y8 hf => ?_)
  refine ax_goto B (tgt := 144) d_M_question_230 (by decide) ?_
  refine ax_sub [1, 2, 0] rfl ?_
  exact hr144 M7 v0 v6 y8 hf
def G_M_question_144 (rec144 : ax_M → Option Nat → Int32 → Int32 → Option (Int32 × ax_M)) (M : ax_M) (v0 : Option Nat) (v6 : Int32) (v7 : Int32) : Option (Int32 × ax_M) := if 8 ≤ v7 then (ax_gi M 3 8 v0).bind (fun x1 => (ax_pi M 3 8 v0 (x1 + 1)).bind (fun M2 => some (v6, M2))) else (ax_gr M 3 19 v0).bind (fun x3 => (ax_gi M 3 3 v0).bind (fun x4 => if x4 ≤ v7 then G_M_question_183 rec144 M v0 v6 v7 0 ((8 * v6) + v7) x3 else (ax_gr M 3 4 v0).bind (fun x5 => (ax_ri M 0 x5 v7).bind (fun x6 => G_M_question_183 rec144 M v0 v6 v7 x6 ((8 * v6) + v7) x3))))
set_option maxRecDepth 100000 in
set_option maxHeartbeats 4000000 in
theorem K_M_question_144 {Z : ax_Z} {ad0 ad : Nat → Nat} {q : Int32 × ax_M} (B : ax_B Z "VoteAuctionsModel" b_M_question (some .int)) (hn : Z.2.2.2.2.2.2.2.2.2.2.2.1 = 8) (hR : ax_R Z 1 0 0) (hE : ax_E Z ad0 [] 0 0 (some (ax_I q.1)) q.2) (hag : ∀ a, a ∉ ([] : List Nat) → ad a = ad0 a) {rec144 : ax_M → Option Nat → Int32 → Int32 → Option (Int32 × ax_M)} (hr144 : ∀ (M : ax_M) (v0 : Option Nat) (v6 : Int32) (v7 : Int32), rec144 M v0 v6 v7 = some q → ax_W Z ad 0 0 144 [(0, ax_O v0), (6, ax_I v6), (7, ax_I v7)] [] M) : ∀ (M : ax_M) (v0 : Option Nat) (v6 : Int32) (v7 : Int32), G_M_question_144 rec144 M v0 v6 v7 = some q → ax_W Z ad 0 0 144 [(0, ax_O v0), (6, ax_I v6), (7, ax_I v7)] [] M := by
  intro M v0 v6 v7 hf
  unfold G_M_question_144 at hf
  refine ax_iload B (j := 2) d_M_question_144 rfl ?_
  refine ax_bipush B (v := 8) (by decide) d_M_question_146 ?_
  refine ax_icmp_ge B (tgt := 233) d_M_question_148 (by decide) hf (fun hf => ?_) (fun hf => ?_)
  · refine ax_aload_n B d_M_question_233 rfl (j := 0) rfl ?_
    refine ax_dup B rfl d_M_question_234 ?_
    refine ax_getI B d_M_question_235 k_M_159 rfl hf (fun x1 hf => ?_)
    refine ax_iconst B (v := 1) (by decide) d_M_question_238 ?_
    refine ax_iadd B d_M_question_239 ?_
    refine ax_putI B d_M_question_240 k_M_159 rfl rfl rfl rfl hf (fun M2 hf => ?_)
    refine ax_iload B (j := 1) d_M_question_243 rfl ?_
    exact ax_ireturn B hE d_M_question_245 hf rfl hag (by decide) (by decide)
  · refine ax_aload_n B d_M_question_151 rfl (j := 0) rfl ?_
    refine ax_getR B d_M_question_152 k_M_54 rfl hf (fun x3 hf => ?_)
    refine ax_bipush B (v := 8) (by decide) d_M_question_155 ?_
    refine ax_iload B (j := 1) d_M_question_157 rfl ?_
    refine ax_imul B d_M_question_159 ?_
    refine ax_iload B (j := 2) d_M_question_160 rfl ?_
    refine ax_iadd B d_M_question_162 ?_
    refine ax_iload B (j := 2) d_M_question_163 rfl ?_
    refine ax_aload_n B d_M_question_165 rfl (j := 0) rfl ?_
    refine ax_getI B d_M_question_166 k_M_136 rfl hf (fun x4 hf => ?_)
    refine ax_icmp_ge B (tgt := 182) d_M_question_169 (by decide) hf (fun hf => ?_) (fun hf => ?_)
    · refine ax_iconst B (v := 0) (by decide) d_M_question_182 ?_
      exact K_M_question_183 B hn hR hE hag hr144 M v0 v6 v7 0 ((8 * v6) + v7) x3 hf
    · refine ax_aload_n B d_M_question_172 rfl (j := 0) rfl ?_
      refine ax_getR B d_M_question_173 k_M_7 rfl hf (fun x5 hf => ?_)
      refine ax_iload B (j := 2) d_M_question_176 rfl ?_
      refine ax_iald B d_M_question_178 (t := 0) (by decide) rfl hf (fun x6 hf => ?_)
      refine ax_goto B (tgt := 183) d_M_question_179 (by decide) ?_
      exact K_M_question_183 B hn hR hE hag hr144 M v0 v6 v7 x6 ((8 * v6) + v7) x3 hf
def F_M_question_144  : Nat → ax_M → Option Nat → Int32 → Int32 → Option (Int32 × ax_M)
  | 0 => fun _ _ _ _ => none
  | n + 1 => G_M_question_144 (F_M_question_144  n)
set_option maxRecDepth 100000 in
set_option maxHeartbeats 4000000 in
theorem L_M_question_144 {Z : ax_Z} {ad0 ad : Nat → Nat} {q : Int32 × ax_M} (B : ax_B Z "VoteAuctionsModel" b_M_question (some .int)) (hn : Z.2.2.2.2.2.2.2.2.2.2.2.1 = 8) (hR : ax_R Z 1 0 0) (hE : ax_E Z ad0 [] 0 0 (some (ax_I q.1)) q.2) (hag : ∀ a, a ∉ ([] : List Nat) → ad a = ad0 a)   : ∀ (n : Nat) (M : ax_M) (v0 : Option Nat) (v6 : Int32) (v7 : Int32), F_M_question_144  n M v0 v6 v7 = some q → ax_W Z ad 0 0 144 [(0, ax_O v0), (6, ax_I v6), (7, ax_I v7)] [] M := by
  intro n
  induction n with
  | zero => intro M v0 v6 v7 hf; cases hf
  | succ n ih => exact K_M_question_144 B hn hR hE hag ih
def f_M_question (M : ax_M) (x0 : Option Nat) (p0 : Int32) (p1 : Int32) (p2 : Int32) (p3 : Int32) (p4 : Int32) : Option (Int32 × ax_M) := (f_M_isIn M p0 0 3).bind (fun q1 => if q1.1 = 0 then G_M_question_50 q1.2 else (f_M_isIn q1.2 p1 2 4).bind (fun q2 => if q2.1 = 0 then G_M_question_50 q2.2 else (f_M_isIn q2.2 p2 1 50).bind (fun q3 => if q3.1 = 0 then G_M_question_50 q3.2 else (f_M_isIn q3.2 p3 0 20).bind (fun q4 => if q4.1 = 0 then G_M_question_50 q4.2 else (f_M_isIn q4.2 p4 0 100).bind (fun q5 => if q5.1 = 0 then G_M_question_50 q5.2 else (ax_gi q5.2 3 8 x0).bind (fun x6 => if x6 = 6 then some ((-4), q5.2) else (ax_gi q5.2 3 8 x0).bind (fun x7 => (ax_gr q5.2 3 9 x0).bind (fun x8 => (ax_ti q5.2 0 x8 x7 p0).bind (fun M9 => (ax_gr M9 3 10 x0).bind (fun x10 => (ax_ti M9 0 x10 x7 p1).bind (fun M11 => (ax_gr M11 3 11 x0).bind (fun x12 => (ax_gi M11 3 1 x0).bind (fun x13 => (ax_ti M11 0 x12 x7 (x13 + p2)).bind (fun M14 => (ax_gr M14 3 12 x0).bind (fun x15 => (ax_gi M14 3 1 x0).bind (fun x16 => (ax_ti M14 0 x15 x7 ((x16 + p2) + p3)).bind (fun M17 => (ax_gr M17 3 13 x0).bind (fun x18 => (ax_ti M17 0 x18 x7 p4).bind (fun M19 => (ax_gr M19 3 14 x0).bind (fun x20 => (ax_ti M19 2 x20 x7 0).bind (fun M21 => (ax_gr M21 3 15 x0).bind (fun x22 => (ax_ti M21 2 x22 x7 0).bind (fun M23 => F_M_question_144 64 M23 x0 x7 0)))))))))))))))))))))))
set_option maxRecDepth 100000 in
set_option maxHeartbeats 4000000 in
theorem c_M_question (l : Launch) (G : ax_G) (M : ax_M) (x0 : Option Nat) (p0 : Int32) (p1 : Int32) (p2 : Int32) (p3 : Int32) (p4 : Int32) {q : Int32 × ax_M} (hf : f_M_question M x0 p0 p1 p2 p3 p4 = some q) : ax_C l G y_M_question b_M_question 8 (some .int) [] 1 0 0 [ax_O x0, ax_I p0, ax_I p1, ax_I p2, ax_I p3, ax_I p4] M (some (ax_I q.1)) q.2 := by
  refine ax_ofW (by decide +kernel) (lv0 := [(0, ax_O x0), (1, ax_I p0), (2, ax_I p1), (3, ax_I p2), (4, ax_I p3), (5, ax_I p4)]) (Nat.le_of_ble_eq_true rfl) rfl ?_
  intro Z ad B hin _ _ hn hR hE
  have hag : ∀ a, a ∉ ([] : List Nat) → ad a = ad a := fun _ _ => rfl
  unfold f_M_question at hf
  refine ax_iload_n B d_M_question_0 rfl (j := 1) rfl ?_
  refine ax_iconst B (v := 0) (by decide) d_M_question_1 ?_
  refine ax_iconst B (v := 3) (by decide) d_M_question_2 ?_
  refine ax_cSV B hR (as := [ax_I p0, ax_I 0, ax_I 3]) (V := fun q => ax_I q.1) (N := fun q => q.2) d_M_question_3 l_M_139 m_M_isIn hf (fun q h => c_M_isIn _ _ _ _ _ _ h) rfl rfl (by decide) (by decide) (by decide) (by decide) (Nat.le_of_ble_eq_true rfl) (fun q1 hf => ?_)
  refine ax_if_eq B (tgt := 50) d_M_question_6 (by decide) hf (fun hf => ?_) (fun hf => ?_)
  · refine ax_sub [] rfl ?_
    exact K_M_question_50 B hn hR hE hag q1.2 hf
  · refine ax_iload_n B d_M_question_9 rfl (j := 2) rfl ?_
    refine ax_iconst B (v := 2) (by decide) d_M_question_10 ?_
    refine ax_iconst B (v := 4) (by decide) d_M_question_11 ?_
    refine ax_cSV B hR (as := [ax_I p1, ax_I 2, ax_I 4]) (V := fun q => ax_I q.1) (N := fun q => q.2) d_M_question_12 l_M_139 m_M_isIn hf (fun q h => c_M_isIn _ _ _ _ _ _ h) rfl rfl (by decide) (by decide) (by decide) (by decide) (Nat.le_of_ble_eq_true rfl) (fun q2 hf => ?_)
    refine ax_if_eq B (tgt := 50) d_M_question_15 (by decide) hf (fun hf => ?_) (fun hf => ?_)
    · refine ax_sub [] rfl ?_
      exact K_M_question_50 B hn hR hE hag q2.2 hf
    · refine ax_iload_n B d_M_question_18 rfl (j := 3) rfl ?_
      refine ax_iconst B (v := 1) (by decide) d_M_question_19 ?_
      refine ax_bipush B (v := 50) (by decide) d_M_question_20 ?_
      refine ax_cSV B hR (as := [ax_I p2, ax_I 1, ax_I 50]) (V := fun q => ax_I q.1) (N := fun q => q.2) d_M_question_22 l_M_139 m_M_isIn hf (fun q h => c_M_isIn _ _ _ _ _ _ h) rfl rfl (by decide) (by decide) (by decide) (by decide) (Nat.le_of_ble_eq_true rfl) (fun q3 hf => ?_)
      refine ax_if_eq B (tgt := 50) d_M_question_25 (by decide) hf (fun hf => ?_) (fun hf => ?_)
      · refine ax_sub [] rfl ?_
        exact K_M_question_50 B hn hR hE hag q3.2 hf
      · refine ax_iload B (j := 4) d_M_question_28 rfl ?_
        refine ax_iconst B (v := 0) (by decide) d_M_question_30 ?_
        refine ax_bipush B (v := 20) (by decide) d_M_question_31 ?_
        refine ax_cSV B hR (as := [ax_I p3, ax_I 0, ax_I 20]) (V := fun q => ax_I q.1) (N := fun q => q.2) d_M_question_33 l_M_139 m_M_isIn hf (fun q h => c_M_isIn _ _ _ _ _ _ h) rfl rfl (by decide) (by decide) (by decide) (by decide) (Nat.le_of_ble_eq_true rfl) (fun q4 hf => ?_)
        refine ax_if_eq B (tgt := 50) d_M_question_36 (by decide) hf (fun hf => ?_) (fun hf => ?_)
        · refine ax_sub [] rfl ?_
          exact K_M_question_50 B hn hR hE hag q4.2 hf
        · refine ax_iload B (j := 5) d_M_question_39 rfl ?_
          refine ax_iconst B (v := 0) (by decide) d_M_question_41 ?_
          refine ax_bipush B (v := 100) (by decide) d_M_question_42 ?_
          refine ax_cSV B hR (as := [ax_I p4, ax_I 0, ax_I 100]) (V := fun q => ax_I q.1) (N := fun q => q.2) d_M_question_44 l_M_139 m_M_isIn hf (fun q h => c_M_isIn _ _ _ _ _ _ h) rfl rfl (by decide) (by decide) (by decide) (by decide) (Nat.le_of_ble_eq_true rfl) (fun q5 hf => ?_)
          refine ax_if_ne B (tgt := 53) d_M_question_47 (by decide) hf (fun hf => ?_) (fun hf => ?_)
          · refine ax_sub [] rfl ?_
            exact K_M_question_50 B hn hR hE hag q5.2 hf
          · refine ax_aload_n B d_M_question_53 rfl (j := 0) rfl ?_
            refine ax_getI B d_M_question_54 k_M_159 rfl hf (fun x6 hf => ?_)
            refine ax_bipush B (v := 6) (by decide) d_M_question_57 ?_
            refine ax_icmp_ne B (tgt := 65) d_M_question_59 (by decide) hf (fun hf => ?_) (fun hf => ?_)
            · refine ax_bipush B (v := (-4)) (by decide) d_M_question_62 ?_
              exact ax_ireturn B hE d_M_question_64 hf rfl hag (by decide) (by decide)
            · refine ax_aload_n B d_M_question_65 rfl (j := 0) rfl ?_
              refine ax_getI B d_M_question_66 k_M_159 rfl hf (fun x7 hf => ?_)
              refine ax_istore B (lv' := [(6, ax_I x7), (0, ax_O x0), (1, ax_I p0), (2, ax_I p1), (3, ax_I p2), (4, ax_I p3), (5, ax_I p4)]) d_M_question_69 (by rw [hn]; decide) rfl ?_
              refine ax_aload_n B d_M_question_71 rfl (j := 1) rfl ?_
              refine ax_getR B d_M_question_72 k_M_23 rfl hf (fun x8 hf => ?_)
              refine ax_iload B (j := 0) d_M_question_75 rfl ?_
              refine ax_iload_n B d_M_question_77 rfl (j := 2) rfl ?_
              refine ax_iast B d_M_question_78 (t := 0) (by decide) rfl hf (fun M9 hf => ?_)
              refine ax_aload_n B d_M_question_79 rfl (j := 1) rfl ?_
              refine ax_getR B d_M_question_80 k_M_26 rfl hf (fun x10 hf => ?_)
              refine ax_iload B (j := 0) d_M_question_83 rfl ?_
              refine ax_iload_n B d_M_question_85 rfl (j := 3) rfl ?_
              refine ax_iast B d_M_question_86 (t := 0) (by decide) rfl hf (fun M11 hf => ?_)
              refine ax_aload_n B d_M_question_87 rfl (j := 1) rfl ?_
              refine ax_getR B d_M_question_88 k_M_29 rfl hf (fun x12 hf => ?_)
              refine ax_iload B (j := 0) d_M_question_91 rfl ?_
              refine ax_aload_n B d_M_question_93 rfl (j := 1) rfl ?_
              refine ax_getI B d_M_question_94 k_M_156 rfl hf (fun x13 hf => ?_)
              refine ax_iload_n B d_M_question_97 rfl (j := 4) rfl ?_
              refine ax_iadd B d_M_question_98 ?_
              refine ax_iast B d_M_question_99 (t := 0) (by decide) rfl hf (fun M14 hf => ?_)
              refine ax_aload_n B d_M_question_100 rfl (j := 1) rfl ?_
              refine ax_getR B d_M_question_101 k_M_32 rfl hf (fun x15 hf => ?_)
              refine ax_iload B (j := 0) d_M_question_104 rfl ?_
              refine ax_aload_n B d_M_question_106 rfl (j := 1) rfl ?_
              refine ax_getI B d_M_question_107 k_M_156 rfl hf (fun x16 hf => ?_)
              refine ax_iload_n B d_M_question_110 rfl (j := 4) rfl ?_
              refine ax_iadd B d_M_question_111 ?_
              refine ax_iload B (j := 5) d_M_question_112 rfl ?_
              refine ax_iadd B d_M_question_114 ?_
              refine ax_iast B d_M_question_115 (t := 0) (by decide) rfl hf (fun M17 hf => ?_)
              refine ax_aload_n B d_M_question_116 rfl (j := 1) rfl ?_
              refine ax_getR B d_M_question_117 k_M_35 rfl hf (fun x18 hf => ?_)
              refine ax_iload B (j := 0) d_M_question_120 rfl ?_
              refine ax_iload B (j := 6) d_M_question_122 rfl ?_
              refine ax_iast B d_M_question_124 (t := 0) (by decide) rfl hf (fun M19 hf => ?_)
              refine ax_aload_n B d_M_question_125 rfl (j := 1) rfl ?_
              refine ax_getR B d_M_question_126 k_M_38 rfl hf (fun x20 hf => ?_)
              refine ax_iload B (j := 0) d_M_question_129 rfl ?_
              refine ax_iconst B (v := 0) (by decide) d_M_question_131 ?_
              refine ax_zast B d_M_question_132 (t := 2) (by decide) rfl (by decide) hf (fun M21 hf => ?_)
              refine ax_aload_n B d_M_question_133 rfl (j := 1) rfl ?_
              refine ax_getR B d_M_question_134 k_M_42 rfl hf (fun x22 hf => ?_)
              refine ax_iload B (j := 0) d_M_question_137 rfl ?_
              refine ax_iconst B (v := 0) (by decide) d_M_question_139 ?_
              refine ax_zast B d_M_question_140 (t := 2) (by decide) rfl (by decide) hf (fun M23 hf => ?_)
              refine ax_iconst B (v := 0) (by decide) d_M_question_141 ?_
              refine ax_istore B (lv' := [(7, ax_I 0), (6, ax_I x7), (0, ax_O x0), (1, ax_I p0), (2, ax_I p1), (3, ax_I p2), (4, ax_I p3), (5, ax_I p4)]) d_M_question_142 (by rw [hn]; decide) rfl ?_
              refine ax_sub [2, 1, 0] rfl ?_
              exact L_M_question_144 B hn hR hE hag 64 M23 x0 x7 0 hf
