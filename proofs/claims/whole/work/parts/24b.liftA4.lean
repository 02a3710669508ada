def G_V_bid_20  (M : ax_M)  : Option (Int32 × ax_M) := some ((-1), M)
set_option maxRecDepth 100000 in
set_option maxHeartbeats 4000000 in
theorem K_V_bid_20 {Z : ax_Z} {ad0 ad : Nat → Nat} {q : Int32 × ax_M} (B : ax_B Z "VoteAuctions" b_V_bid (some .int)) (hn : Z.2.2.2.2.2.2.2.2.2.2.2.1 = 6) (hR : ax_R Z 2 0 0) (hE : ax_E Z ad0 [] 0 0 (some (ax_I q.1)) q.2) (hag : ∀ a, a ∉ ([] : List Nat) → ad a = ad0 a)   : ∀ (M : ax_M) , G_V_bid_20  M  = some q → ax_W Z ad 0 0 20 [] [] M := by
  intro M  hf
  unfold G_V_bid_20 at hf
  refine ax_iconst B (v := (-1)) (by decide) d_V_bid_20 ?_
  exact ax_ireturn B hE d_V_bid_21 hf rfl hag (by decide) (by decide)
def G_V_bid_50  (M : ax_M)  : Option (Int32 × ax_M) := some ((-2), M)
set_option maxRecDepth 100000 in
set_option maxHeartbeats 4000000 in
theorem K_V_bid_50 {Z : ax_Z} {ad0 ad : Nat → Nat} {q : Int32 × ax_M} (B : ax_B Z "VoteAuctions" b_V_bid (some .int)) (hn : Z.2.2.2.2.2.2.2.2.2.2.2.1 = 6) (hR : ax_R Z 2 0 0) (hE : ax_E Z ad0 [] 0 0 (some (ax_I q.1)) q.2) (hag : ∀ a, a ∉ ([] : List Nat) → ad a = ad0 a)   : ∀ (M : ax_M) , G_V_bid_50  M  = some q → ax_W Z ad 0 0 50 [] [] M := by
  intro M  hf
  unfold G_V_bid_50 at hf
  refine ax_bipush B (v := (-2)) (by decide) d_V_bid_50 ?_
  exact ax_ireturn B hE d_V_bid_52 hf rfl hag (by decide) (by decide)
def G_V_bid_115  (M : ax_M)  : Option (Int32 × ax_M) := some ((-3), M)
set_option maxRecDepth 100000 in
set_option maxHeartbeats 4000000 in
theorem K_V_bid_115 {Z : ax_Z} {ad0 ad : Nat → Nat} {q : Int32 × ax_M} (B : ax_B Z "VoteAuctions" b_V_bid (some .int)) (hn : Z.2.2.2.2.2.2.2.2.2.2.2.1 = 6) (hR : ax_R Z 2 0 0) (hE : ax_E Z ad0 [] 0 0 (some (ax_I q.1)) q.2) (hag : ∀ a, a ∉ ([] : List Nat) → ad a = ad0 a)   : ∀ (M : ax_M) , G_V_bid_115  M  = some q → ax_W Z ad 0 0 115 [] [] M := by
  intro M  hf
  unfold G_V_bid_115 at hf
  refine ax_bipush B (v := (-3)) (by decide) d_V_bid_115 ?_
  exact ax_ireturn B hE d_V_bid_117 hf rfl hag (by decide) (by decide)
def G_V_bid_150  (M : ax_M) (v0 : Option Nat) (v2 : Int32) (v3 : Int32) (v4 : Int32) (v5 : Option Nat) : Option (Int32 × ax_M) := (ax_ob M 0 v0).bind (fun _ => (f_V_dropBid M v0 v5 v2).bind (fun q1 => (ax_ob q1 2 v5).bind (fun _ => (f_A_tell q1 v5 v2).bind (fun q2 => (ax_gr q2 2 8 v5).bind (fun x3 => (ax_ti q2 0 x3 v2 v3).bind (fun M4 => (ax_gr M4 2 9 v5).bind (fun x5 => (ax_ti M4 0 x5 v2 v4).bind (fun M6 => (ax_ob M6 2 v5).bind (fun _ => (f_A_costOf M6 v5 v2).bind (fun q7 => (ax_ob q7.2 0 v0).bind (fun _ => (f_V_setAside q7.2 v0 v2 q7.1).bind (fun q8 => some (1, q8)))))))))))))
set_option maxRecDepth 100000 in
set_option maxHeartbeats 4000000 in
theorem K_V_bid_150 {Z : ax_Z} {ad0 ad : Nat → Nat} {q : Int32 × ax_M} (B : ax_B Z "VoteAuctions" b_V_bid (some .int)) (hn : Z.2.2.2.2.2.2.2.2.2.2.2.1 = 6) (hR : ax_R Z 2 0 0) (hE : ax_E Z ad0 [] 0 0 (some (ax_I q.1)) q.2) (hag : ∀ a, a ∉ ([] : List Nat) → ad a = ad0 a)   : ∀ (M : ax_M) (v0 : Option Nat) (v2 : Int32) (v3 : Int32) (v4 : Int32) (v5 : Option Nat), G_V_bid_150  M v0 v2 v3 v4 v5 = some q → ax_W Z ad 0 0 150 [(0, ax_O v0), (2, ax_I v2), (3, ax_I v3), (4, ax_I v4), (5, ax_O v5)] [] M := by
  intro M v0 v2 v3 v4 v5 hf
  unfold G_V_bid_150 at hf
  refine ax_aload_n B d_V_bid_150 rfl (j := 0) rfl ?_
  refine ax_aload B (j := 4) d_V_bid_151 rfl ?_
  refine ax_iload_n B d_V_bid_153 rfl (j := 1) rfl ?_
  refine ax_cVN B hR (as := [ax_O v5, ax_I v2]) (N := fun q => q) d_V_bid_154 l_V_187 m_V_dropBid hf (fun q h => c_V_dropBid _ _ _ _ _ _ h) rfl rfl (by decide) (by decide) (by decide) (by decide) (Nat.le_of_ble_eq_true rfl) (fun q1 hf => ?_)
  refine ax_aload B (j := 4) d_V_bid_157 rfl ?_
  refine ax_iload_n B d_V_bid_159 rfl (j := 1) rfl ?_
  refine ax_cVN B hR (as := [ax_I v2]) (N := fun q => q) d_V_bid_160 l_V_194 m_A_tell hf (fun q h => c_A_tell _ _ _ _ _ h) rfl rfl (by decide) (by decide) (by decide) (by decide) (Nat.le_of_ble_eq_true rfl) (fun q2 hf => ?_)
  refine ax_aload B (j := 4) d_V_bid_163 rfl ?_
  refine ax_getR B d_V_bid_165 k_V_198 rfl hf (fun x3 hf => ?_)
  refine ax_iload_n B d_V_bid_168 rfl (j := 1) rfl ?_
  refine ax_iload_n B d_V_bid_169 rfl (j := 2) rfl ?_
  refine ax_iast B d_V_bid_170 (t := 0) (by decide) rfl hf (fun M4 hf => ?_)
  refine ax_aload B (j := 4) d_V_bid_171 rfl ?_
  refine ax_getR B d_V_bid_173 k_V_201 rfl hf (fun x5 hf => ?_)
  refine ax_iload_n B d_V_bid_176 rfl (j := 1) rfl ?_
  refine ax_iload B (j := 3) d_V_bid_177 rfl ?_
  refine ax_iast B d_V_bid_179 (t := 0) (by decide) rfl hf (fun M6 hf => ?_)
  refine ax_aload_n B d_V_bid_180 rfl (j := 0) rfl ?_
  refine ax_iload_n B d_V_bid_181 rfl (j := 1) rfl ?_
  refine ax_aload B (j := 4) d_V_bid_182 rfl ?_
  refine ax_iload_n B d_V_bid_184 rfl (j := 1) rfl ?_
  refine ax_cVV B hR (as := [ax_I v2]) (V := fun q => ax_L q.1) (N := fun q => q.2) d_V_bid_185 l_V_180 m_A_costOf hf (fun q h => c_A_costOf _ _ _ _ _ h) rfl rfl (by decide) (by decide) (by decide) (by decide) (Nat.le_of_ble_eq_true rfl) (fun q7 hf => ?_)
  refine ax_cVN B hR (as := [ax_I v2, ax_L q7.1]) (N := fun q => q) d_V_bid_188 l_V_204 m_V_setAside hf (fun q h => c_V_setAside _ _ _ _ _ _ h) rfl rfl (by decide) (by decide) (by decide) (by decide) (Nat.le_of_ble_eq_true rfl) (fun q8 hf => ?_)
  refine ax_iconst B (v := 1) (by decide) d_V_bid_191 ?_
  exact ax_ireturn B hE d_V_bid_192 hf rfl hag (by decide) (by decide)
def G_V_bid_70  (M : ax_M) (v0 : Option Nat) (v2 : Int32) (v3 : Int32) (v4 : Int32) (v5 : Option Nat) : Option (Int32 × ax_M) := (ax_gi M 0 0 v0).bind (fun x1 => (ax_gi M 2 5 v5).bind (fun x2 => if x2 ≤ x1 then G_V_bid_115 M else (f_V_isBelowStep M v5 v4).bind (fun q3 => if q3.1 = 0 then (ax_gr q3.2 0 4 v0).bind (fun x4 => (ax_rl q3.2 1 x4 v2).bind (fun x5 => (ax_ob q3.2 2 v5).bind (fun _ => (f_A_costOf q3.2 v5 v2).bind (fun q6 => if 0 ≤ (lg_cmp (x5 + q6.1) ((v3.toInt64) * (v4.toInt64))) then (ax_gi q6.2 2 0 v5).bind (fun x7 => if x7 = 0 then (ax_gi q6.2 2 12 v5).bind (fun x8 => (ax_ob q6.2 0 v0).bind (fun _ => (f_V_dropBid q6.2 v0 v5 x8).bind (fun q9 => (ax_pi q9 2 12 v5 v2).bind (fun M10 => (ax_pi M10 2 13 v5 v4).bind (fun M11 => G_V_bid_150 M11 v0 v2 v3 v4 v5))))) else G_V_bid_150 q6.2 v0 v2 v3 v4 v5) else G_V_bid_115 q6.2)))) else G_V_bid_115 q3.2)))
set_option maxRecDepth 100000 in
set_option maxHeartbeats 4000000 in
theorem K_V_bid_70 {Z : ax_Z} {ad0 ad : Nat → Nat} {q : Int32 × ax_M} (B : ax_B Z "VoteAuctions" b_V_bid (some .int)) (hn : Z.2.2.2.2.2.2.2.2.2.2.2.1 = 6) (hR : ax_R Z 2 0 0) (hE : ax_E Z ad0 [] 0 0 (some (ax_I q.1)) q.2) (hag : ∀ a, a ∉ ([] : List Nat) → ad a = ad0 a)   : ∀ (M : ax_M) (v0 : Option Nat) (v2 : Int32) (v3 : Int32) (v4 : Int32) (v5 : Option Nat), G_V_bid_70  M v0 v2 v3 v4 v5 = some q → ax_W Z ad 0 0 70 [(0, ax_O v0), (2, ax_I v2), (3, ax_I v3), (4, ax_I v4), (5, ax_O v5)] [] M := by
  intro M v0 v2 v3 v4 v5 hf
  unfold G_V_bid_70 at hf
  refine ax_aload_n B d_V_bid_70 rfl (j := 0) rfl ?_
  refine ax_getI B d_V_bid_71 k_V_66 rfl hf (fun x1 hf => ?_)
  refine ax_aload B (j := 4) d_V_bid_74 rfl ?_
  refine ax_getI B d_V_bid_76 k_V_175 rfl hf (fun x2 hf => ?_)
  refine ax_icmp_ge B (tgt := 115) d_V_bid_79 (by decide) hf (fun hf => ?_) (fun hf => ?_)
  · refine ax_sub [] rfl ?_
    exact K_V_bid_115 B hn hR hE hag M hf
  · refine ax_aload B (j := 4) d_V_bid_82 rfl ?_
    refine ax_iload B (j := 3) d_V_bid_84 rfl ?_
    refine ax_cSV B hR (as := [ax_O v5, ax_I v4]) (V := fun q => ax_I q.1) (N := fun q => q.2) d_V_bid_86 l_V_176 m_V_isBelowStep hf (fun q h => c_V_isBelowStep _ _ _ _ _ h) rfl rfl (by decide) (by decide) (by decide) (by decide) (Nat.le_of_ble_eq_true rfl) (fun q3 hf => ?_)
    refine ax_if_ne B (tgt := 115) d_V_bid_89 (by decide) hf (fun hf => ?_) (fun hf => ?_)
    · refine ax_aload_n B d_V_bid_92 rfl (j := 0) rfl ?_
      refine ax_getR B d_V_bid_93 k_V_13 rfl hf (fun x4 hf => ?_)
      refine ax_iload_n B d_V_bid_96 rfl (j := 1) rfl ?_
      refine ax_lald B d_V_bid_97 (t := 1) (by decide) rfl hf (fun x5 hf => ?_)
      refine ax_aload B (j := 4) d_V_bid_98 rfl ?_
      refine ax_iload_n B d_V_bid_100 rfl (j := 1) rfl ?_
      refine ax_cVV B hR (as := [ax_I v2]) (V := fun q => ax_L q.1) (N := fun q => q.2) d_V_bid_101 l_V_180 m_A_costOf hf (fun q h => c_A_costOf _ _ _ _ _ h) rfl rfl (by decide) (by decide) (by decide) (by decide) (Nat.le_of_ble_eq_true rfl) (fun q6 hf => ?_)
      refine ax_ladd B d_V_bid_104 ?_
      refine ax_iload_n B d_V_bid_105 rfl (j := 2) rfl ?_
      refine ax_i2l B d_V_bid_106 ?_
      refine ax_iload B (j := 3) d_V_bid_107 rfl ?_
      refine ax_i2l B d_V_bid_109 ?_
      refine ax_lmul B d_V_bid_110 ?_
      refine ax_lcmp B d_V_bid_111 ?_
      refine ax_if_ge B (tgt := 118) d_V_bid_112 (by decide) hf (fun hf => ?_) (fun hf => ?_)
      · refine ax_aload B (j := 4) d_V_bid_118 rfl ?_
        refine ax_getI B d_V_bid_120 k_V_174 rfl hf (fun x7 hf => ?_)
        refine ax_if_ne B (tgt := 150) d_V_bid_123 (by decide) hf (fun hf => ?_) (fun hf => ?_)
        · refine ax_aload_n B d_V_bid_126 rfl (j := 0) rfl ?_
          refine ax_aload B (j := 4) d_V_bid_127 rfl ?_
          refine ax_aload B (j := 4) d_V_bid_129 rfl ?_
          refine ax_getI B d_V_bid_131 k_V_184 rfl hf (fun x8 hf => ?_)
          refine ax_cVN B hR (as := [ax_O v5, ax_I x8]) (N := fun q => q) d_V_bid_134 l_V_187 m_V_dropBid hf (fun q h => c_V_dropBid _ _ _ _ _ _ h) rfl rfl (by decide) (by decide) (by decide) (by decide) (Nat.le_of_ble_eq_true rfl) (fun q9 hf => ?_)
          refine ax_aload B (j := 4) d_V_bid_137 rfl ?_
          refine ax_iload_n B d_V_bid_139 rfl (j := 1) rfl ?_
          refine ax_putI B d_V_bid_140 k_V_184 rfl rfl rfl rfl hf (fun M10 hf => ?_)
          refine ax_aload B (j := 4) d_V_bid_143 rfl ?_
          refine ax_iload B (j := 3) d_V_bid_145 rfl ?_
          refine ax_putI B d_V_bid_147 k_V_191 rfl rfl rfl rfl hf (fun M11 hf => ?_)
          exact K_V_bid_150 B hn hR hE hag M11 v0 v2 v3 v4 v5 hf
        · exact K_V_bid_150 B hn hR hE hag q6.2 v0 v2 v3 v4 v5 hf
      · refine ax_sub [] rfl ?_
        exact K_V_bid_115 B hn hR hE hag q6.2 hf
    · refine ax_sub [] rfl ?_
      exact K_V_bid_115 B hn hR hE hag q3.2 hf
def f_V_bid (M : ax_M) (x0 : Option Nat) (p0 : Int32) (p1 : Int32) (p2 : Int32) (p3 : Int32) : Option (Int32 × ax_M) := (ax_ob M 0 x0).bind (fun _ => (f_V_auctionAt M x0 p0).bind (fun q1 => if q1.1 = none then G_V_bid_20 q1.2 else (ax_ob q1.2 0 x0).bind (fun _ => (f_V_isNoAccount q1.2 x0 p1).bind (fun q2 => if q2.1 = 0 then (ax_gi q2.2 2 1 q1.1).bind (fun x3 => (f_V_isOutside q2.2 p2 1 x3).bind (fun q4 => if q4.1 = 0 then (ax_gi q4.2 2 2 q1.1).bind (fun x5 => (f_V_isOutside q4.2 p3 x5 1000000).bind (fun q6 => if q6.1 = 0 then (ax_gi q6.2 2 0 q1.1).bind (fun x7 => if x7 = 0 then G_V_bid_70 q6.2 x0 p1 p2 p3 q1.1 else (ax_gi q6.2 2 0 q1.1).bind (fun x8 => if x8 = 4 then G_V_bid_70 q6.2 x0 p1 p2 p3 q1.1 else G_V_bid_115 q6.2)) else G_V_bid_50 q6.2)) else G_V_bid_50 q4.2)) else G_V_bid_20 q2.2))))
set_option maxRecDepth 100000 in
set_option maxHeartbeats 4000000 in
theorem c_V_bid (l : Launch) (G : ax_G) (M : ax_M) (x0 : Option Nat) (p0 : Int32) (p1 : Int32) (p2 : Int32) (p3 : Int32) {q : Int32 × ax_M} (hf : f_V_bid M x0 p0 p1 p2 p3 = some q) : ax_C l G y_V_bid b_V_bid 6 (some .int) [] 2 0 0 [ax_O x0, ax_I p0, ax_I p1, ax_I p2, ax_I p3] M (some (ax_I q.1)) q.2 := by
  refine ax_ofW (by decide +kernel) (lv0 := [(0, ax_O x0), (1, ax_I p0), (2, ax_I p1), (3, ax_I p2), (4, ax_I p3)]) (Nat.le_of_ble_eq_true rfl) rfl ?_
  intro Z ad B hin _ _ hn hR hE
  have hag : ∀ a, a ∉ ([] : List Nat) → ad a = ad a := fun _ _ => rfl
  unfold f_V_bid at hf
  refine ax_aload_n B d_V_bid_0 rfl (j := 0) rfl ?_
  refine ax_iload_n B d_V_bid_1 rfl (j := 1) rfl ?_
  refine ax_cVV B hR (as := [ax_I p0]) (V := fun q => ax_O q.1) (N := fun q => q.2) d_V_bid_2 l_V_164 m_V_auctionAt hf (fun q h => c_V_auctionAt _ _ _ _ _ h) rfl rfl (by decide) (by decide) (by decide) (by decide) (Nat.le_of_ble_eq_true rfl) (fun q1 hf => ?_)
  refine ax_astore B (lv' := [(5, ax_O q1.1), (0, ax_O x0), (1, ax_I p0), (2, ax_I p1), (3, ax_I p2), (4, ax_I p3)]) d_V_bid_5 (by rw [hn]; decide) rfl ?_
  refine ax_aload B (j := 0) d_V_bid_7 rfl ?_
  refine ax_ifnull B (tgt := 20) d_V_bid_9 (by decide) hf (fun hf => ?_) (fun hf => ?_)
  · refine ax_sub [] rfl ?_
    exact K_V_bid_20 B hn hR hE hag q1.2 hf
  · refine ax_aload_n B d_V_bid_12 rfl (j := 1) rfl ?_
    refine ax_iload_n B d_V_bid_13 rfl (j := 3) rfl ?_
    refine ax_cVV B hR (as := [ax_I p1]) (V := fun q => ax_I q.1) (N := fun q => q.2) d_V_bid_14 l_V_53 m_V_isNoAccount hf (fun q h => c_V_isNoAccount _ _ _ _ _ h) rfl rfl (by decide) (by decide) (by decide) (by decide) (Nat.le_of_ble_eq_true rfl) (fun q2 hf => ?_)
    refine ax_if_eq B (tgt := 22) d_V_bid_17 (by decide) hf (fun hf => ?_) (fun hf => ?_)
    · refine ax_iload_n B d_V_bid_22 rfl (j := 4) rfl ?_
      refine ax_iconst B (v := 1) (by decide) d_V_bid_23 ?_
      refine ax_aload B (j := 0) d_V_bid_24 rfl ?_
      refine ax_getI B d_V_bid_26 k_V_168 rfl hf (fun x3 hf => ?_)
      refine ax_cSV B hR (as := [ax_I p2, ax_I 1, ax_I x3]) (V := fun q => ax_I q.1) (N := fun q => q.2) d_V_bid_29 l_V_44 m_V_isOutside hf (fun q h => c_V_isOutside _ _ _ _ _ _ h) rfl rfl (by decide) (by decide) (by decide) (by decide) (Nat.le_of_ble_eq_true rfl) (fun q4 hf => ?_)
      refine ax_if_ne B (tgt := 50) d_V_bid_32 (by decide) hf (fun hf => ?_) (fun hf => ?_)
      · refine ax_iload B (j := 5) d_V_bid_35 rfl ?_
        refine ax_aload B (j := 0) d_V_bid_37 rfl ?_
        refine ax_getI B d_V_bid_39 k_V_171 rfl hf (fun x5 hf => ?_)
        refine ax_ldc B (v := 1000000) n_V_48 d_V_bid_42 ?_
        refine ax_cSV B hR (as := [ax_I p3, ax_I x5, ax_I 1000000]) (V := fun q => ax_I q.1) (N := fun q => q.2) d_V_bid_44 l_V_44 m_V_isOutside hf (fun q h => c_V_isOutside _ _ _ _ _ _ h) rfl rfl (by decide) (by decide) (by decide) (by decide) (Nat.le_of_ble_eq_true rfl) (fun q6 hf => ?_)
        refine ax_if_eq B (tgt := 53) d_V_bid_47 (by decide) hf (fun hf => ?_) (fun hf => ?_)
        · refine ax_aload B (j := 0) d_V_bid_53 rfl ?_
          refine ax_getI B d_V_bid_55 k_V_174 rfl hf (fun x7 hf => ?_)
          refine ax_if_eq B (tgt := 70) d_V_bid_58 (by decide) hf (fun hf => ?_) (fun hf => ?_)
          · refine ax_sub [1, 3, 4, 5, 0] rfl ?_
            exact K_V_bid_70 B hn hR hE hag q6.2 x0 p1 p2 p3 q1.1 hf
          · refine ax_aload B (j := 0) d_V_bid_61 rfl ?_
            refine ax_getI B d_V_bid_63 k_V_174 rfl hf (fun x8 hf => ?_)
            refine ax_iconst B (v := 4) (by decide) d_V_bid_66 ?_
            refine ax_icmp_ne B (tgt := 115) d_V_bid_67 (by decide) hf (fun hf => ?_) (fun hf => ?_)
            · refine ax_sub [1, 3, 4, 5, 0] rfl ?_
              exact K_V_bid_70 B hn hR hE hag q6.2 x0 p1 p2 p3 q1.1 hf
            · refine ax_sub [] rfl ?_
              exact K_V_bid_115 B hn hR hE hag q6.2 hf
        · refine ax_sub [] rfl ?_
          exact K_V_bid_50 B hn hR hE hag q6.2 hf
      · refine ax_sub [] rfl ?_
        exact K_V_bid_50 B hn hR hE hag q4.2 hf
    · refine ax_sub [] rfl ?_
      exact K_V_bid_20 B hn hR hE hag q2.2 hf
def G_V_seal_20  (M : ax_M)  : Option (Int32 × ax_M) := some ((-1), M)
set_option maxRecDepth 100000 in
set_option maxHeartbeats 4000000 in
theorem K_V_seal_20 {Z : ax_Z} {ad0 ad : Nat → Nat} {q : Int32 × ax_M} (B : ax_B Z "VoteAuctions" b_V_seal (some .int)) (hn : Z.2.2.2.2.2.2.2.2.2.2.2.1 = 7) (hR : ax_R Z 2 0 0) (hE : ax_E Z ad0 [] 0 0 (some (ax_I q.1)) q.2) (hag : ∀ a, a ∉ ([] : List Nat) → ad a = ad0 a)   : ∀ (M : ax_M) , G_V_seal_20  M  = some q → ax_W Z ad 0 0 20 [] [] M := by
  intro M  hf
  unfold G_V_seal_20 at hf
  refine ax_iconst B (v := (-1)) (by decide) d_V_seal_20 ?_
  exact ax_ireturn B hE d_V_seal_21 hf rfl hag (by decide) (by decide)
def G_V_seal_80  (M : ax_M)  : Option (Int32 × ax_M) := some ((-3), M)
set_option maxRecDepth 100000 in
set_option maxHeartbeats 4000000 in
theorem K_V_seal_80 {Z : ax_Z} {ad0 ad : Nat → Nat} {q : Int32 × ax_M} (B : ax_B Z "VoteAuctions" b_V_seal (some .int)) (hn : Z.2.2.2.2.2.2.2.2.2.2.2.1 = 7) (hR : ax_R Z 2 0 0) (hE : ax_E Z ad0 [] 0 0 (some (ax_I q.1)) q.2) (hag : ∀ a, a ∉ ([] : List Nat) → ad a = ad0 a)   : ∀ (M : ax_M) , G_V_seal_80  M  = some q → ax_W Z ad 0 0 80 [] [] M := by
  intro M  hf
  unfold G_V_seal_80 at hf
  refine ax_bipush B (v := (-3)) (by decide) d_V_seal_80 ?_
  exact ax_ireturn B hE d_V_seal_82 hf rfl hag (by decide) (by decide)
def G_V_seal_99  (M : ax_M) (v2 : Int32) (v3 : Int64) (v5 : Option Nat) : Option (Int32 × ax_M) := (ax_ob M 2 v5).bind (fun _ => (f_A_tell M v5 v2).bind (fun q1 => (ax_gr q1 2 7 v5).bind (fun x2 => (ax_tl q1 1 x2 v2 v3).bind (fun M3 => some (1, M3)))))
set_option maxRecDepth 100000 in
set_option maxHeartbeats 4000000 in
theorem K_V_seal_99 {Z : ax_Z} {ad0 ad : Nat → Nat} {q : Int32 × ax_M} (B : ax_B Z "VoteAuctions" b_V_seal (some .int)) (hn : Z.2.2.2.2.2.2.2.2.2.2.2.1 = 7) (hR : ax_R Z 2 0 0) (hE : ax_E Z ad0 [] 0 0 (some (ax_I q.1)) q.2) (hag : ∀ a, a ∉ ([] : List Nat) → ad a = ad0 a)   : ∀ (M : ax_M) (v2 : Int32) (v3 : Int64) (v5 : Option Nat), G_V_seal_99  M v2 v3 v5 = some q → ax_W Z ad 0 0 99 [(2, ax_I v2), (3, ax_L v3), (5, ax_O v5)] [] M := by
  intro M v2 v3 v5 hf
  unfold G_V_seal_99 at hf
  refine ax_aload B (j := 2) d_V_seal_99 rfl ?_
  refine ax_iload_n B d_V_seal_101 rfl (j := 0) rfl ?_
  refine ax_cVN B hR (as := [ax_I v2]) (N := fun q => q) d_V_seal_102 l_V_194 m_A_tell hf (fun q h => c_A_tell _ _ _ _ _ h) rfl rfl (by decide) (by decide) (by decide) (by decide) (Nat.le_of_ble_eq_true rfl) (fun q1 hf => ?_)
  refine ax_aload B (j := 2) d_V_seal_105 rfl ?_
  refine ax_getR B d_V_seal_107 k_V_215 rfl hf (fun x2 hf => ?_)
  refine ax_iload_n B d_V_seal_110 rfl (j := 0) rfl ?_
  refine ax_lload_n B d_V_seal_111 rfl (j := 1) rfl ?_
  refine ax_last B d_V_seal_112 (t := 1) (by decide) rfl hf (fun M3 hf => ?_)
  refine ax_iconst B (v := 1) (by decide) d_V_seal_113 ?_
  exact ax_ireturn B hE d_V_seal_114 hf rfl hag (by decide) (by decide)
def G_V_seal_83  (M : ax_M) (v0 : Option Nat) (v2 : Int32) (v3 : Int64) (v5 : Option Nat) (v6 : Int32) : Option (Int32 × ax_M) := if v6 = 0 then G_V_seal_99 M v2 v3 v5 else (ax_gi M 2 2 v5).bind (fun x1 => (ax_ob M 0 v0).bind (fun _ => (f_V_setAside M v0 v2 (x1.toInt64)).bind (fun q2 => G_V_seal_99 q2 v2 v3 v5)))
set_option maxRecDepth 100000 in
set_option maxHeartbeats 4000000 in
theorem K_V_seal_83 {Z : ax_Z} {ad0 ad : Nat → Nat} {q : Int32 × ax_M} (B : ax_B Z "VoteAuctions" b_V_seal (some .int)) (hn : Z.2.2.2.2.2.2.2.2.2.2.2.1 = 7) (hR : ax_R Z 2 0 0) (hE : ax_E Z ad0 [] 0 0 (some (ax_I q.1)) q.2) (hag : ∀ a, a ∉ ([] : List Nat) → ad a = ad0 a)   : ∀ (M : ax_M) (v0 : Option Nat) (v2 : Int32) (v3 : Int64) (v5 : Option Nat) (v6 : Int32), G_V_seal_83  M v0 v2 v3 v5 v6 = some q → ax_W Z ad 0 0 83 [(0, ax_O v0), (2, ax_I v2), (3, ax_L v3), (5, ax_O v5), (6, ax_I v6)] [] M := by
  intro M v0 v2 v3 v5 v6 hf
  unfold G_V_seal_83 at hf
  refine ax_iload B (j := 4) d_V_seal_83 rfl ?_
  refine ax_if_eq B (tgt := 99) d_V_seal_85 (by decide) hf (fun hf => ?_) (fun hf => ?_)
  · refine ax_sub [1, 2, 3] rfl ?_
    exact K_V_seal_99 B hn hR hE hag M v2 v3 v5 hf
  · refine ax_aload_n B d_V_seal_88 rfl (j := 0) rfl ?_
    refine ax_iload_n B d_V_seal_89 rfl (j := 1) rfl ?_
    refine ax_aload B (j := 3) d_V_seal_90 rfl ?_
    refine ax_getI B d_V_seal_92 k_V_171 rfl hf (fun x1 hf => ?_)
    refine ax_i2l B d_V_seal_95 ?_
    refine ax_cVN B hR (as := [ax_I v2, ax_L (x1.toInt64)]) (N := fun q => q) d_V_seal_96 l_V_204 m_V_setAside hf (fun q h => c_V_setAside _ _ _ _ _ _ h) rfl rfl (by decide) (by decide) (by decide) (by decide) (Nat.le_of_ble_eq_true rfl) (fun q2 hf => ?_)
    refine ax_sub [1, 2, 3] rfl ?_
    exact K_V_seal_99 B hn hR hE hag q2 v2 v3 v5 hf
def G_V_seal_37  (M : ax_M) (v0 : Option Nat) (v2 : Int32) (v3 : Int64) (v5 : Option Nat) (s0 : Int32) : Option (Int32 × ax_M) := (ax_ob M 2 v5).bind (fun _ => (f_A_isSealed M v5 ).bind (fun q1 => if q1.1 = 0 then G_V_seal_80 q1.2 else (ax_gi q1.2 0 0 v0).bind (fun x2 => (ax_gi q1.2 2 4 v5).bind (fun x3 => if x3 ≤ x2 then G_V_seal_80 q1.2 else if s0 = 0 then G_V_seal_83 q1.2 v0 v2 v3 v5 s0 else (ax_gr q1.2 0 4 v0).bind (fun x4 => (ax_rl q1.2 1 x4 v2).bind (fun x5 => (ax_gi q1.2 2 2 v5).bind (fun x6 => if 0 ≤ (lg_cmp x5 (x6.toInt64)) then G_V_seal_83 q1.2 v0 v2 v3 v5 s0 else G_V_seal_80 q1.2)))))))
set_option maxRecDepth 100000 in
set_option maxHeartbeats 4000000 in
theorem K_V_seal_37 {Z : ax_Z} {ad0 ad : Nat → Nat} {q : Int32 × ax_M} (B : ax_B Z "VoteAuctions" b_V_seal (some .int)) (hn : Z.2.2.2.2.2.2.2.2.2.2.2.1 = 7) (hR : ax_R Z 2 0 0) (hE : ax_E Z ad0 [] 0 0 (some (ax_I q.1)) q.2) (hag : ∀ a, a ∉ ([] : List Nat) → ad a = ad0 a)   : ∀ (M : ax_M) (v0 : Option Nat) (v2 : Int32) (v3 : Int64) (v5 : Option Nat) (s0 : Int32), G_V_seal_37  M v0 v2 v3 v5 s0 = some q → ax_W Z ad 0 0 37 [(0, ax_O v0), (2, ax_I v2), (3, ax_L v3), (5, ax_O v5)] [ax_I s0] M := by
  intro M v0 v2 v3 v5 s0 hf
  unfold G_V_seal_37 at hf
  refine ax_istore B (lv' := [(6, ax_I s0), (0, ax_O v0), (2, ax_I v2), (3, ax_L v3), (5, ax_O v5)]) d_V_seal_37 (by rw [hn]; decide) rfl ?_
  refine ax_aload B (j := 4) d_V_seal_39 rfl ?_
  refine ax_cVV B hR (as := []) (V := fun q => ax_I q.1) (N := fun q => q.2) d_V_seal_41 l_V_211 m_A_isSealed hf (fun q h => c_A_isSealed _ _ _ _ h) rfl rfl (by decide) (by decide) (by decide) (by decide) (Nat.le_of_ble_eq_true rfl) (fun q1 hf => ?_)
  refine ax_if_eq B (tgt := 80) d_V_seal_44 (by decide) hf (fun hf => ?_) (fun hf => ?_)
  · refine ax_sub [] rfl ?_
    exact K_V_seal_80 B hn hR hE hag q1.2 hf
  · refine ax_aload_n B d_V_seal_47 rfl (j := 1) rfl ?_
    refine ax_getI B d_V_seal_48 k_V_66 rfl hf (fun x2 hf => ?_)
    refine ax_aload B (j := 4) d_V_seal_51 rfl ?_
    refine ax_getI B d_V_seal_53 k_V_214 rfl hf (fun x3 hf => ?_)
    refine ax_icmp_ge B (tgt := 80) d_V_seal_56 (by decide) hf (fun hf => ?_) (fun hf => ?_)
    · refine ax_sub [] rfl ?_
      exact K_V_seal_80 B hn hR hE hag q1.2 hf
    · refine ax_iload B (j := 0) d_V_seal_59 rfl ?_
      refine ax_if_eq B (tgt := 83) d_V_seal_61 (by decide) hf (fun hf => ?_) (fun hf => ?_)
      · refine ax_sub [1, 2, 3, 4, 0] rfl ?_
        exact K_V_seal_83 B hn hR hE hag q1.2 v0 v2 v3 v5 s0 hf
      · refine ax_aload_n B d_V_seal_64 rfl (j := 1) rfl ?_
        refine ax_getR B d_V_seal_65 k_V_13 rfl hf (fun x4 hf => ?_)
        refine ax_iload_n B d_V_seal_68 rfl (j := 2) rfl ?_
        refine ax_lald B d_V_seal_69 (t := 1) (by decide) rfl hf (fun x5 hf => ?_)
        refine ax_aload B (j := 4) d_V_seal_70 rfl ?_
        refine ax_getI B d_V_seal_72 k_V_171 rfl hf (fun x6 hf => ?_)
        refine ax_i2l B d_V_seal_75 ?_
        refine ax_lcmp B d_V_seal_76 ?_
        refine ax_if_ge B (tgt := 83) d_V_seal_77 (by decide) hf (fun hf => ?_) (fun hf => ?_)
        · refine ax_sub [1, 2, 3, 4, 0] rfl ?_
          exact K_V_seal_83 B hn hR hE hag q1.2 v0 v2 v3 v5 s0 hf
        · refine ax_sub [] rfl ?_
          exact K_V_seal_80 B hn hR hE hag q1.2 hf
def f_V_seal (M : ax_M) (x0 : Option Nat) (p0 : Int32) (p1 : Int32) (p2 : Int64) : Option (Int32 × ax_M) := (ax_ob M 0 x0).bind (fun _ => (f_V_auctionAt M x0 p0).bind (fun q1 => if q1.1 = none then G_V_seal_20 q1.2 else (ax_ob q1.2 0 x0).bind (fun _ => (f_V_isNoAccount q1.2 x0 p1).bind (fun q2 => if q2.1 = 0 then (ax_gr q2.2 2 6 q1.1).bind (fun x3 => (ax_ri q2.2 0 x3 p1).bind (fun x4 => if x4 = 0 then G_V_seal_37 q2.2 x0 p1 p2 q1.1 1 else G_V_seal_37 q2.2 x0 p1 p2 q1.1 0)) else G_V_seal_20 q2.2))))
set_option maxRecDepth 100000 in
set_option maxHeartbeats 4000000 in
theorem c_V_seal (l : Launch) (G : ax_G) (M : ax_M) (x0 : Option Nat) (p0 : Int32) (p1 : Int32) (p2 : Int64) {q : Int32 × ax_M} (hf : f_V_seal M x0 p0 p1 p2 = some q) : ax_C l G y_V_seal b_V_seal 7 (some .int) [] 2 0 0 [ax_O x0, ax_I p0, ax_I p1, ax_L p2] M (some (ax_I q.1)) q.2 := by
  refine ax_ofW (by decide +kernel) (lv0 := [(0, ax_O x0), (1, ax_I p0), (2, ax_I p1), (3, ax_L p2)]) (Nat.le_of_ble_eq_true rfl) rfl ?_
  intro Z ad B hin _ _ hn hR hE
  have hag : ∀ a, a ∉ ([] : List Nat) → ad a = ad a := fun _ _ => rfl
  unfold f_V_seal at hf
  refine ax_aload_n B d_V_seal_0 rfl (j := 0) rfl ?_
  refine ax_iload_n B d_V_seal_1 rfl (j := 1) rfl ?_
  refine ax_cVV B hR (as := [ax_I p0]) (V := fun q => ax_O q.1) (N := fun q => q.2) d_V_seal_2 l_V_164 m_V_auctionAt hf (fun q h => c_V_auctionAt _ _ _ _ _ h) rfl rfl (by decide) (by decide) (by decide) (by decide) (Nat.le_of_ble_eq_true rfl) (fun q1 hf => ?_)
  refine ax_astore B (lv' := [(5, ax_O q1.1), (0, ax_O x0), (1, ax_I p0), (2, ax_I p1), (3, ax_L p2)]) d_V_seal_5 (by rw [hn]; decide) rfl ?_
  refine ax_aload B (j := 0) d_V_seal_7 rfl ?_
  refine ax_ifnull B (tgt := 20) d_V_seal_9 (by decide) hf (fun hf => ?_) (fun hf => ?_)
  · refine ax_sub [] rfl ?_
    exact K_V_seal_20 B hn hR hE hag q1.2 hf
  · refine ax_aload_n B d_V_seal_12 rfl (j := 1) rfl ?_
    refine ax_iload_n B d_V_seal_13 rfl (j := 3) rfl ?_
    refine ax_cVV B hR (as := [ax_I p1]) (V := fun q => ax_I q.1) (N := fun q => q.2) d_V_seal_14 l_V_53 m_V_isNoAccount hf (fun q h => c_V_isNoAccount _ _ _ _ _ h) rfl rfl (by decide) (by decide) (by decide) (by decide) (Nat.le_of_ble_eq_true rfl) (fun q2 hf => ?_)
    refine ax_if_eq B (tgt := 22) d_V_seal_17 (by decide) hf (fun hf => ?_) (fun hf => ?_)
    · refine ax_aload B (j := 0) d_V_seal_22 rfl ?_
      refine ax_getR B d_V_seal_24 k_V_208 rfl hf (fun x3 hf => ?_)
      refine ax_iload_n B d_V_seal_27 rfl (j := 3) rfl ?_
      refine ax_iald B d_V_seal_28 (t := 0) (by decide) rfl hf (fun x4 hf => ?_)
      refine ax_if_ne B (tgt := 36) d_V_seal_29 (by decide) hf (fun hf => ?_) (fun hf => ?_)
      · refine ax_iconst B (v := 1) (by decide) d_V_seal_32 ?_
        refine ax_goto B (tgt := 37) d_V_seal_33 (by decide) ?_
        refine ax_sub [1, 3, 4, 0] rfl ?_
        exact K_V_seal_37 B hn hR hE hag q2.2 x0 p1 p2 q1.1 1 hf
      · refine ax_iconst B (v := 0) (by decide) d_V_seal_36 ?_
        refine ax_sub [1, 3, 4, 0] rfl ?_
        exact K_V_seal_37 B hn hR hE hag q2.2 x0 p1 p2 q1.1 0 hf
    · refine ax_sub [] rfl ?_
      exact K_V_seal_20 B hn hR hE hag q2.2 hf
def G_V_unseal_20  (M : ax_M)  : Option (Int32 × ax_M) := some ((-1), M)
set_option maxRecDepth 100000 in
set_option maxHeartbeats 4000000 in
theorem K_V_unseal_20 {Z : ax_Z} {ad0 ad : Nat → Nat} {q : Int32 × ax_M} (B : ax_B Z "VoteAuctions" b_V_unseal (some .int)) (hn : Z.2.2.2.2.2.2.2.2.2.2.2.1 = 6) (hR : ax_R Z 2 0 0) (hE : ax_E Z ad0 [] 0 0 (some (ax_I q.1)) q.2) (hag : ∀ a, a ∉ ([] : List Nat) → ad a = ad0 a)   : ∀ (M : ax_M) , G_V_unseal_20  M  = some q → ax_W Z ad 0 0 20 [] [] M := by
  intro M  hf
  unfold G_V_unseal_20 at hf
  refine ax_iconst B (v := (-1)) (by decide) d_V_unseal_20 ?_
  exact ax_ireturn B hE d_V_unseal_21 hf rfl hag (by decide) (by decide)
def G_V_unseal_71  (M : ax_M)  : Option (Int32 × ax_M) := some ((-3), M)
set_option maxRecDepth 100000 in
set_option maxHeartbeats 4000000 in
theorem K_V_unseal_71 {Z : ax_Z} {ad0 ad : Nat → Nat} {q : Int32 × ax_M} (B : ax_B Z "VoteAuctions" b_V_unseal (some .int)) (hn : Z.2.2.2.2.2.2.2.2.2.2.2.1 = 6) (hR : ax_R Z 2 0 0) (hE : ax_E Z ad0 [] 0 0 (some (ax_I q.1)) q.2) (hag : ∀ a, a ∉ ([] : List Nat) → ad a = ad0 a)   : ∀ (M : ax_M) , G_V_unseal_71  M  = some q → ax_W Z ad 0 0 71 [] [] M := by
  intro M  hf
  unfold G_V_unseal_71 at hf
  refine ax_bipush B (v := (-3)) (by decide) d_V_unseal_71 ?_
  exact ax_ireturn B hE d_V_unseal_73 hf rfl hag (by decide) (by decide)
def G_V_unseal_132  (M : ax_M)  : Option (Int32 × ax_M) := some ((-3), M)
set_option maxRecDepth 100000 in
set_option maxHeartbeats 4000000 in
theorem K_V_unseal_132 {Z : ax_Z} {ad0 ad : Nat → Nat} {q : Int32 × ax_M} (B : ax_B Z "VoteAuctions" b_V_unseal (some .int)) (hn : Z.2.2.2.2.2.2.2.2.2.2.2.1 = 6) (hR : ax_R Z 2 0 0) (hE : ax_E Z ad0 [] 0 0 (some (ax_I q.1)) q.2) (hag : ∀ a, a ∉ ([] : List Nat) → ad a = ad0 a)   : ∀ (M : ax_M) , G_V_unseal_132  M  = some q → ax_W Z ad 0 0 132 [] [] M := by
  intro M  hf
  unfold G_V_unseal_132 at hf
  refine ax_bipush B (v := (-3)) (by decide) d_V_unseal_132 ?_
  exact ax_ireturn B hE d_V_unseal_134 hf rfl hag (by decide) (by decide)
def f_V_unseal (M : ax_M) (x0 : Option Nat) (p0 : Int32) (p1 : Int32) (p2 : Int32) (p3 : Int32) : Option (Int32 × ax_M) := (ax_ob M 0 x0).bind (fun _ => (f_V_auctionAt M x0 p0).bind (fun q1 => if q1.1 = none then G_V_unseal_20 q1.2 else (ax_ob q1.2 0 x0).bind (fun _ => (f_V_isNoAccount q1.2 x0 p1).bind (fun q2 => if q2.1 = 0 then (ax_gi q2.2 2 2 q1.1).bind (fun x3 => (f_V_isOutside q2.2 p2 x3 1000000).bind (fun q4 => if q4.1 = 0 then (ax_ob q4.2 2 q1.1).bind (fun _ => (f_A_isSealed q4.2 q1.1 ).bind (fun q5 => if q5.1 = 0 then G_V_unseal_71 q5.2 else (ax_gi q5.2 0 0 x0).bind (fun x6 => (ax_gi q5.2 2 4 q1.1).bind (fun x7 => if x6 < x7 then G_V_unseal_71 q5.2 else (ax_gi q5.2 0 0 x0).bind (fun x8 => (ax_gi q5.2 2 5 q1.1).bind (fun x9 => if x8 < x9 then (ax_gr q5.2 2 6 q1.1).bind (fun x10 => (ax_ri q5.2 0 x10 p1).bind (fun x11 => if x11 = 0 then G_V_unseal_132 q5.2 else (ax_gr q5.2 2 9 q1.1).bind (fun x12 => (ax_ri q5.2 0 x12 p1).bind (fun x13 => if x13 = 0 then (ax_gr q5.2 2 7 q1.1).bind (fun x14 => (ax_rl q5.2 1 x14 p1).bind (fun x15 => (ax_ob q5.2 0 x0).bind (fun _ => (f_V_mark q5.2 x0 p1 p2 p3).bind (fun q16 => if (lg_cmp x15 q16.1) = 0 then (ax_gr q16.2 0 4 x0).bind (fun x17 => (ax_rl q16.2 1 x17 p1).bind (fun x18 => (ax_gi q16.2 2 2 q1.1).bind (fun x19 => if 0 ≤ (lg_cmp (x18 + (x19.toInt64)) (p2.toInt64)) then (ax_gi q16.2 2 2 q1.1).bind (fun x20 => (ax_ob q16.2 0 x0).bind (fun _ => (f_V_giveBack q16.2 x0 p1 (x20.toInt64)).bind (fun q21 => (ax_ob q21 0 x0).bind (fun _ => (f_V_setAside q21 x0 p1 (p2.toInt64)).bind (fun q22 => (ax_gr q22 2 8 q1.1).bind (fun x23 => (ax_ti q22 0 x23 p1 1).bind (fun M24 => (ax_gr M24 2 9 q1.1).bind (fun x25 => (ax_ti M24 0 x25 p1 p2).bind (fun M26 => some (1, M26)))))))))) else G_V_unseal_132 q16.2))) else G_V_unseal_132 q16.2)))) else G_V_unseal_132 q5.2)))) else G_V_unseal_71 q5.2)))))) else some ((-2), q4.2))) else G_V_unseal_20 q2.2))))
set_option maxRecDepth 100000 in
set_option maxHeartbeats 4000000 in
theorem c_V_unseal (l : Launch) (G : ax_G) (M : ax_M) (x0 : Option Nat) (p0 : Int32) (p1 : Int32) (p2 : Int32) (p3 : Int32) {q : Int32 × ax_M} (hf : f_V_unseal M x0 p0 p1 p2 p3 = some q) : ax_C l G y_V_unseal b_V_unseal 6 (some .int) [] 2 0 0 [ax_O x0, ax_I p0, ax_I p1, ax_I p2, ax_I p3] M (some (ax_I q.1)) q.2 := by
  refine ax_ofW (by decide +kernel) (lv0 := [(0, ax_O x0), (1, ax_I p0), (2, ax_I p1), (3, ax_I p2), (4, ax_I p3)]) (Nat.le_of_ble_eq_true rfl) rfl ?_
  intro Z ad B hin _ _ hn hR hE
  have hag : ∀ a, a ∉ ([] : List Nat) → ad a = ad a := fun _ _ => rfl
  unfold f_V_unseal at hf
  refine ax_aload_n B d_V_unseal_0 rfl (j := 0) rfl ?_
  refine ax_iload_n B d_V_unseal_1 rfl (j := 1) rfl ?_
  refine ax_cVV B hR (as := [ax_I p0]) (V := fun q => ax_O q.1) (N := fun q => q.2) d_V_unseal_2 l_V_164 m_V_auctionAt hf (fun q h => c_V_auctionAt _ _ _ _ _ h) rfl rfl (by decide) (by decide) (by decide) (by decide) (Nat.le_of_ble_eq_true rfl) (fun q1 hf => ?_)
  refine ax_astore B (lv' := [(5, ax_O q1.1), (0, ax_O x0), (1, ax_I p0), (2, ax_I p1), (3, ax_I p2), (4, ax_I p3)]) d_V_unseal_5 (by rw [hn]; decide) rfl ?_
  refine ax_aload B (j := 0) d_V_unseal_7 rfl ?_
  refine ax_ifnull B (tgt := 20) d_V_unseal_9 (by decide) hf (fun hf => ?_) (fun hf => ?_)
  · refine ax_sub [] rfl ?_
    exact K_V_unseal_20 B hn hR hE hag q1.2 hf
  · refine ax_aload_n B d_V_unseal_12 rfl (j := 1) rfl ?_
    refine ax_iload_n B d_V_unseal_13 rfl (j := 3) rfl ?_
    refine ax_cVV B hR (as := [ax_I p1]) (V := fun q => ax_I q.1) (N := fun q => q.2) d_V_unseal_14 l_V_53 m_V_isNoAccount hf (fun q h => c_V_isNoAccount _ _ _ _ _ h) rfl rfl (by decide) (by decide) (by decide) (by decide) (Nat.le_of_ble_eq_true rfl) (fun q2 hf => ?_)
    refine ax_if_eq B (tgt := 22) d_V_unseal_17 (by decide) hf (fun hf => ?_) (fun hf => ?_)
    · refine ax_iload_n B d_V_unseal_22 rfl (j := 4) rfl ?_
      refine ax_aload B (j := 0) d_V_unseal_23 rfl ?_
      refine ax_getI B d_V_unseal_25 k_V_171 rfl hf (fun x3 hf => ?_)
      refine ax_ldc B (v := 1000000) n_V_48 d_V_unseal_28 ?_
      refine ax_cSV B hR (as := [ax_I p2, ax_I x3, ax_I 1000000]) (V := fun q => ax_I q.1) (N := fun q => q.2) d_V_unseal_30 l_V_44 m_V_isOutside hf (fun q h => c_V_isOutside _ _ _ _ _ _ h) rfl rfl (by decide) (by decide) (by decide) (by decide) (Nat.le_of_ble_eq_true rfl) (fun q4 hf => ?_)
      refine ax_if_eq B (tgt := 39) d_V_unseal_33 (by decide) hf (fun hf => ?_) (fun hf => ?_)
      · refine ax_aload B (j := 0) d_V_unseal_39 rfl ?_
        refine ax_cVV B hR (as := []) (V := fun q => ax_I q.1) (N := fun q => q.2) d_V_unseal_41 l_V_211 m_A_isSealed hf (fun q h => c_A_isSealed _ _ _ _ h) rfl rfl (by decide) (by decide) (by decide) (by decide) (Nat.le_of_ble_eq_true rfl) (fun q5 hf => ?_)
        refine ax_if_eq B (tgt := 71) d_V_unseal_44 (by decide) hf (fun hf => ?_) (fun hf => ?_)
        · refine ax_sub [] rfl ?_
          exact K_V_unseal_71 B hn hR hE hag q5.2 hf
        · refine ax_aload_n B d_V_unseal_47 rfl (j := 1) rfl ?_
          refine ax_getI B d_V_unseal_48 k_V_66 rfl hf (fun x6 hf => ?_)
          refine ax_aload B (j := 0) d_V_unseal_51 rfl ?_
          refine ax_getI B d_V_unseal_53 k_V_214 rfl hf (fun x7 hf => ?_)
          refine ax_icmp_lt B (tgt := 71) d_V_unseal_56 (by decide) hf (fun hf => ?_) (fun hf => ?_)
          · refine ax_sub [] rfl ?_
            exact K_V_unseal_71 B hn hR hE hag q5.2 hf
          · refine ax_aload_n B d_V_unseal_59 rfl (j := 1) rfl ?_
            refine ax_getI B d_V_unseal_60 k_V_66 rfl hf (fun x8 hf => ?_)
            refine ax_aload B (j := 0) d_V_unseal_63 rfl ?_
            refine ax_getI B d_V_unseal_65 k_V_175 rfl hf (fun x9 hf => ?_)
            refine ax_icmp_lt B (tgt := 74) d_V_unseal_68 (by decide) hf (fun hf => ?_) (fun hf => ?_)
            · refine ax_aload B (j := 0) d_V_unseal_74 rfl ?_
              refine ax_getR B d_V_unseal_76 k_V_208 rfl hf (fun x10 hf => ?_)
              refine ax_iload_n B d_V_unseal_79 rfl (j := 3) rfl ?_
              refine ax_iald B d_V_unseal_80 (t := 0) (by decide) rfl hf (fun x11 hf => ?_)
              refine ax_if_eq B (tgt := 132) d_V_unseal_81 (by decide) hf (fun hf => ?_) (fun hf => ?_)
              · refine ax_sub [] rfl ?_
                exact K_V_unseal_132 B hn hR hE hag q5.2 hf
              · refine ax_aload B (j := 0) d_V_unseal_84 rfl ?_
                refine ax_getR B d_V_unseal_86 k_V_201 rfl hf (fun x12 hf => ?_)
                refine ax_iload_n B d_V_unseal_89 rfl (j := 3) rfl ?_
                refine ax_iald B d_V_unseal_90 (t := 0) (by decide) rfl hf (fun x13 hf => ?_)
                refine ax_if_ne B (tgt := 132) d_V_unseal_91 (by decide) hf (fun hf => ?_) (fun hf => ?_)
                · refine ax_aload B (j := 0) d_V_unseal_94 rfl ?_
                  refine ax_getR B d_V_unseal_96 k_V_215 rfl hf (fun x14 hf => ?_)
                  refine ax_iload_n B d_V_unseal_99 rfl (j := 3) rfl ?_
                  refine ax_lald B d_V_unseal_100 (t := 1) (by decide) rfl hf (fun x15 hf => ?_)
                  refine ax_aload_n B d_V_unseal_101 rfl (j := 1) rfl ?_
                  refine ax_iload_n B d_V_unseal_102 rfl (j := 3) rfl ?_
                  refine ax_iload_n B d_V_unseal_103 rfl (j := 4) rfl ?_
                  refine ax_iload B (j := 5) d_V_unseal_104 rfl ?_
                  refine ax_cVV B hR (as := [ax_I p1, ax_I p2, ax_I p3]) (V := fun q => ax_L q.1) (N := fun q => q.2) d_V_unseal_106 l_V_129 m_V_mark hf (fun q h => c_V_mark _ _ _ _ _ _ _ h) rfl rfl (by decide) (by decide) (by decide) (by decide) (Nat.le_of_ble_eq_true rfl) (fun q16 hf => ?_)
                  refine ax_lcmp B d_V_unseal_109 ?_
                  refine ax_if_ne B (tgt := 132) d_V_unseal_110 (by decide) hf (fun hf => ?_) (fun hf => ?_)
                  · refine ax_aload_n B d_V_unseal_113 rfl (j := 1) rfl ?_
                    refine ax_getR B d_V_unseal_114 k_V_13 rfl hf (fun x17 hf => ?_)
                    refine ax_iload_n B d_V_unseal_117 rfl (j := 3) rfl ?_
                    refine ax_lald B d_V_unseal_118 (t := 1) (by decide) rfl hf (fun x18 hf => ?_)
                    refine ax_aload B (j := 0) d_V_unseal_119 rfl ?_
                    refine ax_getI B d_V_unseal_121 k_V_171 rfl hf (fun x19 hf => ?_)
                    refine ax_i2l B d_V_unseal_124 ?_
                    refine ax_ladd B d_V_unseal_125 ?_
                    refine ax_iload_n B d_V_unseal_126 rfl (j := 4) rfl ?_
                    refine ax_i2l B d_V_unseal_127 ?_
                    refine ax_lcmp B d_V_unseal_128 ?_
                    refine ax_if_ge B (tgt := 135) d_V_unseal_129 (by decide) hf (fun hf => ?_) (fun hf => ?_)
                    · refine ax_aload_n B d_V_unseal_135 rfl (j := 1) rfl ?_
                      refine ax_iload_n B d_V_unseal_136 rfl (j := 3) rfl ?_
                      refine ax_aload B (j := 0) d_V_unseal_137 rfl ?_
                      refine ax_getI B d_V_unseal_139 k_V_171 rfl hf (fun x20 hf => ?_)
                      refine ax_i2l B d_V_unseal_142 ?_
                      refine ax_cVN B hR (as := [ax_I p1, ax_L (x20.toInt64)]) (N := fun q => q) d_V_unseal_143 l_V_216 m_V_giveBack hf (fun q h => c_V_giveBack _ _ _ _ _ _ h) rfl rfl (by decide) (by decide) (by decide) (by decide) (Nat.le_of_ble_eq_true rfl) (fun q21 hf => ?_)
                      refine ax_aload_n B d_V_unseal_146 rfl (j := 1) rfl ?_
                      refine ax_iload_n B d_V_unseal_147 rfl (j := 3) rfl ?_
                      refine ax_iload_n B d_V_unseal_148 rfl (j := 4) rfl ?_
                      refine ax_i2l B d_V_unseal_149 ?_
                      refine ax_cVN B hR (as := [ax_I p1, ax_L (p2.toInt64)]) (N := fun q => q) d_V_unseal_150 l_V_204 m_V_setAside hf (fun q h => c_V_setAside _ _ _ _ _ _ h) rfl rfl (by decide) (by decide) (by decide) (by decide) (Nat.le_of_ble_eq_true rfl) (fun q22 hf => ?_)
                      refine ax_aload B (j := 0) d_V_unseal_153 rfl ?_
                      refine ax_getR B d_V_unseal_155 k_V_198 rfl hf (fun x23 hf => ?_)
                      refine ax_iload_n B d_V_unseal_158 rfl (j := 3) rfl ?_
                      refine ax_iconst B (v := 1) (by decide) d_V_unseal_159 ?_
                      refine ax_iast B d_V_unseal_160 (t := 0) (by decide) rfl hf (fun M24 hf => ?_)
                      refine ax_aload B (j := 0) d_V_unseal_161 rfl ?_
                      refine ax_getR B d_V_unseal_163 k_V_201 rfl hf (fun x25 hf => ?_)
                      refine ax_iload_n B d_V_unseal_166 rfl (j := 3) rfl ?_
                      refine ax_iload_n B d_V_unseal_167 rfl (j := 4) rfl ?_
                      refine ax_iast B d_V_unseal_168 (t := 0) (by decide) rfl hf (fun M26 hf => ?_)
                      refine ax_iconst B (v := 1) (by decide) d_V_unseal_169 ?_
                      exact ax_ireturn B hE d_V_unseal_170 hf rfl hag (by decide) (by decide)
                    · refine ax_sub [] rfl ?_
                      exact K_V_unseal_132 B hn hR hE hag q16.2 hf
                  · refine ax_sub [] rfl ?_
                    exact K_V_unseal_132 B hn hR hE hag q16.2 hf
                · refine ax_sub [] rfl ?_
                  exact K_V_unseal_132 B hn hR hE hag q5.2 hf
            · refine ax_sub [] rfl ?_
              exact K_V_unseal_71 B hn hR hE hag q5.2 hf
      · refine ax_bipush B (v := (-2)) (by decide) d_V_unseal_36 ?_
        exact ax_ireturn B hE d_V_unseal_38 hf rfl hag (by decide) (by decide)
    · refine ax_sub [] rfl ?_
      exact K_V_unseal_20 B hn hR hE hag q2.2 hf
def f_V_fallingPrice (M : ax_M) (x0 : Option Nat) (p0 : Option Nat) : Option (Int32 × ax_M) := (ax_gi M 2 2 p0).bind (fun x1 => (ax_gi M 2 3 p0).bind (fun x2 => (ax_gi M 2 5 p0).bind (fun x3 => (ax_gi M 0 0 x0).bind (fun x4 => some ((x1 + (x2 * (x3 - x4))), M)))))
set_option maxRecDepth 100000 in
set_option maxHeartbeats 4000000 in
theorem c_V_fallingPrice (l : Launch) (G : ax_G) (M : ax_M) (x0 : Option Nat) (p0 : Option Nat) {q : Int32 × ax_M} (hf : f_V_fallingPrice M x0 p0 = some q) : ax_C l G y_V_fallingPrice b_V_fallingPrice 2 (some .int) [] 0 0 0 [ax_O x0, ax_O p0] M (some (ax_I q.1)) q.2 := by
  refine ax_ofW (by decide +kernel) (lv0 := [(0, ax_O x0), (1, ax_O p0)]) (Nat.le_of_ble_eq_true rfl) rfl ?_
  intro Z ad B hin _ _ hn hR hE
  have hag : ∀ a, a ∉ ([] : List Nat) → ad a = ad a := fun _ _ => rfl
  unfold f_V_fallingPrice at hf
  refine ax_aload_n B d_V_fallingPrice_0 rfl (j := 1) rfl ?_
  refine ax_getI B d_V_fallingPrice_1 k_V_171 rfl hf (fun x1 hf => ?_)
  refine ax_aload_n B d_V_fallingPrice_4 rfl (j := 1) rfl ?_
  refine ax_getI B d_V_fallingPrice_5 k_V_279 rfl hf (fun x2 hf => ?_)
  refine ax_aload_n B d_V_fallingPrice_8 rfl (j := 1) rfl ?_
  refine ax_getI B d_V_fallingPrice_9 k_V_175 rfl hf (fun x3 hf => ?_)
  refine ax_aload_n B d_V_fallingPrice_12 rfl (j := 0) rfl ?_
  refine ax_getI B d_V_fallingPrice_13 k_V_66 rfl hf (fun x4 hf => ?_)
  refine ax_isub B d_V_fallingPrice_16 ?_
  refine ax_imul B d_V_fallingPrice_17 ?_
  refine ax_iadd B d_V_fallingPrice_18 ?_
  exact ax_ireturn B hE d_V_fallingPrice_19 hf rfl hag (by decide) (by decide)
def G_V_take_18  (M : ax_M)  : Option (Int32 × ax_M) := some ((-1), M)
set_option maxRecDepth 100000 in
set_option maxHeartbeats 4000000 in
theorem K_V_take_18 {Z : ax_Z} {ad0 ad : Nat → Nat} {q : Int32 × ax_M} (B : ax_B Z "VoteAuctions" b_V_take (some .int)) (hn : Z.2.2.2.2.2.2.2.2.2.2.2.1 = 5) (hR : ax_R Z 2 0 0) (hE : ax_E Z ad0 [] 0 0 (some (ax_I q.1)) q.2) (hag : ∀ a, a ∉ ([] : List Nat) → ad a = ad0 a)   : ∀ (M : ax_M) , G_V_take_18  M  = some q → ax_W Z ad 0 0 18 [] [] M := by
  intro M  hf
  unfold G_V_take_18 at hf
  refine ax_iconst B (v := (-1)) (by decide) d_V_take_18 ?_
  exact ax_ireturn B hE d_V_take_19 hf rfl hag (by decide) (by decide)
def G_V_take_46  (M : ax_M)  : Option (Int32 × ax_M) := some ((-3), M)
set_option maxRecDepth 100000 in
set_option maxHeartbeats 4000000 in
theorem K_V_take_46 {Z : ax_Z} {ad0 ad : Nat → Nat} {q : Int32 × ax_M} (B : ax_B Z "VoteAuctions" b_V_take (some .int)) (hn : Z.2.2.2.2.2.2.2.2.2.2.2.1 = 5) (hR : ax_R Z 2 0 0) (hE : ax_E Z ad0 [] 0 0 (some (ax_I q.1)) q.2) (hag : ∀ a, a ∉ ([] : List Nat) → ad a = ad0 a)   : ∀ (M : ax_M) , G_V_take_46  M  = some q → ax_W Z ad 0 0 46 [] [] M := by
  intro M  hf
  unfold G_V_take_46 at hf
  refine ax_bipush B (v := (-3)) (by decide) d_V_take_46 ?_
  exact ax_ireturn B hE d_V_take_48 hf rfl hag (by decide) (by decide)
def f_V_take (M : ax_M) (x0 : Option Nat) (p0 : Int32) (p1 : Int32) : Option (Int32 × ax_M) := (ax_ob M 0 x0).bind (fun _ => (f_V_auctionAt M x0 p0).bind (fun q1 => if q1.1 = none then G_V_take_18 q1.2 else (ax_ob q1.2 0 x0).bind (fun _ => (f_V_isNoAccount q1.2 x0 p1).bind (fun q2 => if q2.1 = 0 then (ax_gi q2.2 2 0 q1.1).bind (fun x3 => if x3 = 3 then (ax_gi q2.2 2 13 q1.1).bind (fun x4 => if x4 = 0 then (ax_gi q2.2 0 0 x0).bind (fun x5 => (ax_gi q2.2 2 5 q1.1).bind (fun x6 => if x5 < x6 then (ax_ob q2.2 0 x0).bind (fun _ => (f_V_fallingPrice q2.2 x0 q1.1).bind (fun q7 => (ax_gr q7.2 0 4 x0).bind (fun x8 => (ax_rl q7.2 1 x8 p1).bind (fun x9 => if 0 ≤ (lg_cmp x9 (q7.1.toInt64)) then (ax_ob q7.2 0 x0).bind (fun _ => (f_V_setAside q7.2 x0 p1 (q7.1.toInt64)).bind (fun q10 => (ax_ob q10 0 x0).bind (fun _ => (f_V_payAside q10 x0 p1 (q7.1.toInt64)).bind (fun q11 => (ax_gr q11 2 10 q1.1).bind (fun x12 => (ax_ti q11 0 x12 p1 1).bind (fun M13 => (ax_pi M13 2 13 q1.1 q7.1).bind (fun M14 => some (q7.1, M14)))))))) else some ((-3), q7.2))))) else G_V_take_46 q2.2)) else G_V_take_46 q2.2) else G_V_take_46 q2.2) else G_V_take_18 q2.2))))
set_option maxRecDepth 100000 in
set_option maxHeartbeats 4000000 in
theorem c_V_take (l : Launch) (G : ax_G) (M : ax_M) (x0 : Option Nat) (p0 : Int32) (p1 : Int32) {q : Int32 × ax_M} (hf : f_V_take M x0 p0 p1 = some q) : ax_C l G y_V_take b_V_take 5 (some .int) [] 2 0 0 [ax_O x0, ax_I p0, ax_I p1] M (some (ax_I q.1)) q.2 := by
  refine ax_ofW (by decide +kernel) (lv0 := [(0, ax_O x0), (1, ax_I p0), (2, ax_I p1)]) (Nat.le_of_ble_eq_true rfl) rfl ?_
  intro Z ad B hin _ _ hn hR hE
  have hag : ∀ a, a ∉ ([] : List Nat) → ad a = ad a := fun _ _ => rfl
  unfold f_V_take at hf
  refine ax_aload_n B d_V_take_0 rfl (j := 0) rfl ?_
  refine ax_iload_n B d_V_take_1 rfl (j := 1) rfl ?_
  refine ax_cVV B hR (as := [ax_I p0]) (V := fun q => ax_O q.1) (N := fun q => q.2) d_V_take_2 l_V_164 m_V_auctionAt hf (fun q h => c_V_auctionAt _ _ _ _ _ h) rfl rfl (by decide) (by decide) (by decide) (by decide) (Nat.le_of_ble_eq_true rfl) (fun q1 hf => ?_)
  refine ax_astore_n B (lv' := [(3, ax_O q1.1), (0, ax_O x0), (1, ax_I p0), (2, ax_I p1)]) d_V_take_5 rfl (by rw [hn]; decide) rfl ?_
  refine ax_aload_n B d_V_take_6 rfl (j := 0) rfl ?_
  refine ax_ifnull B (tgt := 18) d_V_take_7 (by decide) hf (fun hf => ?_) (fun hf => ?_)
  · refine ax_sub [] rfl ?_
    exact K_V_take_18 B hn hR hE hag q1.2 hf
  · refine ax_aload_n B d_V_take_10 rfl (j := 1) rfl ?_
    refine ax_iload_n B d_V_take_11 rfl (j := 3) rfl ?_
    refine ax_cVV B hR (as := [ax_I p1]) (V := fun q => ax_I q.1) (N := fun q => q.2) d_V_take_12 l_V_53 m_V_isNoAccount hf (fun q h => c_V_isNoAccount _ _ _ _ _ h) rfl rfl (by decide) (by decide) (by decide) (by decide) (Nat.le_of_ble_eq_true rfl) (fun q2 hf => ?_)
    refine ax_if_eq B (tgt := 20) d_V_take_15 (by decide) hf (fun hf => ?_) (fun hf => ?_)
    · refine ax_aload_n B d_V_take_20 rfl (j := 0) rfl ?_
      refine ax_getI B d_V_take_21 k_V_174 rfl hf (fun x3 hf => ?_)
      refine ax_iconst B (v := 3) (by decide) d_V_take_24 ?_
      refine ax_icmp_ne B (tgt := 46) d_V_take_25 (by decide) hf (fun hf => ?_) (fun hf => ?_)
      · refine ax_aload_n B d_V_take_28 rfl (j := 0) rfl ?_
        refine ax_getI B d_V_take_29 k_V_191 rfl hf (fun x4 hf => ?_)
        refine ax_if_ne B (tgt := 46) d_V_take_32 (by decide) hf (fun hf => ?_) (fun hf => ?_)
        · refine ax_aload_n B d_V_take_35 rfl (j := 1) rfl ?_
          refine ax_getI B d_V_take_36 k_V_66 rfl hf (fun x5 hf => ?_)
          refine ax_aload_n B d_V_take_39 rfl (j := 0) rfl ?_
          refine ax_getI B d_V_take_40 k_V_175 rfl hf (fun x6 hf => ?_)
          refine ax_icmp_lt B (tgt := 49) d_V_take_43 (by decide) hf (fun hf => ?_) (fun hf => ?_)
          · refine ax_aload_n B d_V_take_49 rfl (j := 1) rfl ?_
            refine ax_aload_n B d_V_take_50 rfl (j := 0) rfl ?_
            refine ax_cVV B hR (as := [ax_O q1.1]) (V := fun q => ax_I q.1) (N := fun q => q.2) d_V_take_51 l_V_219 m_V_fallingPrice hf (fun q h => c_V_fallingPrice _ _ _ _ _ h) rfl rfl (by decide) (by decide) (by decide) (by decide) (Nat.le_of_ble_eq_true rfl) (fun q7 hf => ?_)
            refine ax_istore B (lv' := [(4, ax_I q7.1), (3, ax_O q1.1), (0, ax_O x0), (1, ax_I p0), (2, ax_I p1)]) d_V_take_54 (by rw [hn]; decide) rfl ?_
            refine ax_aload_n B d_V_take_56 rfl (j := 2) rfl ?_
            refine ax_getR B d_V_take_57 k_V_13 rfl hf (fun x8 hf => ?_)
            refine ax_iload_n B d_V_take_60 rfl (j := 4) rfl ?_
            refine ax_lald B d_V_take_61 (t := 1) (by decide) rfl hf (fun x9 hf => ?_)
            refine ax_iload B (j := 0) d_V_take_62 rfl ?_
            refine ax_i2l B d_V_take_64 ?_
            refine ax_lcmp B d_V_take_65 ?_
            refine ax_if_ge B (tgt := 72) d_V_take_66 (by decide) hf (fun hf => ?_) (fun hf => ?_)
            · refine ax_aload_n B d_V_take_72 rfl (j := 2) rfl ?_
              refine ax_iload_n B d_V_take_73 rfl (j := 4) rfl ?_
              refine ax_iload B (j := 0) d_V_take_74 rfl ?_
              refine ax_i2l B d_V_take_76 ?_
              refine ax_cVN B hR (as := [ax_I p1, ax_L (q7.1.toInt64)]) (N := fun q => q) d_V_take_77 l_V_204 m_V_setAside hf (fun q h => c_V_setAside _ _ _ _ _ _ h) rfl rfl (by decide) (by decide) (by decide) (by decide) (Nat.le_of_ble_eq_true rfl) (fun q10 hf => ?_)
              refine ax_aload_n B d_V_take_80 rfl (j := 2) rfl ?_
              refine ax_iload_n B d_V_take_81 rfl (j := 4) rfl ?_
              refine ax_iload B (j := 0) d_V_take_82 rfl ?_
              refine ax_i2l B d_V_take_84 ?_
              refine ax_cVN B hR (as := [ax_I p1, ax_L (q7.1.toInt64)]) (N := fun q => q) d_V_take_85 l_V_223 m_V_payAside hf (fun q h => c_V_payAside _ _ _ _ _ _ h) rfl rfl (by decide) (by decide) (by decide) (by decide) (Nat.le_of_ble_eq_true rfl) (fun q11 hf => ?_)
              refine ax_aload_n B d_V_take_88 rfl (j := 1) rfl ?_
              refine ax_getR B d_V_take_89 k_V_226 rfl hf (fun x12 hf => ?_)
              refine ax_iload_n B d_V_take_92 rfl (j := 4) rfl ?_
              refine ax_iconst B (v := 1) (by decide) d_V_take_93 ?_
              refine ax_iast B d_V_take_94 (t := 0) (by decide) rfl hf (fun M13 hf => ?_)
              refine ax_aload_n B d_V_take_95 rfl (j := 1) rfl ?_
              refine ax_iload B (j := 0) d_V_take_96 rfl ?_
              refine ax_putI B d_V_take_98 k_V_191 rfl rfl rfl rfl hf (fun M14 hf => ?_)
              refine ax_iload B (j := 0) d_V_take_101 rfl ?_
              exact ax_ireturn B hE d_V_take_103 hf rfl hag (by decide) (by decide)
            · refine ax_bipush B (v := (-3)) (by decide) d_V_take_69 ?_
              exact ax_ireturn B hE d_V_take_71 hf rfl hag (by decide) (by decide)
          · refine ax_sub [] rfl ?_
            exact K_V_take_46 B hn hR hE hag q2.2 hf
        · refine ax_sub [] rfl ?_
          exact K_V_take_46 B hn hR hE hag q2.2 hf
      · refine ax_sub [] rfl ?_
        exact K_V_take_46 B hn hR hE hag q2.2 hf
    · refine ax_sub [] rfl ?_
      exact K_V_take_18 B hn hR hE hag q2.2 hf
def G_V_price_53  (M : ax_M) (s0 : Int32) : Option (Int32 × ax_M) := some (s0, M)
set_option maxRecDepth 100000 in
set_option maxHeartbeats 4000000 in
theorem K_V_price_53 {Z : ax_Z} {ad0 ad : Nat → Nat} {q : Int32 × ax_M} (B : ax_B Z "VoteAuctions" b_V_price (some .int)) (hn : Z.2.2.2.2.2.2.2.2.2.2.2.1 = 3) (hR : ax_R Z 2 0 0) (hE : ax_E Z ad0 [] 0 0 (some (ax_I q.1)) q.2) (hag : ∀ a, a ∉ ([] : List Nat) → ad a = ad0 a)   : ∀ (M : ax_M) (s0 : Int32), G_V_price_53  M s0 = some q → ax_W Z ad 0 0 53 [] [ax_I s0] M := by
  intro M s0 hf
  unfold G_V_price_53 at hf
  exact ax_ireturn B hE d_V_price_53 hf rfl hag (by decide) (by decide)
def G_V_price_51  (M : ax_M)  : Option (Int32 × ax_M) := G_V_price_53 M (-3)
set_option maxRecDepth 100000 in
set_option maxHeartbeats 4000000 in
theorem K_V_price_51 {Z : ax_Z} {ad0 ad : Nat → Nat} {q : Int32 × ax_M} (B : ax_B Z "VoteAuctions" b_V_price (some .int)) (hn : Z.2.2.2.2.2.2.2.2.2.2.2.1 = 3) (hR : ax_R Z 2 0 0) (hE : ax_E Z ad0 [] 0 0 (some (ax_I q.1)) q.2) (hag : ∀ a, a ∉ ([] : List Nat) → ad a = ad0 a)   : ∀ (M : ax_M) , G_V_price_51  M  = some q → ax_W Z ad 0 0 51 [] [] M := by
  intro M  hf
  unfold G_V_price_51 at hf
  refine ax_bipush B (v := (-3)) (by decide) d_V_price_51 ?_
  exact K_V_price_53 B hn hR hE hag M (-3) hf
def f_V_price (M : ax_M) (x0 : Option Nat) (p0 : Int32) : Option (Int32 × ax_M) := (ax_ob M 0 x0).bind (fun _ => (f_V_auctionAt M x0 p0).bind (fun q1 => if q1.1 = none then some ((-1), q1.2) else (ax_gi q1.2 2 13 q1.1).bind (fun x2 => if x2 = 0 then (ax_gi q1.2 2 0 q1.1).bind (fun x3 => if x3 = 3 then (ax_gi q1.2 0 0 x0).bind (fun x4 => (ax_gi q1.2 2 5 q1.1).bind (fun x5 => if x5 ≤ x4 then G_V_price_51 q1.2 else (ax_ob q1.2 0 x0).bind (fun _ => (f_V_fallingPrice q1.2 x0 q1.1).bind (fun q6 => G_V_price_53 q6.2 q6.1)))) else G_V_price_51 q1.2) else (ax_gi q1.2 2 13 q1.1).bind (fun x7 => some (x7, q1.2)))))
set_option maxRecDepth 100000 in
set_option maxHeartbeats 4000000 in
theorem c_V_price (l : Launch) (G : ax_G) (M : ax_M) (x0 : Option Nat) (p0 : Int32) {q : Int32 × ax_M} (hf : f_V_price M x0 p0 = some q) : ax_C l G y_V_price b_V_price 3 (some .int) [] 2 0 0 [ax_O x0, ax_I p0] M (some (ax_I q.1)) q.2 := by
  refine ax_ofW (by decide +kernel) (lv0 := [(0, ax_O x0), (1, ax_I p0)]) (Nat.le_of_ble_eq_true rfl) rfl ?_
  intro Z ad B hin _ _ hn hR hE
  have hag : ∀ a, a ∉ ([] : List Nat) → ad a = ad a := fun _ _ => rfl
  unfold f_V_price at hf
  refine ax_aload_n B d_V_price_0 rfl (j := 0) rfl ?_
  refine ax_iload_n B d_V_price_1 rfl (j := 1) rfl ?_
  refine ax_cVV B hR (as := [ax_I p0]) (V := fun q => ax_O q.1) (N := fun q => q.2) d_V_price_2 l_V_164 m_V_auctionAt hf (fun q h => c_V_auctionAt _ _ _ _ _ h) rfl rfl (by decide) (by decide) (by decide) (by decide) (Nat.le_of_ble_eq_true rfl) (fun q1 hf => ?_)
  refine ax_astore_n B (lv' := [(2, ax_O q1.1), (0, ax_O x0), (1, ax_I p0)]) d_V_price_5 rfl (by rw [hn]; decide) rfl ?_
  refine ax_aload_n B d_V_price_6 rfl (j := 0) rfl ?_
  refine ax_ifnonnull B (tgt := 12) d_V_price_7 (by decide) hf (fun hf => ?_) (fun hf => ?_)
  · refine ax_iconst B (v := (-1)) (by decide) d_V_price_10 ?_
    exact ax_ireturn B hE d_V_price_11 hf rfl hag (by decide) (by decide)
  · refine ax_aload_n B d_V_price_12 rfl (j := 0) rfl ?_
    refine ax_getI B d_V_price_13 k_V_191 rfl hf (fun x2 hf => ?_)
    refine ax_if_eq B (tgt := 24) d_V_price_16 (by decide) hf (fun hf => ?_) (fun hf => ?_)
    · refine ax_aload_n B d_V_price_24 rfl (j := 0) rfl ?_
      refine ax_getI B d_V_price_25 k_V_174 rfl hf (fun x3 hf => ?_)
      refine ax_iconst B (v := 3) (by decide) d_V_price_28 ?_
      refine ax_icmp_ne B (tgt := 51) d_V_price_29 (by decide) hf (fun hf => ?_) (fun hf => ?_)
      · refine ax_aload_n B d_V_price_32 rfl (j := 1) rfl ?_
        refine ax_getI B d_V_price_33 k_V_66 rfl hf (fun x4 hf => ?_)
        refine ax_aload_n B d_V_price_36 rfl (j := 0) rfl ?_
        refine ax_getI B d_V_price_37 k_V_175 rfl hf (fun x5 hf => ?_)
        refine ax_icmp_ge B (tgt := 51) d_V_price_40 (by decide) hf (fun hf => ?_) (fun hf => ?_)
        · refine ax_sub [] rfl ?_
          exact K_V_price_51 B hn hR hE hag q1.2 hf
        · refine ax_aload_n B d_V_price_43 rfl (j := 1) rfl ?_
          refine ax_aload_n B d_V_price_44 rfl (j := 0) rfl ?_
          refine ax_cVV B hR (as := [ax_O q1.1]) (V := fun q => ax_I q.1) (N := fun q => q.2) d_V_price_45 l_V_219 m_V_fallingPrice hf (fun q h => c_V_fallingPrice _ _ _ _ _ h) rfl rfl (by decide) (by decide) (by decide) (by decide) (Nat.le_of_ble_eq_true rfl) (fun q6 hf => ?_)
          refine ax_goto B (tgt := 53) d_V_price_48 (by decide) ?_
          refine ax_sub [] rfl ?_
          exact K_V_price_53 B hn hR hE hag q6.2 q6.1 hf
      · refine ax_sub [] rfl ?_
        exact K_V_price_51 B hn hR hE hag q1.2 hf
    · refine ax_aload_n B d_V_price_19 rfl (j := 0) rfl ?_
      refine ax_getI B d_V_price_20 k_V_191 rfl hf (fun x7 hf => ?_)
      exact ax_ireturn B hE d_V_price_23 hf rfl hag (by decide) (by decide)
def G_V_won_18  (M : ax_M)  : Option (Int32 × ax_M) := some ((-1), M)
set_option maxRecDepth 100000 in
set_option maxHeartbeats 4000000 in
theorem K_V_won_18 {Z : ax_Z} {ad0 ad : Nat → Nat} {q : Int32 × ax_M} (B : ax_B Z "VoteAuctions" b_V_won (some .int)) (hn : Z.2.2.2.2.2.2.2.2.2.2.2.1 = 4) (hR : ax_R Z 2 0 0) (hE : ax_E Z ad0 [] 0 0 (some (ax_I q.1)) q.2) (hag : ∀ a, a ∉ ([] : List Nat) → ad a = ad0 a)   : ∀ (M : ax_M) , G_V_won_18  M  = some q → ax_W Z ad 0 0 18 [] [] M := by
  intro M  hf
  unfold G_V_won_18 at hf
  refine ax_iconst B (v := (-1)) (by decide) d_V_won_18 ?_
  exact ax_ireturn B hE d_V_won_19 hf rfl hag (by decide) (by decide)
def f_V_won (M : ax_M) (x0 : Option Nat) (p0 : Int32) (p1 : Int32) : Option (Int32 × ax_M) := (ax_ob M 0 x0).bind (fun _ => (f_V_auctionAt M x0 p0).bind (fun q1 => if q1.1 = none then G_V_won_18 q1.2 else (ax_ob q1.2 0 x0).bind (fun _ => (f_V_isNoAccount q1.2 x0 p1).bind (fun q2 => if q2.1 = 0 then (ax_gr q2.2 2 10 q1.1).bind (fun x3 => (ax_ri q2.2 0 x3 p1).bind (fun x4 => some (x4, q2.2))) else G_V_won_18 q2.2))))
set_option maxRecDepth 100000 in
set_option maxHeartbeats 4000000 in
theorem c_V_won (l : Launch) (G : ax_G) (M : ax_M) (x0 : Option Nat) (p0 : Int32) (p1 : Int32) {q : Int32 × ax_M} (hf : f_V_won M x0 p0 p1 = some q) : ax_C l G y_V_won b_V_won 4 (some .int) [] 2 0 0 [ax_O x0, ax_I p0, ax_I p1] M (some (ax_I q.1)) q.2 := by
  refine ax_ofW (by decide +kernel) (lv0 := [(0, ax_O x0), (1, ax_I p0), (2, ax_I p1)]) (Nat.le_of_ble_eq_true rfl) rfl ?_
  intro Z ad B hin _ _ hn hR hE
  have hag : ∀ a, a ∉ ([] : List Nat) → ad a = ad a := fun _ _ => rfl
  unfold f_V_won at hf
  refine ax_aload_n B d_V_won_0 rfl (j := 0) rfl ?_
  refine ax_iload_n B d_V_won_1 rfl (j := 1) rfl ?_
  refine ax_cVV B hR (as := [ax_I p0]) (V := fun q => ax_O q.1) (N := fun q => q.2) d_V_won_2 l_V_164 m_V_auctionAt hf (fun q h => c_V_auctionAt _ _ _ _ _ h) rfl rfl (by decide) (by decide) (by decide) (by decide) (Nat.le_of_ble_eq_true rfl) (fun q1 hf => ?_)
  refine ax_astore_n B (lv' := [(3, ax_O q1.1), (0, ax_O x0), (1, ax_I p0), (2, ax_I p1)]) d_V_won_5 rfl (by rw [hn]; decide) rfl ?_
  refine ax_aload_n B d_V_won_6 rfl (j := 0) rfl ?_
  refine ax_ifnull B (tgt := 18) d_V_won_7 (by decide) hf (fun hf => ?_) (fun hf => ?_)
  · refine ax_sub [] rfl ?_
    exact K_V_won_18 B hn hR hE hag q1.2 hf
  · refine ax_aload_n B d_V_won_10 rfl (j := 1) rfl ?_
    refine ax_iload_n B d_V_won_11 rfl (j := 3) rfl ?_
    refine ax_cVV B hR (as := [ax_I p1]) (V := fun q => ax_I q.1) (N := fun q => q.2) d_V_won_12 l_V_53 m_V_isNoAccount hf (fun q h => c_V_isNoAccount _ _ _ _ _ h) rfl rfl (by decide) (by decide) (by decide) (by decide) (Nat.le_of_ble_eq_true rfl) (fun q2 hf => ?_)
    refine ax_if_eq B (tgt := 20) d_V_won_15 (by decide) hf (fun hf => ?_) (fun hf => ?_)
    · refine ax_aload_n B d_V_won_20 rfl (j := 0) rfl ?_
      refine ax_getR B d_V_won_21 k_V_226 rfl hf (fun x3 hf => ?_)
      refine ax_iload_n B d_V_won_24 rfl (j := 3) rfl ?_
      refine ax_iald B d_V_won_25 (t := 0) (by decide) rfl hf (fun x4 hf => ?_)
      exact ax_ireturn B hE d_V_won_26 hf rfl hag (by decide) (by decide)
    · refine ax_sub [] rfl ?_
      exact K_V_won_18 B hn hR hE hag q2.2 hf
