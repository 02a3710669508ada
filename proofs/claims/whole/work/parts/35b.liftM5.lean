def G_M_seal_16  (M : ax_M)  : Option (Int32 × ax_M) := some ((-1), M)
set_option maxRecDepth 100000 in
set_option maxHeartbeats 4000000 in
theorem K_M_seal_16 {Z : ax_Z} {ad0 ad : Nat → Nat} {q : Int32 × ax_M} (B : ax_B Z "VoteAuctionsModel" b_M_seal (some .int)) (hn : Z.2.2.2.2.2.2.2.2.2.2.2.1 = 6) (hR : ax_R Z 1 0 0) (hE : ax_E Z ad0 [] 0 0 (some (ax_I q.1)) q.2) (hag : ∀ a, a ∉ ([] : List Nat) → ad a = ad0 a)   : ∀ (M : ax_M) , G_M_seal_16  M  = some q → ax_W Z ad 0 0 16 [] [] M := by
  intro M  hf
  unfold G_M_seal_16 at hf
  refine ax_iconst B (v := (-1)) (by decide) d_M_seal_16 ?_
  exact ax_ireturn B hE d_M_seal_17 hf rfl hag (by decide) (by decide)
def G_M_seal_86  (M : ax_M)  : Option (Int32 × ax_M) := some ((-3), M)
set_option maxRecDepth 100000 in
set_option maxHeartbeats 4000000 in
theorem K_M_seal_86 {Z : ax_Z} {ad0 ad : Nat → Nat} {q : Int32 × ax_M} (B : ax_B Z "VoteAuctionsModel" b_M_seal (some .int)) (hn : Z.2.2.2.2.2.2.2.2.2.2.2.1 = 6) (hR : ax_R Z 1 0 0) (hE : ax_E Z ad0 [] 0 0 (some (ax_I q.1)) q.2) (hag : ∀ a, a ∉ ([] : List Nat) → ad a = ad0 a)   : ∀ (M : ax_M) , G_M_seal_86  M  = some q → ax_W Z ad 0 0 86 [] [] M := by
  intro M  hf
  unfold G_M_seal_86 at hf
  refine ax_bipush B (v := (-3)) (by decide) d_M_seal_86 ?_
  exact ax_ireturn B hE d_M_seal_88 hf rfl hag (by decide) (by decide)
def G_M_seal_111  (M : ax_M) (v0 : Option Nat) (v3 : Int64) (v5 : Int32) : Option (Int32 × ax_M) := (ax_gr M 3 35 v0).bind (fun x1 => (ax_ti M 2 x1 v5 1).bind (fun M2 => (ax_gr M2 3 39 v0).bind (fun x3 => (ax_tl M2 1 x3 v5 v3).bind (fun M4 => (ax_gr M4 3 38 v0).bind (fun x5 => (ax_gi M4 3 26 v0).bind (fun x6 => (ax_ti M4 0 x5 v5 x6).bind (fun M7 => (ax_gi M7 3 26 v0).bind (fun x8 => (ax_pi M7 3 26 v0 (x8 + 1)).bind (fun M9 => some (1, M9))))))))))
set_option maxRecDepth 100000 in
set_option maxHeartbeats 4000000 in
theorem K_M_seal_111 {Z : ax_Z} {ad0 ad : Nat → Nat} {q : Int32 × ax_M} (B : ax_B Z "VoteAuctionsModel" b_M_seal (some .int)) (hn : Z.2.2.2.2.2.2.2.2.2.2.2.1 = 6) (hR : ax_R Z 1 0 0) (hE : ax_E Z ad0 [] 0 0 (some (ax_I q.1)) q.2) (hag : ∀ a, a ∉ ([] : List Nat) → ad a = ad0 a)   : ∀ (M : ax_M) (v0 : Option Nat) (v3 : Int64) (v5 : Int32), G_M_seal_111  M v0 v3 v5 = some q → ax_W Z ad 0 0 111 [(0, ax_O v0), (3, ax_L v3), (5, ax_I v5)] [] M := by
  intro M v0 v3 v5 hf
  unfold G_M_seal_111 at hf
  refine ax_aload_n B d_M_seal_111 rfl (j := 0) rfl ?_
  refine ax_getR B d_M_seal_112 k_M_96 rfl hf (fun x1 hf => ?_)
  refine ax_iload B (j := 2) d_M_seal_115 rfl ?_
  refine ax_iconst B (v := 1) (by decide) d_M_seal_117 ?_
  refine ax_zast B d_M_seal_118 (t := 2) (by decide) rfl (by decide) hf (fun M2 hf => ?_)
  refine ax_aload_n B d_M_seal_119 rfl (j := 0) rfl ?_
  refine ax_getR B d_M_seal_120 k_M_108 rfl hf (fun x3 hf => ?_)
  refine ax_iload B (j := 2) d_M_seal_123 rfl ?_
  refine ax_lload_n B d_M_seal_125 rfl (j := 1) rfl ?_
  refine ax_last B d_M_seal_126 (t := 1) (by decide) rfl hf (fun M4 hf => ?_)
  refine ax_aload_n B d_M_seal_127 rfl (j := 0) rfl ?_
  refine ax_getR B d_M_seal_128 k_M_105 rfl hf (fun x5 hf => ?_)
  refine ax_iload B (j := 2) d_M_seal_131 rfl ?_
  refine ax_aload_n B d_M_seal_133 rfl (j := 0) rfl ?_
  refine ax_getI B d_M_seal_134 k_M_245 rfl hf (fun x6 hf => ?_)
  refine ax_iast B d_M_seal_137 (t := 0) (by decide) rfl hf (fun M7 hf => ?_)
  refine ax_aload_n B d_M_seal_138 rfl (j := 0) rfl ?_
  refine ax_dup B rfl d_M_seal_139 ?_
  refine ax_getI B d_M_seal_140 k_M_245 rfl hf (fun x8 hf => ?_)
  refine ax_iconst B (v := 1) (by decide) d_M_seal_143 ?_
  refine ax_iadd B d_M_seal_144 ?_
  refine ax_putI B d_M_seal_145 k_M_245 rfl rfl rfl rfl hf (fun M9 hf => ?_)
  refine ax_iconst B (v := 1) (by decide) d_M_seal_148 ?_
  exact ax_ireturn B hE d_M_seal_149 hf rfl hag (by decide) (by decide)
def G_M_seal_89  (M : ax_M) (v0 : Option Nat) (v1 : Int32) (v2 : Int32) (v3 : Int64) (v5 : Int32) : Option (Int32 × ax_M) := (ax_gr M 3 35 v0).bind (fun x1 => (ax_ri M 2 x1 v5).bind (fun x2 => if x2 = 0 then (ax_gr M 3 29 v0).bind (fun x3 => (ax_ri M 0 x3 v1).bind (fun x4 => (ax_ob M 3 v0).bind (fun _ => (f_M_setAside M v0 v2 (x4.toInt64)).bind (fun q5 => G_M_seal_111 q5 v0 v3 v5)))) else G_M_seal_111 M v0 v3 v5))
set_option maxRecDepth 100000 in
set_option maxHeartbeats 4000000 in
theorem K_M_seal_89 {Z : ax_Z} {ad0 ad : Nat → Nat} {q : Int32 × ax_M} (B : ax_B Z "VoteAuctionsModel" b_M_seal (some .int)) (hn : Z.2.2.2.2.2.2.2.2.2.2.2.1 = 6) (hR : ax_R Z 1 0 0) (hE : ax_E Z ad0 [] 0 0 (some (ax_I q.1)) q.2) (hag : ∀ a, a ∉ ([] : List Nat) → ad a = ad0 a)   : ∀ (M : ax_M) (v0 : Option Nat) (v1 : Int32) (v2 : Int32) (v3 : Int64) (v5 : Int32), G_M_seal_89  M v0 v1 v2 v3 v5 = some q → ax_W Z ad 0 0 89 [(0, ax_O v0), (1, ax_I v1), (2, ax_I v2), (3, ax_L v3), (5, ax_I v5)] [] M := by
  intro M v0 v1 v2 v3 v5 hf
  unfold G_M_seal_89 at hf
  refine ax_aload_n B d_M_seal_89 rfl (j := 0) rfl ?_
  refine ax_getR B d_M_seal_90 k_M_96 rfl hf (fun x1 hf => ?_)
  refine ax_iload B (j := 4) d_M_seal_93 rfl ?_
  refine ax_zald B d_M_seal_95 (t := 2) (by decide) rfl hf (fun x2 hf => ?_)
  refine ax_if_ne B (tgt := 111) d_M_seal_96 (by decide) hf (fun hf => ?_) (fun hf => ?_)
  · refine ax_aload_n B d_M_seal_99 rfl (j := 0) rfl ?_
    refine ax_iload_n B d_M_seal_100 rfl (j := 2) rfl ?_
    refine ax_aload_n B d_M_seal_101 rfl (j := 0) rfl ?_
    refine ax_getR B d_M_seal_102 k_M_78 rfl hf (fun x3 hf => ?_)
    refine ax_iload_n B d_M_seal_105 rfl (j := 1) rfl ?_
    refine ax_iald B d_M_seal_106 (t := 0) (by decide) rfl hf (fun x4 hf => ?_)
    refine ax_i2l B d_M_seal_107 ?_
    refine ax_cVN B hR (as := [ax_I v2, ax_L (x4.toInt64)]) (N := fun q => q) d_M_seal_108 l_M_241 m_M_setAside hf (fun q h => c_M_setAside _ _ _ _ _ _ h) rfl rfl (by decide) (by decide) (by decide) (by decide) (Nat.le_of_ble_eq_true rfl) (fun q5 hf => ?_)
    refine ax_sub [0, 3, 4] rfl ?_
    exact K_M_seal_111 B hn hR hE hag q5 v0 v3 v5 hf
  · refine ax_sub [0, 3, 4] rfl ?_
    exact K_M_seal_111 B hn hR hE hag M v0 v3 v5 hf
def G_M_seal_46  (M : ax_M) (v0 : Option Nat) (v1 : Int32) (v2 : Int32) (v3 : Int64) (v5 : Int32) : Option (Int32 × ax_M) := (ax_gi M 3 1 v0).bind (fun x1 => (ax_gr M 3 31 v0).bind (fun x2 => (ax_ri M 0 x2 v1).bind (fun x3 => if x3 ≤ x1 then G_M_seal_86 M else (ax_gr M 3 35 v0).bind (fun x4 => (ax_ri M 2 x4 v5).bind (fun x5 => if x5 = 0 then (ax_gr M 3 5 v0).bind (fun x6 => (ax_rl M 1 x6 v2).bind (fun x7 => (ax_gr M 3 29 v0).bind (fun x8 => (ax_ri M 0 x8 v1).bind (fun x9 => if 0 ≤ (lg_cmp x7 (x9.toInt64)) then G_M_seal_89 M v0 v1 v2 v3 v5 else G_M_seal_86 M)))) else G_M_seal_89 M v0 v1 v2 v3 v5)))))
set_option maxRecDepth 100000 in
set_option maxHeartbeats 4000000 in
theorem K_M_seal_46 {Z : ax_Z} {ad0 ad : Nat → Nat} {q : Int32 × ax_M} (B : ax_B Z "VoteAuctionsModel" b_M_seal (some .int)) (hn : Z.2.2.2.2.2.2.2.2.2.2.2.1 = 6) (hR : ax_R Z 1 0 0) (hE : ax_E Z ad0 [] 0 0 (some (ax_I q.1)) q.2) (hag : ∀ a, a ∉ ([] : List Nat) → ad a = ad0 a)   : ∀ (M : ax_M) (v0 : Option Nat) (v1 : Int32) (v2 : Int32) (v3 : Int64) (v5 : Int32), G_M_seal_46  M v0 v1 v2 v3 v5 = some q → ax_W Z ad 0 0 46 [(0, ax_O v0), (1, ax_I v1), (2, ax_I v2), (3, ax_L v3), (5, ax_I v5)] [] M := by
  intro M v0 v1 v2 v3 v5 hf
  unfold G_M_seal_46 at hf
  refine ax_aload_n B d_M_seal_46 rfl (j := 0) rfl ?_
  refine ax_getI B d_M_seal_47 k_M_156 rfl hf (fun x1 hf => ?_)
  refine ax_aload_n B d_M_seal_50 rfl (j := 0) rfl ?_
  refine ax_getR B d_M_seal_51 k_M_84 rfl hf (fun x2 hf => ?_)
  refine ax_iload_n B d_M_seal_54 rfl (j := 1) rfl ?_
  refine ax_iald B d_M_seal_55 (t := 0) (by decide) rfl hf (fun x3 hf => ?_)
  refine ax_icmp_ge B (tgt := 86) d_M_seal_56 (by decide) hf (fun hf => ?_) (fun hf => ?_)
  · refine ax_sub [] rfl ?_
    exact K_M_seal_86 B hn hR hE hag M hf
  · refine ax_aload_n B d_M_seal_59 rfl (j := 0) rfl ?_
    refine ax_getR B d_M_seal_60 k_M_96 rfl hf (fun x4 hf => ?_)
    refine ax_iload B (j := 4) d_M_seal_63 rfl ?_
    refine ax_zald B d_M_seal_65 (t := 2) (by decide) rfl hf (fun x5 hf => ?_)
    refine ax_if_ne B (tgt := 89) d_M_seal_66 (by decide) hf (fun hf => ?_) (fun hf => ?_)
    · refine ax_aload_n B d_M_seal_69 rfl (j := 0) rfl ?_
      refine ax_getR B d_M_seal_70 k_M_13 rfl hf (fun x6 hf => ?_)
      refine ax_iload_n B d_M_seal_73 rfl (j := 2) rfl ?_
      refine ax_lald B d_M_seal_74 (t := 1) (by decide) rfl hf (fun x7 hf => ?_)
      refine ax_aload_n B d_M_seal_75 rfl (j := 0) rfl ?_
      refine ax_getR B d_M_seal_76 k_M_78 rfl hf (fun x8 hf => ?_)
      refine ax_iload_n B d_M_seal_79 rfl (j := 1) rfl ?_
      refine ax_iald B d_M_seal_80 (t := 0) (by decide) rfl hf (fun x9 hf => ?_)
      refine ax_i2l B d_M_seal_81 ?_
      refine ax_lcmp B d_M_seal_82 ?_
      refine ax_if_ge B (tgt := 89) d_M_seal_83 (by decide) hf (fun hf => ?_) (fun hf => ?_)
      · exact K_M_seal_89 B hn hR hE hag M v0 v1 v2 v3 v5 hf
      · refine ax_sub [] rfl ?_
        exact K_M_seal_86 B hn hR hE hag M hf
    · exact K_M_seal_89 B hn hR hE hag M v0 v1 v2 v3 v5 hf
def f_M_seal (M : ax_M) (x0 : Option Nat) (p0 : Int32) (p1 : Int32) (p2 : Int64) : Option (Int32 × ax_M) := (ax_ob M 3 x0).bind (fun _ => (f_M_isAuction M x0 p0).bind (fun q1 => if q1.1 = 0 then G_M_seal_16 q1.2 else (ax_ob q1.2 3 x0).bind (fun _ => (f_M_isAccount q1.2 x0 p1).bind (fun q2 => if q2.1 = 0 then G_M_seal_16 q2.2 else (some ((8 * p0) + p1)).bind (fun y3 => (ax_gr q2.2 3 27 x0).bind (fun x4 => (ax_ri q2.2 0 x4 p0).bind (fun x5 => if x5 = 1 then G_M_seal_46 q2.2 x0 p0 p1 p2 y3 else (ax_gr q2.2 3 27 x0).bind (fun x6 => (ax_ri q2.2 0 x6 p0).bind (fun x7 => if x7 = 2 then G_M_seal_46 q2.2 x0 p0 p1 p2 y3 else G_M_seal_86 q2.2)))))))))
set_option maxRecDepth 100000 in
set_option maxHeartbeats 4000000 in
theorem c_M_seal (l : Launch) (G : ax_G) (M : ax_M) (x0 : Option Nat) (p0 : Int32) (p1 : Int32) (p2 : Int64) {q : Int32 × ax_M} (hf : f_M_seal M x0 p0 p1 p2 = some q) : ax_C l G y_M_seal b_M_seal 6 (some .int) [] 1 0 0 [ax_O x0, ax_I p0, ax_I p1, ax_L p2] M (some (ax_I q.1)) q.2 := by
  refine ax_ofW (by decide +kernel) (lv0 := [(0, ax_O x0), (1, ax_I p0), (2, ax_I p1), (3, ax_L p2)]) (Nat.le_of_ble_eq_true rfl) rfl ?_
  intro Z ad B hin _ _ hn hR hE
  have hag : ∀ a, a ∉ ([] : List Nat) → ad a = ad a := fun _ _ => rfl
  unfold f_M_seal at hf
  refine ax_aload_n B d_M_seal_0 rfl (j := 0) rfl ?_
  refine ax_iload_n B d_M_seal_1 rfl (j := 1) rfl ?_
  refine ax_cVV B hR (as := [ax_I p0]) (V := fun q => ax_I q.1) (N := fun q => q.2) d_M_seal_2 l_M_228 m_M_isAuction hf (fun q h => c_M_isAuction _ _ _ _ _ h) rfl rfl (by decide) (by decide) (by decide) (by decide) (Nat.le_of_ble_eq_true rfl) (fun q1 hf => ?_)
  refine ax_if_eq B (tgt := 16) d_M_seal_5 (by decide) hf (fun hf => ?_) (fun hf => ?_)
  · refine ax_sub [] rfl ?_
    exact K_M_seal_16 B hn hR hE hag q1.2 hf
  · refine ax_aload_n B d_M_seal_8 rfl (j := 0) rfl ?_
    refine ax_iload_n B d_M_seal_9 rfl (j := 2) rfl ?_
    refine ax_cVV B hR (as := [ax_I p1]) (V := fun q => ax_I q.1) (N := fun q => q.2) d_M_seal_10 l_M_143 m_M_isAccount hf (fun q h => c_M_isAccount _ _ _ _ _ h) rfl rfl (by decide) (by decide) (by decide) (by decide) (Nat.le_of_ble_eq_true rfl) (fun q2 hf => ?_)
    refine ax_if_ne B (tgt := 18) d_M_seal_13 (by decide) hf (fun hf => ?_) (fun hf => ?_)
    · refine ax_sub [] rfl ?_
      exact K_M_seal_16 B hn hR hE hag q2.2 hf
    · refine ax_bipush B (v := 8) (by decide) d_M_seal_18 ?_
      refine ax_iload_n B d_M_seal_20 rfl (j := 1) rfl ?_
      refine ax_imul B d_M_seal_21 ?_
      refine ax_iload_n B d_M_seal_22 rfl (j := 2) rfl ?_
      refine ax_iadd B d_M_seal_23 ?_
      refine ax_nmI hf (fun y3 hf => ?_)
      refine ax_istore B (lv' := [(5, ax_I y3), (0, ax_O x0), (1, ax_I p0), (2, ax_I p1), (3, ax_L p2)]) d_M_seal_24 (by rw [hn]; decide) rfl ?_
      refine ax_aload_n B d_M_seal_26 rfl (j := 1) rfl ?_
      refine ax_getR B d_M_seal_27 k_M_72 rfl hf (fun x4 hf => ?_)
      refine ax_iload_n B d_M_seal_30 rfl (j := 2) rfl ?_
      refine ax_iald B d_M_seal_31 (t := 0) (by decide) rfl hf (fun x5 hf => ?_)
      refine ax_iconst B (v := 1) (by decide) d_M_seal_32 ?_
      refine ax_icmp_eq B (tgt := 46) d_M_seal_33 (by decide) hf (fun hf => ?_) (fun hf => ?_)
      · refine ax_sub [1, 2, 3, 4, 0] rfl ?_
        exact K_M_seal_46 B hn hR hE hag q2.2 x0 p0 p1 p2 y3 hf
      · refine ax_aload_n B d_M_seal_36 rfl (j := 1) rfl ?_
        refine ax_getR B d_M_seal_37 k_M_72 rfl hf (fun x6 hf => ?_)
        refine ax_iload_n B d_M_seal_40 rfl (j := 2) rfl ?_
        refine ax_iald B d_M_seal_41 (t := 0) (by decide) rfl hf (fun x7 hf => ?_)
        refine ax_iconst B (v := 2) (by decide) d_M_seal_42 ?_
        refine ax_icmp_ne B (tgt := 86) d_M_seal_43 (by decide) hf (fun hf => ?_) (fun hf => ?_)
        · refine ax_sub [1, 2, 3, 4, 0] rfl ?_
          exact K_M_seal_46 B hn hR hE hag q2.2 x0 p0 p1 p2 y3 hf
        · refine ax_sub [] rfl ?_
          exact K_M_seal_86 B hn hR hE hag q2.2 hf
def G_M_unseal_16  (M : ax_M)  : Option (Int32 × ax_M) := some ((-1), M)
set_option maxRecDepth 100000 in
set_option maxHeartbeats 4000000 in
theorem K_M_unseal_16 {Z : ax_Z} {ad0 ad : Nat → Nat} {q : Int32 × ax_M} (B : ax_B Z "VoteAuctionsModel" b_M_unseal (some .int)) (hn : Z.2.2.2.2.2.2.2.2.2.2.2.1 = 6) (hR : ax_R Z 1 0 0) (hE : ax_E Z ad0 [] 0 0 (some (ax_I q.1)) q.2) (hag : ∀ a, a ∉ ([] : List Nat) → ad a = ad0 a)   : ∀ (M : ax_M) , G_M_unseal_16  M  = some q → ax_W Z ad 0 0 16 [] [] M := by
  intro M  hf
  unfold G_M_unseal_16 at hf
  refine ax_iconst B (v := (-1)) (by decide) d_M_unseal_16 ?_
  exact ax_ireturn B hE d_M_unseal_17 hf rfl hag (by decide) (by decide)
def G_M_unseal_149  (M : ax_M)  : Option (Int32 × ax_M) := some ((-3), M)
set_option maxRecDepth 100000 in
set_option maxHeartbeats 4000000 in
theorem K_M_unseal_149 {Z : ax_Z} {ad0 ad : Nat → Nat} {q : Int32 × ax_M} (B : ax_B Z "VoteAuctionsModel" b_M_unseal (some .int)) (hn : Z.2.2.2.2.2.2.2.2.2.2.2.1 = 6) (hR : ax_R Z 1 0 0) (hE : ax_E Z ad0 [] 0 0 (some (ax_I q.1)) q.2) (hag : ∀ a, a ∉ ([] : List Nat) → ad a = ad0 a)   : ∀ (M : ax_M) , G_M_unseal_149  M  = some q → ax_W Z ad 0 0 149 [] [] M := by
  intro M  hf
  unfold G_M_unseal_149 at hf
  refine ax_bipush B (v := (-3)) (by decide) d_M_unseal_149 ?_
  exact ax_ireturn B hE d_M_unseal_151 hf rfl hag (by decide) (by decide)
def G_M_unseal_64  (M : ax_M) (v0 : Option Nat) (v1 : Int32) (v2 : Int32) (v3 : Int32) (v4 : Int32) (v5 : Int32) : Option (Int32 × ax_M) := (ax_gi M 3 1 v0).bind (fun x1 => (ax_gr M 3 31 v0).bind (fun x2 => (ax_ri M 0 x2 v1).bind (fun x3 => if x1 < x3 then G_M_unseal_149 M else (ax_gi M 3 1 v0).bind (fun x4 => (ax_gr M 3 32 v0).bind (fun x5 => (ax_ri M 0 x5 v1).bind (fun x6 => if x6 ≤ x4 then G_M_unseal_149 M else (ax_gr M 3 35 v0).bind (fun x7 => (ax_ri M 2 x7 v5).bind (fun x8 => if x8 = 0 then G_M_unseal_149 M else (ax_gr M 3 40 v0).bind (fun x9 => (ax_ri M 2 x9 v5).bind (fun x10 => if x10 = 0 then (ax_gr M 3 39 v0).bind (fun x11 => (ax_rl M 1 x11 v5).bind (fun x12 => (ax_ob M 3 v0).bind (fun _ => (f_M_mark M v0 v2 v3 v4).bind (fun q13 => if (lg_cmp x12 q13.1) = 0 then (ax_gr q13.2 3 5 v0).bind (fun x14 => (ax_rl q13.2 1 x14 v2).bind (fun x15 => (ax_gr q13.2 3 29 v0).bind (fun x16 => (ax_ri q13.2 0 x16 v1).bind (fun x17 => if 0 ≤ (lg_cmp (x15 + (x17.toInt64)) (v3.toInt64)) then (ax_gr q13.2 3 40 v0).bind (fun x18 => (ax_ti q13.2 2 x18 v5 1).bind (fun M19 => (ax_gr M19 3 37 v0).bind (fun x20 => (ax_ti M19 0 x20 v5 v3).bind (fun M21 => (ax_gr M21 3 29 v0).bind (fun x22 => (ax_ri M21 0 x22 v1).bind (fun x23 => (ax_ob M21 3 v0).bind (fun _ => (f_M_setAside M21 v0 v2 ((v3 - x23).toInt64)).bind (fun q24 => some (1, q24))))))))) else G_M_unseal_149 q13.2)))) else G_M_unseal_149 q13.2)))) else G_M_unseal_149 M))))))))))
set_option maxRecDepth 100000 in
set_option maxHeartbeats 4000000 in
theorem K_M_unseal_64 {Z : ax_Z} {ad0 ad : Nat → Nat} {q : Int32 × ax_M} (B : ax_B Z "VoteAuctionsModel" b_M_unseal (some .int)) (hn : Z.2.2.2.2.2.2.2.2.2.2.2.1 = 6) (hR : ax_R Z 1 0 0) (hE : ax_E Z ad0 [] 0 0 (some (ax_I q.1)) q.2) (hag : ∀ a, a ∉ ([] : List Nat) → ad a = ad0 a)   : ∀ (M : ax_M) (v0 : Option Nat) (v1 : Int32) (v2 : Int32) (v3 : Int32) (v4 : Int32) (v5 : Int32), G_M_unseal_64  M v0 v1 v2 v3 v4 v5 = some q → ax_W Z ad 0 0 64 [(0, ax_O v0), (1, ax_I v1), (2, ax_I v2), (3, ax_I v3), (4, ax_I v4), (5, ax_I v5)] [] M := by
  intro M v0 v1 v2 v3 v4 v5 hf
  unfold G_M_unseal_64 at hf
  refine ax_aload_n B d_M_unseal_64 rfl (j := 0) rfl ?_
  refine ax_getI B d_M_unseal_65 k_M_156 rfl hf (fun x1 hf => ?_)
  refine ax_aload_n B d_M_unseal_68 rfl (j := 0) rfl ?_
  refine ax_getR B d_M_unseal_69 k_M_84 rfl hf (fun x2 hf => ?_)
  refine ax_iload_n B d_M_unseal_72 rfl (j := 1) rfl ?_
  refine ax_iald B d_M_unseal_73 (t := 0) (by decide) rfl hf (fun x3 hf => ?_)
  refine ax_icmp_lt B (tgt := 149) d_M_unseal_74 (by decide) hf (fun hf => ?_) (fun hf => ?_)
  · refine ax_sub [] rfl ?_
    exact K_M_unseal_149 B hn hR hE hag M hf
  · refine ax_aload_n B d_M_unseal_77 rfl (j := 0) rfl ?_
    refine ax_getI B d_M_unseal_78 k_M_156 rfl hf (fun x4 hf => ?_)
    refine ax_aload_n B d_M_unseal_81 rfl (j := 0) rfl ?_
    refine ax_getR B d_M_unseal_82 k_M_87 rfl hf (fun x5 hf => ?_)
    refine ax_iload_n B d_M_unseal_85 rfl (j := 1) rfl ?_
    refine ax_iald B d_M_unseal_86 (t := 0) (by decide) rfl hf (fun x6 hf => ?_)
    refine ax_icmp_ge B (tgt := 149) d_M_unseal_87 (by decide) hf (fun hf => ?_) (fun hf => ?_)
    · refine ax_sub [] rfl ?_
      exact K_M_unseal_149 B hn hR hE hag M hf
    · refine ax_aload_n B d_M_unseal_90 rfl (j := 0) rfl ?_
      refine ax_getR B d_M_unseal_91 k_M_96 rfl hf (fun x7 hf => ?_)
      refine ax_iload B (j := 5) d_M_unseal_94 rfl ?_
      refine ax_zald B d_M_unseal_96 (t := 2) (by decide) rfl hf (fun x8 hf => ?_)
      refine ax_if_eq B (tgt := 149) d_M_unseal_97 (by decide) hf (fun hf => ?_) (fun hf => ?_)
      · refine ax_sub [] rfl ?_
        exact K_M_unseal_149 B hn hR hE hag M hf
      · refine ax_aload_n B d_M_unseal_100 rfl (j := 0) rfl ?_
        refine ax_getR B d_M_unseal_101 k_M_111 rfl hf (fun x9 hf => ?_)
        refine ax_iload B (j := 5) d_M_unseal_104 rfl ?_
        refine ax_zald B d_M_unseal_106 (t := 2) (by decide) rfl hf (fun x10 hf => ?_)
        refine ax_if_ne B (tgt := 149) d_M_unseal_107 (by decide) hf (fun hf => ?_) (fun hf => ?_)
        · refine ax_aload_n B d_M_unseal_110 rfl (j := 0) rfl ?_
          refine ax_getR B d_M_unseal_111 k_M_108 rfl hf (fun x11 hf => ?_)
          refine ax_iload B (j := 5) d_M_unseal_114 rfl ?_
          refine ax_lald B d_M_unseal_116 (t := 1) (by decide) rfl hf (fun x12 hf => ?_)
          refine ax_aload_n B d_M_unseal_117 rfl (j := 0) rfl ?_
          refine ax_iload_n B d_M_unseal_118 rfl (j := 2) rfl ?_
          refine ax_iload_n B d_M_unseal_119 rfl (j := 3) rfl ?_
          refine ax_iload B (j := 4) d_M_unseal_120 rfl ?_
          refine ax_cVV B hR (as := [ax_I v2, ax_I v3, ax_I v4]) (V := fun q => ax_L q.1) (N := fun q => q.2) d_M_unseal_122 l_M_186 m_M_mark hf (fun q h => c_M_mark _ _ _ _ _ _ _ h) rfl rfl (by decide) (by decide) (by decide) (by decide) (Nat.le_of_ble_eq_true rfl) (fun q13 hf => ?_)
          refine ax_lcmp B d_M_unseal_125 ?_
          refine ax_if_ne B (tgt := 149) d_M_unseal_126 (by decide) hf (fun hf => ?_) (fun hf => ?_)
          · refine ax_aload_n B d_M_unseal_129 rfl (j := 0) rfl ?_
            refine ax_getR B d_M_unseal_130 k_M_13 rfl hf (fun x14 hf => ?_)
            refine ax_iload_n B d_M_unseal_133 rfl (j := 2) rfl ?_
            refine ax_lald B d_M_unseal_134 (t := 1) (by decide) rfl hf (fun x15 hf => ?_)
            refine ax_aload_n B d_M_unseal_135 rfl (j := 0) rfl ?_
            refine ax_getR B d_M_unseal_136 k_M_78 rfl hf (fun x16 hf => ?_)
            refine ax_iload_n B d_M_unseal_139 rfl (j := 1) rfl ?_
            refine ax_iald B d_M_unseal_140 (t := 0) (by decide) rfl hf (fun x17 hf => ?_)
            refine ax_i2l B d_M_unseal_141 ?_
            refine ax_ladd B d_M_unseal_142 ?_
            refine ax_iload_n B d_M_unseal_143 rfl (j := 3) rfl ?_
            refine ax_i2l B d_M_unseal_144 ?_
            refine ax_lcmp B d_M_unseal_145 ?_
            refine ax_if_ge B (tgt := 152) d_M_unseal_146 (by decide) hf (fun hf => ?_) (fun hf => ?_)
            · refine ax_aload_n B d_M_unseal_152 rfl (j := 0) rfl ?_
              refine ax_getR B d_M_unseal_153 k_M_111 rfl hf (fun x18 hf => ?_)
              refine ax_iload B (j := 5) d_M_unseal_156 rfl ?_
              refine ax_iconst B (v := 1) (by decide) d_M_unseal_158 ?_
              refine ax_zast B d_M_unseal_159 (t := 2) (by decide) rfl (by decide) hf (fun M19 hf => ?_)
              refine ax_aload_n B d_M_unseal_160 rfl (j := 0) rfl ?_
              refine ax_getR B d_M_unseal_161 k_M_102 rfl hf (fun x20 hf => ?_)
              refine ax_iload B (j := 5) d_M_unseal_164 rfl ?_
              refine ax_iload_n B d_M_unseal_166 rfl (j := 3) rfl ?_
              refine ax_iast B d_M_unseal_167 (t := 0) (by decide) rfl hf (fun M21 hf => ?_)
              refine ax_aload_n B d_M_unseal_168 rfl (j := 0) rfl ?_
              refine ax_iload_n B d_M_unseal_169 rfl (j := 2) rfl ?_
              refine ax_iload_n B d_M_unseal_170 rfl (j := 3) rfl ?_
              refine ax_aload_n B d_M_unseal_171 rfl (j := 0) rfl ?_
              refine ax_getR B d_M_unseal_172 k_M_78 rfl hf (fun x22 hf => ?_)
              refine ax_iload_n B d_M_unseal_175 rfl (j := 1) rfl ?_
              refine ax_iald B d_M_unseal_176 (t := 0) (by decide) rfl hf (fun x23 hf => ?_)
              refine ax_isub B d_M_unseal_177 ?_
              refine ax_i2l B d_M_unseal_178 ?_
              refine ax_cVN B hR (as := [ax_I v2, ax_L ((v3 - x23).toInt64)]) (N := fun q => q) d_M_unseal_179 l_M_241 m_M_setAside hf (fun q h => c_M_setAside _ _ _ _ _ _ h) rfl rfl (by decide) (by decide) (by decide) (by decide) (Nat.le_of_ble_eq_true rfl) (fun q24 hf => ?_)
              refine ax_iconst B (v := 1) (by decide) d_M_unseal_182 ?_
              exact ax_ireturn B hE d_M_unseal_183 hf rfl hag (by decide) (by decide)
            · refine ax_sub [] rfl ?_
              exact K_M_unseal_149 B hn hR hE hag q13.2 hf
          · refine ax_sub [] rfl ?_
            exact K_M_unseal_149 B hn hR hE hag q13.2 hf
        · refine ax_sub [] rfl ?_
          exact K_M_unseal_149 B hn hR hE hag M hf
def f_M_unseal (M : ax_M) (x0 : Option Nat) (p0 : Int32) (p1 : Int32) (p2 : Int32) (p3 : Int32) : Option (Int32 × ax_M) := (ax_ob M 3 x0).bind (fun _ => (f_M_isAuction M x0 p0).bind (fun q1 => if q1.1 = 0 then G_M_unseal_16 q1.2 else (ax_ob q1.2 3 x0).bind (fun _ => (f_M_isAccount q1.2 x0 p1).bind (fun q2 => if q2.1 = 0 then G_M_unseal_16 q2.2 else (ax_gr q2.2 3 29 x0).bind (fun x3 => (ax_ri q2.2 0 x3 p0).bind (fun x4 => (f_M_isIn q2.2 p2 x4 1000000).bind (fun q5 => if q5.1 = 0 then some ((-2), q5.2) else (some ((8 * p0) + p1)).bind (fun y6 => (ax_gr q5.2 3 27 x0).bind (fun x7 => (ax_ri q5.2 0 x7 p0).bind (fun x8 => if x8 = 1 then G_M_unseal_64 q5.2 x0 p0 p1 p2 p3 y6 else (ax_gr q5.2 3 27 x0).bind (fun x9 => (ax_ri q5.2 0 x9 p0).bind (fun x10 => if x10 = 2 then G_M_unseal_64 q5.2 x0 p0 p1 p2 p3 y6 else G_M_unseal_149 q5.2))))))))))))
set_option maxRecDepth 100000 in
set_option maxHeartbeats 4000000 in
theorem c_M_unseal (l : Launch) (G : ax_G) (M : ax_M) (x0 : Option Nat) (p0 : Int32) (p1 : Int32) (p2 : Int32) (p3 : Int32) {q : Int32 × ax_M} (hf : f_M_unseal M x0 p0 p1 p2 p3 = some q) : ax_C l G y_M_unseal b_M_unseal 6 (some .int) [] 1 0 0 [ax_O x0, ax_I p0, ax_I p1, ax_I p2, ax_I p3] M (some (ax_I q.1)) q.2 := by
  refine ax_ofW (by decide +kernel) (lv0 := [(0, ax_O x0), (1, ax_I p0), (2, ax_I p1), (3, ax_I p2), (4, ax_I p3)]) (Nat.le_of_ble_eq_true rfl) rfl ?_
  intro Z ad B hin _ _ hn hR hE
  have hag : ∀ a, a ∉ ([] : List Nat) → ad a = ad a := fun _ _ => rfl
  unfold f_M_unseal at hf
  refine ax_aload_n B d_M_unseal_0 rfl (j := 0) rfl ?_
  refine ax_iload_n B d_M_unseal_1 rfl (j := 1) rfl ?_
  refine ax_cVV B hR (as := [ax_I p0]) (V := fun q => ax_I q.1) (N := fun q => q.2) d_M_unseal_2 l_M_228 m_M_isAuction hf (fun q h => c_M_isAuction _ _ _ _ _ h) rfl rfl (by decide) (by decide) (by decide) (by decide) (Nat.le_of_ble_eq_true rfl) (fun q1 hf => ?_)
  refine ax_if_eq B (tgt := 16) d_M_unseal_5 (by decide) hf (fun hf => ?_) (fun hf => ?_)
  · refine ax_sub [] rfl ?_
    exact K_M_unseal_16 B hn hR hE hag q1.2 hf
  · refine ax_aload_n B d_M_unseal_8 rfl (j := 0) rfl ?_
    refine ax_iload_n B d_M_unseal_9 rfl (j := 2) rfl ?_
    refine ax_cVV B hR (as := [ax_I p1]) (V := fun q => ax_I q.1) (N := fun q => q.2) d_M_unseal_10 l_M_143 m_M_isAccount hf (fun q h => c_M_isAccount _ _ _ _ _ h) rfl rfl (by decide) (by decide) (by decide) (by decide) (Nat.le_of_ble_eq_true rfl) (fun q2 hf => ?_)
    refine ax_if_ne B (tgt := 18) d_M_unseal_13 (by decide) hf (fun hf => ?_) (fun hf => ?_)
    · refine ax_sub [] rfl ?_
      exact K_M_unseal_16 B hn hR hE hag q2.2 hf
    · refine ax_iload_n B d_M_unseal_18 rfl (j := 3) rfl ?_
      refine ax_aload_n B d_M_unseal_19 rfl (j := 0) rfl ?_
      refine ax_getR B d_M_unseal_20 k_M_78 rfl hf (fun x3 hf => ?_)
      refine ax_iload_n B d_M_unseal_23 rfl (j := 1) rfl ?_
      refine ax_iald B d_M_unseal_24 (t := 0) (by decide) rfl hf (fun x4 hf => ?_)
      refine ax_ldc B (v := 1000000) n_M_142 d_M_unseal_25 ?_
      refine ax_cSV B hR (as := [ax_I p2, ax_I x4, ax_I 1000000]) (V := fun q => ax_I q.1) (N := fun q => q.2) d_M_unseal_27 l_M_139 m_M_isIn hf (fun q h => c_M_isIn _ _ _ _ _ _ h) rfl rfl (by decide) (by decide) (by decide) (by decide) (Nat.le_of_ble_eq_true rfl) (fun q5 hf => ?_)
      refine ax_if_ne B (tgt := 36) d_M_unseal_30 (by decide) hf (fun hf => ?_) (fun hf => ?_)
      · refine ax_bipush B (v := (-2)) (by decide) d_M_unseal_33 ?_
        exact ax_ireturn B hE d_M_unseal_35 hf rfl hag (by decide) (by decide)
      · refine ax_bipush B (v := 8) (by decide) d_M_unseal_36 ?_
        refine ax_iload_n B d_M_unseal_38 rfl (j := 1) rfl ?_
        refine ax_imul B d_M_unseal_39 ?_
        refine ax_iload_n B d_M_unseal_40 rfl (j := 2) rfl ?_
        refine ax_iadd B d_M_unseal_41 ?_
        refine ax_nmI hf (fun y6 hf => ?_)
        refine ax_istore B (lv' := [(5, ax_I y6), (0, ax_O x0), (1, ax_I p0), (2, ax_I p1), (3, ax_I p2), (4, ax_I p3)]) d_M_unseal_42 (by rw [hn]; decide) rfl ?_
        refine ax_aload_n B d_M_unseal_44 rfl (j := 1) rfl ?_
        refine ax_getR B d_M_unseal_45 k_M_72 rfl hf (fun x7 hf => ?_)
        refine ax_iload_n B d_M_unseal_48 rfl (j := 2) rfl ?_
        refine ax_iald B d_M_unseal_49 (t := 0) (by decide) rfl hf (fun x8 hf => ?_)
        refine ax_iconst B (v := 1) (by decide) d_M_unseal_50 ?_
        refine ax_icmp_eq B (tgt := 64) d_M_unseal_51 (by decide) hf (fun hf => ?_) (fun hf => ?_)
        · refine ax_sub [1, 2, 3, 4, 5, 0] rfl ?_
          exact K_M_unseal_64 B hn hR hE hag q5.2 x0 p0 p1 p2 p3 y6 hf
        · refine ax_aload_n B d_M_unseal_54 rfl (j := 1) rfl ?_
          refine ax_getR B d_M_unseal_55 k_M_72 rfl hf (fun x9 hf => ?_)
          refine ax_iload_n B d_M_unseal_58 rfl (j := 2) rfl ?_
          refine ax_iald B d_M_unseal_59 (t := 0) (by decide) rfl hf (fun x10 hf => ?_)
          refine ax_iconst B (v := 2) (by decide) d_M_unseal_60 ?_
          refine ax_icmp_ne B (tgt := 149) d_M_unseal_61 (by decide) hf (fun hf => ?_) (fun hf => ?_)
          · refine ax_sub [1, 2, 3, 4, 5, 0] rfl ?_
            exact K_M_unseal_64 B hn hR hE hag q5.2 x0 p0 p1 p2 p3 y6 hf
          · refine ax_sub [] rfl ?_
            exact K_M_unseal_149 B hn hR hE hag q5.2 hf
def f_M_nowPrice (M : ax_M) (x0 : Option Nat) (p0 : Int32) : Option (Int64 × ax_M) := (ax_gr M 3 29 x0).bind (fun x1 => (ax_ri M 0 x1 p0).bind (fun x2 => (ax_gr M 3 30 x0).bind (fun x3 => (ax_ri M 0 x3 p0).bind (fun x4 => (ax_gr M 3 32 x0).bind (fun x5 => (ax_ri M 0 x5 p0).bind (fun x6 => (ax_gi M 3 1 x0).bind (fun x7 => some (((x2.toInt64) + ((x4.toInt64) * ((x6 - x7).toInt64))), M))))))))
set_option maxRecDepth 100000 in
set_option maxHeartbeats 4000000 in
theorem c_M_nowPrice (l : Launch) (G : ax_G) (M : ax_M) (x0 : Option Nat) (p0 : Int32) {q : Int64 × ax_M} (hf : f_M_nowPrice M x0 p0 = some q) : ax_C l G y_M_nowPrice b_M_nowPrice 2 (some .long) [] 0 0 0 [ax_O x0, ax_I p0] M (some (ax_L q.1)) q.2 := by
  refine ax_ofW (by decide +kernel) (lv0 := [(0, ax_O x0), (1, ax_I p0)]) (Nat.le_of_ble_eq_true rfl) rfl ?_
  intro Z ad B hin _ _ hn hR hE
  have hag : ∀ a, a ∉ ([] : List Nat) → ad a = ad a := fun _ _ => rfl
  unfold f_M_nowPrice at hf
  refine ax_aload_n B d_M_nowPrice_0 rfl (j := 0) rfl ?_
  refine ax_getR B d_M_nowPrice_1 k_M_78 rfl hf (fun x1 hf => ?_)
  refine ax_iload_n B d_M_nowPrice_4 rfl (j := 1) rfl ?_
  refine ax_iald B d_M_nowPrice_5 (t := 0) (by decide) rfl hf (fun x2 hf => ?_)
  refine ax_i2l B d_M_nowPrice_6 ?_
  refine ax_aload_n B d_M_nowPrice_7 rfl (j := 0) rfl ?_
  refine ax_getR B d_M_nowPrice_8 k_M_81 rfl hf (fun x3 hf => ?_)
  refine ax_iload_n B d_M_nowPrice_11 rfl (j := 1) rfl ?_
  refine ax_iald B d_M_nowPrice_12 (t := 0) (by decide) rfl hf (fun x4 hf => ?_)
  refine ax_i2l B d_M_nowPrice_13 ?_
  refine ax_aload_n B d_M_nowPrice_14 rfl (j := 0) rfl ?_
  refine ax_getR B d_M_nowPrice_15 k_M_87 rfl hf (fun x5 hf => ?_)
  refine ax_iload_n B d_M_nowPrice_18 rfl (j := 1) rfl ?_
  refine ax_iald B d_M_nowPrice_19 (t := 0) (by decide) rfl hf (fun x6 hf => ?_)
  refine ax_aload_n B d_M_nowPrice_20 rfl (j := 0) rfl ?_
  refine ax_getI B d_M_nowPrice_21 k_M_156 rfl hf (fun x7 hf => ?_)
  refine ax_isub B d_M_nowPrice_24 ?_
  refine ax_i2l B d_M_nowPrice_25 ?_
  refine ax_lmul B d_M_nowPrice_26 ?_
  refine ax_ladd B d_M_nowPrice_27 ?_
  exact ax_lreturn B hE d_M_nowPrice_28 hf hag (by decide) (by decide)
def G_M_take_16  (M : ax_M)  : Option (Int32 × ax_M) := some ((-1), M)
set_option maxRecDepth 100000 in
set_option maxHeartbeats 4000000 in
theorem K_M_take_16 {Z : ax_Z} {ad0 ad : Nat → Nat} {q : Int32 × ax_M} (B : ax_B Z "VoteAuctionsModel" b_M_take (some .int)) (hn : Z.2.2.2.2.2.2.2.2.2.2.2.1 = 3) (hR : ax_R Z 1 0 0) (hE : ax_E Z ad0 [] 0 0 (some (ax_I q.1)) q.2) (hag : ∀ a, a ∉ ([] : List Nat) → ad a = ad0 a)   : ∀ (M : ax_M) , G_M_take_16  M  = some q → ax_W Z ad 0 0 16 [] [] M := by
  intro M  hf
  unfold G_M_take_16 at hf
  refine ax_iconst B (v := (-1)) (by decide) d_M_take_16 ?_
  exact ax_ireturn B hE d_M_take_17 hf rfl hag (by decide) (by decide)
def G_M_take_51  (M : ax_M)  : Option (Int32 × ax_M) := some ((-3), M)
set_option maxRecDepth 100000 in
set_option maxHeartbeats 4000000 in
theorem K_M_take_51 {Z : ax_Z} {ad0 ad : Nat → Nat} {q : Int32 × ax_M} (B : ax_B Z "VoteAuctionsModel" b_M_take (some .int)) (hn : Z.2.2.2.2.2.2.2.2.2.2.2.1 = 3) (hR : ax_R Z 1 0 0) (hE : ax_E Z ad0 [] 0 0 (some (ax_I q.1)) q.2) (hag : ∀ a, a ∉ ([] : List Nat) → ad a = ad0 a)   : ∀ (M : ax_M) , G_M_take_51  M  = some q → ax_W Z ad 0 0 51 [] [] M := by
  intro M  hf
  unfold G_M_take_51 at hf
  refine ax_bipush B (v := (-3)) (by decide) d_M_take_51 ?_
  exact ax_ireturn B hE d_M_take_53 hf rfl hag (by decide) (by decide)
def f_M_take (M : ax_M) (x0 : Option Nat) (p0 : Int32) (p1 : Int32) : Option (Int32 × ax_M) := (ax_ob M 3 x0).bind (fun _ => (f_M_isAuction M x0 p0).bind (fun q1 => if q1.1 = 0 then G_M_take_16 q1.2 else (ax_ob q1.2 3 x0).bind (fun _ => (f_M_isAccount q1.2 x0 p1).bind (fun q2 => if q2.1 = 0 then G_M_take_16 q2.2 else (ax_gr q2.2 3 27 x0).bind (fun x3 => (ax_ri q2.2 0 x3 p0).bind (fun x4 => if x4 = 3 then (ax_ob q2.2 3 x0).bind (fun _ => (f_M_isOver q2.2 x0 p0).bind (fun q5 => if q5.1 = 0 then (ax_gr q5.2 3 5 x0).bind (fun x6 => (ax_rl q5.2 1 x6 p1).bind (fun x7 => (ax_ob q5.2 3 x0).bind (fun _ => (f_M_nowPrice q5.2 x0 p0).bind (fun q8 => if 0 ≤ (lg_cmp x7 q8.1) then (ax_gr q8.2 3 33 x0).bind (fun x9 => (ax_ob q8.2 3 x0).bind (fun _ => (f_M_nowPrice q8.2 x0 p0).bind (fun q10 => (ax_tl q10.2 1 x9 p0 q10.1).bind (fun M11 => (ax_gr M11 3 34 x0).bind (fun x12 => (ax_ti M11 0 x12 p0 p1).bind (fun M13 => (ax_gr M13 3 41 x0).bind (fun x14 => (ax_ti M13 0 x14 ((8 * p0) + p1) 1).bind (fun M15 => (ax_gr M15 3 5 x0).bind (fun x16 => (ax_rl M15 1 x16 p1).bind (fun x17 => (ax_gr M15 3 33 x0).bind (fun x18 => (ax_rl M15 1 x18 p0).bind (fun x19 => (ax_tl M15 1 x16 p1 (x17 - x19)).bind (fun M20 => (ax_gl M20 3 2 x0).bind (fun x21 => (ax_gr M20 3 33 x0).bind (fun x22 => (ax_rl M20 1 x22 p0).bind (fun x23 => (ax_pl M20 3 2 x0 (x21 + x23)).bind (fun M24 => (ax_gr M24 3 33 x0).bind (fun x25 => (ax_rl M24 1 x25 p0).bind (fun x26 => some ((x26.toInt32), M24)))))))))))))))))))) else G_M_take_51 q8.2)))) else G_M_take_51 q5.2)) else G_M_take_51 q2.2))))))
set_option maxRecDepth 100000 in
set_option maxHeartbeats 4000000 in
theorem c_M_take (l : Launch) (G : ax_G) (M : ax_M) (x0 : Option Nat) (p0 : Int32) (p1 : Int32) {q : Int32 × ax_M} (hf : f_M_take M x0 p0 p1 = some q) : ax_C l G y_M_take b_M_take 3 (some .int) [] 1 0 0 [ax_O x0, ax_I p0, ax_I p1] M (some (ax_I q.1)) q.2 := by
  refine ax_ofW (by decide +kernel) (lv0 := [(0, ax_O x0), (1, ax_I p0), (2, ax_I p1)]) (Nat.le_of_ble_eq_true rfl) rfl ?_
  intro Z ad B hin _ _ hn hR hE
  have hag : ∀ a, a ∉ ([] : List Nat) → ad a = ad a := fun _ _ => rfl
  unfold f_M_take at hf
  refine ax_aload_n B d_M_take_0 rfl (j := 0) rfl ?_
  refine ax_iload_n B d_M_take_1 rfl (j := 1) rfl ?_
  refine ax_cVV B hR (as := [ax_I p0]) (V := fun q => ax_I q.1) (N := fun q => q.2) d_M_take_2 l_M_228 m_M_isAuction hf (fun q h => c_M_isAuction _ _ _ _ _ h) rfl rfl (by decide) (by decide) (by decide) (by decide) (Nat.le_of_ble_eq_true rfl) (fun q1 hf => ?_)
  refine ax_if_eq B (tgt := 16) d_M_take_5 (by decide) hf (fun hf => ?_) (fun hf => ?_)
  · refine ax_sub [] rfl ?_
    exact K_M_take_16 B hn hR hE hag q1.2 hf
  · refine ax_aload_n B d_M_take_8 rfl (j := 0) rfl ?_
    refine ax_iload_n B d_M_take_9 rfl (j := 2) rfl ?_
    refine ax_cVV B hR (as := [ax_I p1]) (V := fun q => ax_I q.1) (N := fun q => q.2) d_M_take_10 l_M_143 m_M_isAccount hf (fun q h => c_M_isAccount _ _ _ _ _ h) rfl rfl (by decide) (by decide) (by decide) (by decide) (Nat.le_of_ble_eq_true rfl) (fun q2 hf => ?_)
    refine ax_if_ne B (tgt := 18) d_M_take_13 (by decide) hf (fun hf => ?_) (fun hf => ?_)
    · refine ax_sub [] rfl ?_
      exact K_M_take_16 B hn hR hE hag q2.2 hf
    · refine ax_aload_n B d_M_take_18 rfl (j := 0) rfl ?_
      refine ax_getR B d_M_take_19 k_M_72 rfl hf (fun x3 hf => ?_)
      refine ax_iload_n B d_M_take_22 rfl (j := 1) rfl ?_
      refine ax_iald B d_M_take_23 (t := 0) (by decide) rfl hf (fun x4 hf => ?_)
      refine ax_iconst B (v := 3) (by decide) d_M_take_24 ?_
      refine ax_icmp_ne B (tgt := 51) d_M_take_25 (by decide) hf (fun hf => ?_) (fun hf => ?_)
      · refine ax_aload_n B d_M_take_28 rfl (j := 0) rfl ?_
        refine ax_iload_n B d_M_take_29 rfl (j := 1) rfl ?_
        refine ax_cVV B hR (as := [ax_I p0]) (V := fun q => ax_I q.1) (N := fun q => q.2) d_M_take_30 l_M_231 m_M_isOver hf (fun q h => c_M_isOver _ _ _ _ _ h) rfl rfl (by decide) (by decide) (by decide) (by decide) (Nat.le_of_ble_eq_true rfl) (fun q5 hf => ?_)
        refine ax_if_ne B (tgt := 51) d_M_take_33 (by decide) hf (fun hf => ?_) (fun hf => ?_)
        · refine ax_aload_n B d_M_take_36 rfl (j := 0) rfl ?_
          refine ax_getR B d_M_take_37 k_M_13 rfl hf (fun x6 hf => ?_)
          refine ax_iload_n B d_M_take_40 rfl (j := 2) rfl ?_
          refine ax_lald B d_M_take_41 (t := 1) (by decide) rfl hf (fun x7 hf => ?_)
          refine ax_aload_n B d_M_take_42 rfl (j := 0) rfl ?_
          refine ax_iload_n B d_M_take_43 rfl (j := 1) rfl ?_
          refine ax_cVV B hR (as := [ax_I p0]) (V := fun q => ax_L q.1) (N := fun q => q.2) d_M_take_44 l_M_248 m_M_nowPrice hf (fun q h => c_M_nowPrice _ _ _ _ _ h) rfl rfl (by decide) (by decide) (by decide) (by decide) (Nat.le_of_ble_eq_true rfl) (fun q8 hf => ?_)
          refine ax_lcmp B d_M_take_47 ?_
          refine ax_if_ge B (tgt := 54) d_M_take_48 (by decide) hf (fun hf => ?_) (fun hf => ?_)
          · refine ax_aload_n B d_M_take_54 rfl (j := 0) rfl ?_
            refine ax_getR B d_M_take_55 k_M_90 rfl hf (fun x9 hf => ?_)
            refine ax_iload_n B d_M_take_58 rfl (j := 1) rfl ?_
            refine ax_aload_n B d_M_take_59 rfl (j := 0) rfl ?_
            refine ax_iload_n B d_M_take_60 rfl (j := 1) rfl ?_
            refine ax_cVV B hR (as := [ax_I p0]) (V := fun q => ax_L q.1) (N := fun q => q.2) d_M_take_61 l_M_248 m_M_nowPrice hf (fun q h => c_M_nowPrice _ _ _ _ _ h) rfl rfl (by decide) (by decide) (by decide) (by decide) (Nat.le_of_ble_eq_true rfl) (fun q10 hf => ?_)
            refine ax_last B d_M_take_64 (t := 1) (by decide) rfl hf (fun M11 hf => ?_)
            refine ax_aload_n B d_M_take_65 rfl (j := 0) rfl ?_
            refine ax_getR B d_M_take_66 k_M_93 rfl hf (fun x12 hf => ?_)
            refine ax_iload_n B d_M_take_69 rfl (j := 1) rfl ?_
            refine ax_iload_n B d_M_take_70 rfl (j := 2) rfl ?_
            refine ax_iast B d_M_take_71 (t := 0) (by decide) rfl hf (fun M13 hf => ?_)
            refine ax_aload_n B d_M_take_72 rfl (j := 0) rfl ?_
            refine ax_getR B d_M_take_73 k_M_114 rfl hf (fun x14 hf => ?_)
            refine ax_bipush B (v := 8) (by decide) d_M_take_76 ?_
            refine ax_iload_n B d_M_take_78 rfl (j := 1) rfl ?_
            refine ax_imul B d_M_take_79 ?_
            refine ax_iload_n B d_M_take_80 rfl (j := 2) rfl ?_
            refine ax_iadd B d_M_take_81 ?_
            refine ax_iconst B (v := 1) (by decide) d_M_take_82 ?_
            refine ax_iast B d_M_take_83 (t := 0) (by decide) rfl hf (fun M15 hf => ?_)
            refine ax_aload_n B d_M_take_84 rfl (j := 0) rfl ?_
            refine ax_getR B d_M_take_85 k_M_13 rfl hf (fun x16 hf => ?_)
            refine ax_iload_n B d_M_take_88 rfl (j := 2) rfl ?_
            refine ax_dup2_11 B rfl rfl d_M_take_89 ?_
            refine ax_lald B d_M_take_90 (t := 1) (by decide) rfl hf (fun x17 hf => ?_)
            refine ax_aload_n B d_M_take_91 rfl (j := 0) rfl ?_
            refine ax_getR B d_M_take_92 k_M_90 rfl hf (fun x18 hf => ?_)
            refine ax_iload_n B d_M_take_95 rfl (j := 1) rfl ?_
            refine ax_lald B d_M_take_96 (t := 1) (by decide) rfl hf (fun x19 hf => ?_)
            refine ax_lsub B d_M_take_97 ?_
            refine ax_last B d_M_take_98 (t := 1) (by decide) rfl hf (fun M20 hf => ?_)
            refine ax_aload_n B d_M_take_99 rfl (j := 0) rfl ?_
            refine ax_dup B rfl d_M_take_100 ?_
            refine ax_getL B d_M_take_101 k_M_152 rfl hf (fun x21 hf => ?_)
            refine ax_aload_n B d_M_take_104 rfl (j := 0) rfl ?_
            refine ax_getR B d_M_take_105 k_M_90 rfl hf (fun x22 hf => ?_)
            refine ax_iload_n B d_M_take_108 rfl (j := 1) rfl ?_
            refine ax_lald B d_M_take_109 (t := 1) (by decide) rfl hf (fun x23 hf => ?_)
            refine ax_ladd B d_M_take_110 ?_
            refine ax_putL B d_M_take_111 k_M_152 rfl rfl hf (fun M24 hf => ?_)
            refine ax_aload_n B d_M_take_114 rfl (j := 0) rfl ?_
            refine ax_getR B d_M_take_115 k_M_90 rfl hf (fun x25 hf => ?_)
            refine ax_iload_n B d_M_take_118 rfl (j := 1) rfl ?_
            refine ax_lald B d_M_take_119 (t := 1) (by decide) rfl hf (fun x26 hf => ?_)
            refine ax_l2i B d_M_take_120 ?_
            exact ax_ireturn B hE d_M_take_121 hf rfl hag (by decide) (by decide)
          · refine ax_sub [] rfl ?_
            exact K_M_take_51 B hn hR hE hag q8.2 hf
        · refine ax_sub [] rfl ?_
          exact K_M_take_51 B hn hR hE hag q5.2 hf
      · refine ax_sub [] rfl ?_
        exact K_M_take_51 B hn hR hE hag q2.2 hf
def G_M_price_103  (M : ax_M) (v0 : Option Nat) (v1 : Int32) : Option (Int32 × ax_M) := (ax_gr M 3 33 v0).bind (fun x1 => (ax_rl M 1 x1 v1).bind (fun x2 => some ((x2.toInt32), M)))
set_option maxRecDepth 100000 in
set_option maxHeartbeats 4000000 in
theorem K_M_price_103 {Z : ax_Z} {ad0 ad : Nat → Nat} {q : Int32 × ax_M} (B : ax_B Z "VoteAuctionsModel" b_M_price (some .int)) (hn : Z.2.2.2.2.2.2.2.2.2.2.2.1 = 4) (hR : ax_R Z 1 0 0) (hE : ax_E Z ad0 [] 0 0 (some (ax_I q.1)) q.2) (hag : ∀ a, a ∉ ([] : List Nat) → ad a = ad0 a)   : ∀ (M : ax_M) (v0 : Option Nat) (v1 : Int32), G_M_price_103  M v0 v1 = some q → ax_W Z ad 0 0 103 [(0, ax_O v0), (1, ax_I v1)] [] M := by
  intro M v0 v1 hf
  unfold G_M_price_103 at hf
  refine ax_aload_n B d_M_price_103 rfl (j := 0) rfl ?_
  refine ax_getR B d_M_price_104 k_M_90 rfl hf (fun x1 hf => ?_)
  refine ax_iload_n B d_M_price_107 rfl (j := 1) rfl ?_
  refine ax_lald B d_M_price_108 (t := 1) (by decide) rfl hf (fun x2 hf => ?_)
  refine ax_l2i B d_M_price_109 ?_
  exact ax_ireturn B hE d_M_price_110 hf rfl hag (by decide) (by decide)
def G_M_price_77  (M : ax_M) (s0 : Int32) : Option (Int32 × ax_M) := some (s0, M)
set_option maxRecDepth 100000 in
set_option maxHeartbeats 4000000 in
theorem K_M_price_77 {Z : ax_Z} {ad0 ad : Nat → Nat} {q : Int32 × ax_M} (B : ax_B Z "VoteAuctionsModel" b_M_price (some .int)) (hn : Z.2.2.2.2.2.2.2.2.2.2.2.1 = 4) (hR : ax_R Z 1 0 0) (hE : ax_E Z ad0 [] 0 0 (some (ax_I q.1)) q.2) (hag : ∀ a, a ∉ ([] : List Nat) → ad a = ad0 a)   : ∀ (M : ax_M) (s0 : Int32), G_M_price_77  M s0 = some q → ax_W Z ad 0 0 77 [] [ax_I s0] M := by
  intro M s0 hf
  unfold G_M_price_77 at hf
  exact ax_ireturn B hE d_M_price_77 hf rfl hag (by decide) (by decide)
def G_M_price_60 (rec23 : ax_M → Option Nat → Int32 → Int32 → Int32 → Option (Int32 × ax_M)) (M : ax_M) (v0 : Option Nat) (v1 : Int32) (v3 : Int32) (s0 : Int32) : Option (Int32 × ax_M) := (some (v3 + 1)).bind (fun y1 => rec23 M v0 v1 s0 y1)
set_option maxRecDepth 100000 in
set_option maxHeartbeats 4000000 in
theorem K_M_price_60 {Z : ax_Z} {ad0 ad : Nat → Nat} {q : Int32 × ax_M} (B : ax_B Z "VoteAuctionsModel" b_M_price (some .int)) (hn : Z.2.2.2.2.2.2.2.2.2.2.2.1 = 4) (hR : ax_R Z 1 0 0) (hE : ax_E Z ad0 [] 0 0 (some (ax_I q.1)) q.2) (hag : ∀ a, a ∉ ([] : List Nat) → ad a = ad0 a) {rec23 : ax_M → Option Nat → Int32 → Int32 → Int32 → Option (Int32 × ax_M)} (hr23 : ∀ (M : ax_M) (v0 : Option Nat) (v1 : Int32) (v2 : Int32) (v3 : Int32), rec23 M v0 v1 v2 v3 = some q → ax_W Z ad 0 0 23 [(0, ax_O v0), (1, ax_I v1), (2, ax_I v2), (3, ax_I v3)] [] M) : ∀ (M : ax_M) (v0 : Option Nat) (v1 : Int32) (v3 : Int32) (s0 : Int32), G_M_price_60 rec23 M v0 v1 v3 s0 = some q → ax_W Z ad 0 0 60 [(0, ax_O v0), (1, ax_I v1), (3, ax_I v3)] [ax_I s0] M := by
  intro M v0 v1 v3 s0 hf
  unfold G_M_price_60 at hf
  refine ax_istore_n B (lv' := [(2, ax_I s0), (0, ax_O v0), (1, ax_I v1), (3, ax_I v3)]) d_M_price_60 rfl (by rw [hn]; decide) rfl ?_
  refine ax_iincN B (j := 3) (lv' := fun y => [(3, ax_I y), (2, ax_I s0), (0, ax_O v0), (1, ax_I v1)]) d_M_price_61 rfl hf rfl (by rw [hn]; decide) (fun _ => rfl) (fun y1 hf => ?_)
  refine ax_goto B (tgt := 23) d_M_price_64 (by decide) ?_
  refine ax_sub [2, 3, 1, 0] rfl ?_
  exact hr23 M v0 v1 s0 y1 hf
def G_M_price_23 (rec23 : ax_M → Option Nat → Int32 → Int32 → Int32 → Option (Int32 × ax_M)) (M : ax_M) (v0 : Option Nat) (v1 : Int32) (v2 : Int32) (v3 : Int32) : Option (Int32 × ax_M) := (ax_gi M 3 3 v0).bind (fun x1 => if x1 ≤ v3 then if 0 ≤ v2 then G_M_price_77 M v2 else G_M_price_77 M (-3) else (ax_gr M 3 35 v0).bind (fun x2 => (ax_ri M 2 x2 ((8 * v1) + v3)).bind (fun x3 => if x3 = 0 then G_M_price_60 rec23 M v0 v1 v3 v2 else (ax_gr M 3 37 v0).bind (fun x4 => (ax_ri M 0 x4 ((8 * v1) + v3)).bind (fun x5 => G_M_price_60 rec23 M v0 v1 v3 x5)))))
set_option maxRecDepth 100000 in
set_option maxHeartbeats 4000000 in
theorem K_M_price_23 {Z : ax_Z} {ad0 ad : Nat → Nat} {q : Int32 × ax_M} (B : ax_B Z "VoteAuctionsModel" b_M_price (some .int)) (hn : Z.2.2.2.2.2.2.2.2.2.2.2.1 = 4) (hR : ax_R Z 1 0 0) (hE : ax_E Z ad0 [] 0 0 (some (ax_I q.1)) q.2) (hag : ∀ a, a ∉ ([] : List Nat) → ad a = ad0 a) {rec23 : ax_M → Option Nat → Int32 → Int32 → Int32 → Option (Int32 × ax_M)} (hr23 : ∀ (M : ax_M) (v0 : Option Nat) (v1 : Int32) (v2 : Int32) (v3 : Int32), rec23 M v0 v1 v2 v3 = some q → ax_W Z ad 0 0 23 [(0, ax_O v0), (1, ax_I v1), (2, ax_I v2), (3, ax_I v3)] [] M) : ∀ (M : ax_M) (v0 : Option Nat) (v1 : Int32) (v2 : Int32) (v3 : Int32), G_M_price_23 rec23 M v0 v1 v2 v3 = some q → ax_W Z ad 0 0 23 [(0, ax_O v0), (1, ax_I v1), (2, ax_I v2), (3, ax_I v3)] [] M := by
  intro M v0 v1 v2 v3 hf
  unfold G_M_price_23 at hf
  refine ax_iload_n B d_M_price_23 rfl (j := 3) rfl ?_
  refine ax_aload_n B d_M_price_24 rfl (j := 0) rfl ?_
  refine ax_getI B d_M_price_25 k_M_136 rfl hf (fun x1 hf => ?_)
  refine ax_icmp_ge B (tgt := 67) d_M_price_28 (by decide) hf (fun hf => ?_) (fun hf => ?_)
  · refine ax_iload_n B d_M_price_67 rfl (j := 2) rfl ?_
    refine ax_if_ge B (tgt := 76) d_M_price_68 (by decide) hf (fun hf => ?_) (fun hf => ?_)
    · refine ax_iload_n B d_M_price_76 rfl (j := 2) rfl ?_
      refine ax_sub [] rfl ?_
      exact K_M_price_77 B hn hR hE hag M v2 hf
    · refine ax_bipush B (v := (-3)) (by decide) d_M_price_71 ?_
      refine ax_goto B (tgt := 77) d_M_price_73 (by decide) ?_
      refine ax_sub [] rfl ?_
      exact K_M_price_77 B hn hR hE hag M (-3) hf
  · refine ax_aload_n B d_M_price_31 rfl (j := 0) rfl ?_
    refine ax_getR B d_M_price_32 k_M_96 rfl hf (fun x2 hf => ?_)
    refine ax_bipush B (v := 8) (by decide) d_M_price_35 ?_
    refine ax_iload_n B d_M_price_37 rfl (j := 1) rfl ?_
    refine ax_imul B d_M_price_38 ?_
    refine ax_iload_n B d_M_price_39 rfl (j := 3) rfl ?_
    refine ax_iadd B d_M_price_40 ?_
    refine ax_zald B d_M_price_41 (t := 2) (by decide) rfl hf (fun x3 hf => ?_)
    refine ax_if_eq B (tgt := 59) d_M_price_42 (by decide) hf (fun hf => ?_) (fun hf => ?_)
    · refine ax_iload_n B d_M_price_59 rfl (j := 2) rfl ?_
      refine ax_sub [0, 1, 3] rfl ?_
      exact K_M_price_60 B hn hR hE hag hr23 M v0 v1 v3 v2 hf
    · refine ax_aload_n B d_M_price_45 rfl (j := 0) rfl ?_
      refine ax_getR B d_M_price_46 k_M_102 rfl hf (fun x4 hf => ?_)
      refine ax_bipush B (v := 8) (by decide) d_M_price_49 ?_
      refine ax_iload_n B d_M_price_51 rfl (j := 1) rfl ?_
      refine ax_imul B d_M_price_52 ?_
      refine ax_iload_n B d_M_price_53 rfl (j := 3) rfl ?_
      refine ax_iadd B d_M_price_54 ?_
      refine ax_iald B d_M_price_55 (t := 0) (by decide) rfl hf (fun x5 hf => ?_)
      refine ax_goto B (tgt := 60) d_M_price_56 (by decide) ?_
      refine ax_sub [0, 1, 3] rfl ?_
      exact K_M_price_60 B hn hR hE hag hr23 M v0 v1 v3 x5 hf
def F_M_price_23  : Nat → ax_M → Option Nat → Int32 → Int32 → Int32 → Option (Int32 × ax_M)
  | 0 => fun _ _ _ _ _ => none
  | n + 1 => G_M_price_23 (F_M_price_23  n)
set_option maxRecDepth 100000 in
set_option maxHeartbeats 4000000 in
theorem L_M_price_23 {Z : ax_Z} {ad0 ad : Nat → Nat} {q : Int32 × ax_M} (B : ax_B Z "VoteAuctionsModel" b_M_price (some .int)) (hn : Z.2.2.2.2.2.2.2.2.2.2.2.1 = 4) (hR : ax_R Z 1 0 0) (hE : ax_E Z ad0 [] 0 0 (some (ax_I q.1)) q.2) (hag : ∀ a, a ∉ ([] : List Nat) → ad a = ad0 a)   : ∀ (n : Nat) (M : ax_M) (v0 : Option Nat) (v1 : Int32) (v2 : Int32) (v3 : Int32), F_M_price_23  n M v0 v1 v2 v3 = some q → ax_W Z ad 0 0 23 [(0, ax_O v0), (1, ax_I v1), (2, ax_I v2), (3, ax_I v3)] [] M := by
  intro n
  induction n with
  | zero => intro M v0 v1 v2 v3 hf; cases hf
  | succ n ih => exact K_M_price_23 B hn hR hE hag ih
def f_M_price (M : ax_M) (x0 : Option Nat) (p0 : Int32) : Option (Int32 × ax_M) := (ax_ob M 3 x0).bind (fun _ => (f_M_isAuction M x0 p0).bind (fun q1 => if q1.1 = 0 then some ((-1), q1.2) else (ax_gr q1.2 3 27 x0).bind (fun x2 => (ax_ri q1.2 0 x2 p0).bind (fun x3 => if x3 = 0 then F_M_price_23 64 q1.2 x0 p0 (-1) 0 else (ax_gr q1.2 3 27 x0).bind (fun x4 => (ax_ri q1.2 0 x4 p0).bind (fun x5 => if x5 = 3 then (ax_ob q1.2 3 x0).bind (fun _ => (f_M_isOver q1.2 x0 p0).bind (fun q6 => if q6.1 = 0 then (ax_ob q6.2 3 x0).bind (fun _ => (f_M_nowPrice q6.2 x0 p0).bind (fun q7 => some ((q7.1.toInt32), q7.2))) else G_M_price_103 q6.2 x0 p0)) else G_M_price_103 q1.2 x0 p0))))))
set_option maxRecDepth 100000 in
set_option maxHeartbeats 4000000 in
theorem c_M_price (l : Launch) (G : ax_G) (M : ax_M) (x0 : Option Nat) (p0 : Int32) {q : Int32 × ax_M} (hf : f_M_price M x0 p0 = some q) : ax_C l G y_M_price b_M_price 4 (some .int) [] 1 0 0 [ax_O x0, ax_I p0] M (some (ax_I q.1)) q.2 := by
  refine ax_ofW (by decide +kernel) (lv0 := [(0, ax_O x0), (1, ax_I p0)]) (Nat.le_of_ble_eq_true rfl) rfl ?_
  intro Z ad B hin _ _ hn hR hE
  have hag : ∀ a, a ∉ ([] : List Nat) → ad a = ad a := fun _ _ => rfl
  unfold f_M_price at hf
  refine ax_aload_n B d_M_price_0 rfl (j := 0) rfl ?_
  refine ax_iload_n B d_M_price_1 rfl (j := 1) rfl ?_
  refine ax_cVV B hR (as := [ax_I p0]) (V := fun q => ax_I q.1) (N := fun q => q.2) d_M_price_2 l_M_228 m_M_isAuction hf (fun q h => c_M_isAuction _ _ _ _ _ h) rfl rfl (by decide) (by decide) (by decide) (by decide) (Nat.le_of_ble_eq_true rfl) (fun q1 hf => ?_)
  refine ax_if_ne B (tgt := 10) d_M_price_5 (by decide) hf (fun hf => ?_) (fun hf => ?_)
  · refine ax_iconst B (v := (-1)) (by decide) d_M_price_8 ?_
    exact ax_ireturn B hE d_M_price_9 hf rfl hag (by decide) (by decide)
  · refine ax_aload_n B d_M_price_10 rfl (j := 0) rfl ?_
    refine ax_getR B d_M_price_11 k_M_72 rfl hf (fun x2 hf => ?_)
    refine ax_iload_n B d_M_price_14 rfl (j := 1) rfl ?_
    refine ax_iald B d_M_price_15 (t := 0) (by decide) rfl hf (fun x3 hf => ?_)
    refine ax_if_ne B (tgt := 78) d_M_price_16 (by decide) hf (fun hf => ?_) (fun hf => ?_)
    · refine ax_iconst B (v := (-1)) (by decide) d_M_price_19 ?_
      refine ax_istore_n B (lv' := [(2, ax_I (-1)), (0, ax_O x0), (1, ax_I p0)]) d_M_price_20 rfl (by rw [hn]; decide) rfl ?_
      refine ax_iconst B (v := 0) (by decide) d_M_price_21 ?_
      refine ax_istore_n B (lv' := [(3, ax_I 0), (2, ax_I (-1)), (0, ax_O x0), (1, ax_I p0)]) d_M_price_22 rfl (by rw [hn]; decide) rfl ?_
      refine ax_sub [2, 3, 1, 0] rfl ?_
      exact L_M_price_23 B hn hR hE hag 64 q1.2 x0 p0 (-1) 0 hf
    · refine ax_aload_n B d_M_price_78 rfl (j := 0) rfl ?_
      refine ax_getR B d_M_price_79 k_M_72 rfl hf (fun x4 hf => ?_)
      refine ax_iload_n B d_M_price_82 rfl (j := 1) rfl ?_
      refine ax_iald B d_M_price_83 (t := 0) (by decide) rfl hf (fun x5 hf => ?_)
      refine ax_iconst B (v := 3) (by decide) d_M_price_84 ?_
      refine ax_icmp_ne B (tgt := 103) d_M_price_85 (by decide) hf (fun hf => ?_) (fun hf => ?_)
      · refine ax_aload_n B d_M_price_88 rfl (j := 0) rfl ?_
        refine ax_iload_n B d_M_price_89 rfl (j := 1) rfl ?_
        refine ax_cVV B hR (as := [ax_I p0]) (V := fun q => ax_I q.1) (N := fun q => q.2) d_M_price_90 l_M_231 m_M_isOver hf (fun q h => c_M_isOver _ _ _ _ _ h) rfl rfl (by decide) (by decide) (by decide) (by decide) (Nat.le_of_ble_eq_true rfl) (fun q6 hf => ?_)
        refine ax_if_ne B (tgt := 103) d_M_price_93 (by decide) hf (fun hf => ?_) (fun hf => ?_)
        · refine ax_aload_n B d_M_price_96 rfl (j := 0) rfl ?_
          refine ax_iload_n B d_M_price_97 rfl (j := 1) rfl ?_
          refine ax_cVV B hR (as := [ax_I p0]) (V := fun q => ax_L q.1) (N := fun q => q.2) d_M_price_98 l_M_248 m_M_nowPrice hf (fun q h => c_M_nowPrice _ _ _ _ _ h) rfl rfl (by decide) (by decide) (by decide) (by decide) (Nat.le_of_ble_eq_true rfl) (fun q7 hf => ?_)
          refine ax_l2i B d_M_price_101 ?_
          exact ax_ireturn B hE d_M_price_102 hf rfl hag (by decide) (by decide)
        · exact K_M_price_103 B hn hR hE hag q6.2 x0 p0 hf
      · exact K_M_price_103 B hn hR hE hag q1.2 x0 p0 hf
def G_M_won_31  (M : ax_M) (s0 : Int32) : Option (Int32 × ax_M) := some (s0, M)
set_option maxRecDepth 100000 in
set_option maxHeartbeats 4000000 in
theorem K_M_won_31 {Z : ax_Z} {ad0 ad : Nat → Nat} {q : Int32 × ax_M} (B : ax_B Z "VoteAuctionsModel" b_M_won (some .int)) (hn : Z.2.2.2.2.2.2.2.2.2.2.2.1 = 3) (hR : ax_R Z 1 0 0) (hE : ax_E Z ad0 [] 0 0 (some (ax_I q.1)) q.2) (hag : ∀ a, a ∉ ([] : List Nat) → ad a = ad0 a)   : ∀ (M : ax_M) (s0 : Int32), G_M_won_31  M s0 = some q → ax_W Z ad 0 0 31 [] [ax_I s0] M := by
  intro M s0 hf
  unfold G_M_won_31 at hf
  exact ax_ireturn B hE d_M_won_31 hf rfl hag (by decide) (by decide)
def G_M_won_30  (M : ax_M)  : Option (Int32 × ax_M) := G_M_won_31 M (-1)
set_option maxRecDepth 100000 in
set_option maxHeartbeats 4000000 in
theorem K_M_won_30 {Z : ax_Z} {ad0 ad : Nat → Nat} {q : Int32 × ax_M} (B : ax_B Z "VoteAuctionsModel" b_M_won (some .int)) (hn : Z.2.2.2.2.2.2.2.2.2.2.2.1 = 3) (hR : ax_R Z 1 0 0) (hE : ax_E Z ad0 [] 0 0 (some (ax_I q.1)) q.2) (hag : ∀ a, a ∉ ([] : List Nat) → ad a = ad0 a)   : ∀ (M : ax_M) , G_M_won_30  M  = some q → ax_W Z ad 0 0 30 [] [] M := by
  intro M  hf
  unfold G_M_won_30 at hf
  refine ax_iconst B (v := (-1)) (by decide) d_M_won_30 ?_
  exact K_M_won_31 B hn hR hE hag M (-1) hf
def f_M_won (M : ax_M) (x0 : Option Nat) (p0 : Int32) (p1 : Int32) : Option (Int32 × ax_M) := (ax_ob M 3 x0).bind (fun _ => (f_M_isAuction M x0 p0).bind (fun q1 => if q1.1 = 0 then G_M_won_30 q1.2 else (ax_ob q1.2 3 x0).bind (fun _ => (f_M_isAccount q1.2 x0 p1).bind (fun q2 => if q2.1 = 0 then G_M_won_30 q2.2 else (ax_gr q2.2 3 41 x0).bind (fun x3 => (ax_ri q2.2 0 x3 ((8 * p0) + p1)).bind (fun x4 => G_M_won_31 q2.2 x4))))))
set_option maxRecDepth 100000 in
set_option maxHeartbeats 4000000 in
theorem c_M_won (l : Launch) (G : ax_G) (M : ax_M) (x0 : Option Nat) (p0 : Int32) (p1 : Int32) {q : Int32 × ax_M} (hf : f_M_won M x0 p0 p1 = some q) : ax_C l G y_M_won b_M_won 3 (some .int) [] 1 0 0 [ax_O x0, ax_I p0, ax_I p1] M (some (ax_I q.1)) q.2 := by
  refine ax_ofW (by decide +kernel) (lv0 := [(0, ax_O x0), (1, ax_I p0), (2, ax_I p1)]) (Nat.le_of_ble_eq_true rfl) rfl ?_
  intro Z ad B hin _ _ hn hR hE
  have hag : ∀ a, a ∉ ([] : List Nat) → ad a = ad a := fun _ _ => rfl
  unfold f_M_won at hf
  refine ax_aload_n B d_M_won_0 rfl (j := 0) rfl ?_
  refine ax_iload_n B d_M_won_1 rfl (j := 1) rfl ?_
  refine ax_cVV B hR (as := [ax_I p0]) (V := fun q => ax_I q.1) (N := fun q => q.2) d_M_won_2 l_M_228 m_M_isAuction hf (fun q h => c_M_isAuction _ _ _ _ _ h) rfl rfl (by decide) (by decide) (by decide) (by decide) (Nat.le_of_ble_eq_true rfl) (fun q1 hf => ?_)
  refine ax_if_eq B (tgt := 30) d_M_won_5 (by decide) hf (fun hf => ?_) (fun hf => ?_)
  · refine ax_sub [] rfl ?_
    exact K_M_won_30 B hn hR hE hag q1.2 hf
  · refine ax_aload_n B d_M_won_8 rfl (j := 0) rfl ?_
    refine ax_iload_n B d_M_won_9 rfl (j := 2) rfl ?_
    refine ax_cVV B hR (as := [ax_I p1]) (V := fun q => ax_I q.1) (N := fun q => q.2) d_M_won_10 l_M_143 m_M_isAccount hf (fun q h => c_M_isAccount _ _ _ _ _ h) rfl rfl (by decide) (by decide) (by decide) (by decide) (Nat.le_of_ble_eq_true rfl) (fun q2 hf => ?_)
    refine ax_if_eq B (tgt := 30) d_M_won_13 (by decide) hf (fun hf => ?_) (fun hf => ?_)
    · refine ax_sub [] rfl ?_
      exact K_M_won_30 B hn hR hE hag q2.2 hf
    · refine ax_aload_n B d_M_won_16 rfl (j := 0) rfl ?_
      refine ax_getR B d_M_won_17 k_M_114 rfl hf (fun x3 hf => ?_)
      refine ax_bipush B (v := 8) (by decide) d_M_won_20 ?_
      refine ax_iload_n B d_M_won_22 rfl (j := 1) rfl ?_
      refine ax_imul B d_M_won_23 ?_
      refine ax_iload_n B d_M_won_24 rfl (j := 2) rfl ?_
      refine ax_iadd B d_M_won_25 ?_
      refine ax_iald B d_M_won_26 (t := 0) (by decide) rfl hf (fun x4 hf => ?_)
      refine ax_goto B (tgt := 31) d_M_won_27 (by decide) ?_
      refine ax_sub [] rfl ?_
      exact K_M_won_31 B hn hR hE hag q2.2 x4 hf
