def G_M_isHidden_20  (M : ax_M) (s0 : Int32) : Option (Int32 × ax_M) := (ax_bo s0).bind (fun _ => some (s0, M))
set_option maxRecDepth 100000 in
set_option maxHeartbeats 4000000 in
theorem K_M_isHidden_20 {Z : ax_Z} {ad0 ad : Nat → Nat} {q : Int32 × ax_M} (B : ax_B Z "VoteAuctionsModel" b_M_isHidden (some .boolean)) (hn : Z.2.2.2.2.2.2.2.2.2.2.2.1 = 2) (hR : ax_R Z 0 0 0) (hE : ax_E Z ad0 [] 0 0 (some (ax_I q.1)) q.2) (hag : ∀ a, a ∉ ([] : List Nat) → ad a = ad0 a)   : ∀ (M : ax_M) (s0 : Int32), G_M_isHidden_20  M s0 = some q → ax_W Z ad 0 0 20 [] [ax_I s0] M := by
  intro M s0 hf
  unfold G_M_isHidden_20 at hf
  obtain ⟨_, hb, hf⟩ := ax_bd hf
  exact ax_ireturn B hE d_M_isHidden_20 hf (ax_bo_n hb) hag (by decide) (by decide)
def f_M_isHidden (M : ax_M) (x0 : Option Nat) (p0 : Int32) : Option (Int32 × ax_M) := (ax_gr M 3 12 x0).bind (fun x1 => (ax_ri M 0 x1 p0).bind (fun x2 => (ax_gr M 3 11 x0).bind (fun x3 => (ax_ri M 0 x3 p0).bind (fun x4 => if x2 ≤ x4 then G_M_isHidden_20 M 0 else G_M_isHidden_20 M 1))))
set_option maxRecDepth 100000 in
set_option maxHeartbeats 4000000 in
theorem c_M_isHidden (l : Launch) (G : ax_G) (M : ax_M) (x0 : Option Nat) (p0 : Int32) {q : Int32 × ax_M} (hf : f_M_isHidden M x0 p0 = some q) : ax_C l G y_M_isHidden b_M_isHidden 2 (some .boolean) [] 0 0 0 [ax_O x0, ax_I p0] M (some (ax_I q.1)) q.2 := by
  refine ax_ofW (by decide +kernel) (lv0 := [(0, ax_O x0), (1, ax_I p0)]) (Nat.le_of_ble_eq_true rfl) rfl ?_
  intro Z ad B hin _ _ hn hR hE
  have hag : ∀ a, a ∉ ([] : List Nat) → ad a = ad a := fun _ _ => rfl
  unfold f_M_isHidden at hf
  refine ax_aload_n B d_M_isHidden_0 rfl (j := 0) rfl ?_
  refine ax_getR B d_M_isHidden_1 k_M_32 rfl hf (fun x1 hf => ?_)
  refine ax_iload_n B d_M_isHidden_4 rfl (j := 1) rfl ?_
  refine ax_iald B d_M_isHidden_5 (t := 0) (by decide) rfl hf (fun x2 hf => ?_)
  refine ax_aload_n B d_M_isHidden_6 rfl (j := 0) rfl ?_
  refine ax_getR B d_M_isHidden_7 k_M_29 rfl hf (fun x3 hf => ?_)
  refine ax_iload_n B d_M_isHidden_10 rfl (j := 1) rfl ?_
  refine ax_iald B d_M_isHidden_11 (t := 0) (by decide) rfl hf (fun x4 hf => ?_)
  refine ax_icmp_le B (tgt := 19) d_M_isHidden_12 (by decide) hf (fun hf => ?_) (fun hf => ?_)
  · refine ax_iconst B (v := 0) (by decide) d_M_isHidden_19 ?_
    refine ax_sub [] rfl ?_
    exact K_M_isHidden_20 B hn hR hE hag M 0 hf
  · refine ax_iconst B (v := 1) (by decide) d_M_isHidden_15 ?_
    refine ax_goto B (tgt := 20) d_M_isHidden_16 (by decide) ?_
    refine ax_sub [] rfl ?_
    exact K_M_isHidden_20 B hn hR hE hag M 1 hf
def G_M_call_16  (M : ax_M)  : Option (Int32 × ax_M) := some ((-1), M)
set_option maxRecDepth 100000 in
set_option maxHeartbeats 4000000 in
theorem K_M_call_16 {Z : ax_Z} {ad0 ad : Nat → Nat} {q : Int32 × ax_M} (B : ax_B Z "VoteAuctionsModel" b_M_call (some .int)) (hn : Z.2.2.2.2.2.2.2.2.2.2.2.1 = 5) (hR : ax_R Z 1 0 0) (hE : ax_E Z ad0 [] 0 0 (some (ax_I q.1)) q.2) (hag : ∀ a, a ∉ ([] : List Nat) → ad a = ad0 a)   : ∀ (M : ax_M) , G_M_call_16  M  = some q → ax_W Z ad 0 0 16 [] [] M := by
  intro M  hf
  unfold G_M_call_16 at hf
  refine ax_iconst B (v := (-1)) (by decide) d_M_call_16 ?_
  exact ax_ireturn B hE d_M_call_17 hf rfl hag (by decide) (by decide)
def G_M_call_39  (M : ax_M)  : Option (Int32 × ax_M) := some ((-2), M)
set_option maxRecDepth 100000 in
set_option maxHeartbeats 4000000 in
theorem K_M_call_39 {Z : ax_Z} {ad0 ad : Nat → Nat} {q : Int32 × ax_M} (B : ax_B Z "VoteAuctionsModel" b_M_call (some .int)) (hn : Z.2.2.2.2.2.2.2.2.2.2.2.1 = 5) (hR : ax_R Z 1 0 0) (hE : ax_E Z ad0 [] 0 0 (some (ax_I q.1)) q.2) (hag : ∀ a, a ∉ ([] : List Nat) → ad a = ad0 a)   : ∀ (M : ax_M) , G_M_call_39  M  = some q → ax_W Z ad 0 0 39 [] [] M := by
  intro M  hf
  unfold G_M_call_39 at hf
  refine ax_bipush B (v := (-2)) (by decide) d_M_call_39 ?_
  exact ax_ireturn B hE d_M_call_41 hf rfl hag (by decide) (by decide)
def f_M_call (M : ax_M) (x0 : Option Nat) (p0 : Int32) (p1 : Int32) (p2 : Int32) (p3 : Int32) : Option (Int32 × ax_M) := (ax_ob M 3 x0).bind (fun _ => (f_M_isQuestion M x0 p0).bind (fun q1 => if q1.1 = 0 then G_M_call_16 q1.2 else (ax_ob q1.2 3 x0).bind (fun _ => (f_M_isAccount q1.2 x0 p1).bind (fun q2 => if q2.1 = 0 then G_M_call_16 q2.2 else (f_M_isIn q2.2 p2 0 100000).bind (fun q3 => if q3.1 = 0 then G_M_call_39 q3.2 else (f_M_isIn q3.2 p3 0 50).bind (fun q4 => if q4.1 = 0 then G_M_call_39 q4.2 else (ax_gi q4.2 3 1 x0).bind (fun x5 => (ax_gr q4.2 3 11 x0).bind (fun x6 => (ax_ri q4.2 0 x6 p0).bind (fun x7 => if x5 < x7 then (ax_gr q4.2 3 14 x0).bind (fun x8 => (ax_ti q4.2 2 x8 p0 1).bind (fun M9 => (ax_gr M9 3 16 x0).bind (fun x10 => (ax_ti M9 0 x10 p0 p1).bind (fun M11 => (ax_gr M11 3 17 x0).bind (fun x12 => (ax_ti M11 0 x12 p0 p2).bind (fun M13 => (ax_gr M13 3 18 x0).bind (fun x14 => (ax_ti M13 0 x14 p0 p3).bind (fun M15 => some (1, M15))))))))) else some ((-3), q4.2))))))))))
set_option maxRecDepth 100000 in
set_option maxHeartbeats 4000000 in
theorem c_M_call (l : Launch) (G : ax_G) (M : ax_M) (x0 : Option Nat) (p0 : Int32) (p1 : Int32) (p2 : Int32) (p3 : Int32) {q : Int32 × ax_M} (hf : f_M_call M x0 p0 p1 p2 p3 = some q) : ax_C l G y_M_call b_M_call 5 (some .int) [] 1 0 0 [ax_O x0, ax_I p0, ax_I p1, ax_I p2, ax_I p3] M (some (ax_I q.1)) q.2 := by
  refine ax_ofW (by decide +kernel) (lv0 := [(0, ax_O x0), (1, ax_I p0), (2, ax_I p1), (3, ax_I p2), (4, ax_I p3)]) (Nat.le_of_ble_eq_true rfl) rfl ?_
  intro Z ad B hin _ _ hn hR hE
  have hag : ∀ a, a ∉ ([] : List Nat) → ad a = ad a := fun _ _ => rfl
  unfold f_M_call at hf
  refine ax_aload_n B d_M_call_0 rfl (j := 0) rfl ?_
  refine ax_iload_n B d_M_call_1 rfl (j := 1) rfl ?_
  refine ax_cVV B hR (as := [ax_I p0]) (V := fun q => ax_I q.1) (N := fun q => q.2) d_M_call_2 l_M_173 m_M_isQuestion hf (fun q h => c_M_isQuestion _ _ _ _ _ h) rfl rfl (by decide) (by decide) (by decide) (by decide) (Nat.le_of_ble_eq_true rfl) (fun q1 hf => ?_)
  refine ax_if_eq B (tgt := 16) d_M_call_5 (by decide) hf (fun hf => ?_) (fun hf => ?_)
  · refine ax_sub [] rfl ?_
    exact K_M_call_16 B hn hR hE hag q1.2 hf
  · refine ax_aload_n B d_M_call_8 rfl (j := 0) rfl ?_
    refine ax_iload_n B d_M_call_9 rfl (j := 2) rfl ?_
    refine ax_cVV B hR (as := [ax_I p1]) (V := fun q => ax_I q.1) (N := fun q => q.2) d_M_call_10 l_M_143 m_M_isAccount hf (fun q h => c_M_isAccount _ _ _ _ _ h) rfl rfl (by decide) (by decide) (by decide) (by decide) (Nat.le_of_ble_eq_true rfl) (fun q2 hf => ?_)
    refine ax_if_ne B (tgt := 18) d_M_call_13 (by decide) hf (fun hf => ?_) (fun hf => ?_)
    · refine ax_sub [] rfl ?_
      exact K_M_call_16 B hn hR hE hag q2.2 hf
    · refine ax_iload_n B d_M_call_18 rfl (j := 3) rfl ?_
      refine ax_iconst B (v := 0) (by decide) d_M_call_19 ?_
      refine ax_ldc B (v := 100000) n_M_147 d_M_call_20 ?_
      refine ax_cSV B hR (as := [ax_I p2, ax_I 0, ax_I 100000]) (V := fun q => ax_I q.1) (N := fun q => q.2) d_M_call_22 l_M_139 m_M_isIn hf (fun q h => c_M_isIn _ _ _ _ _ _ h) rfl rfl (by decide) (by decide) (by decide) (by decide) (Nat.le_of_ble_eq_true rfl) (fun q3 hf => ?_)
      refine ax_if_eq B (tgt := 39) d_M_call_25 (by decide) hf (fun hf => ?_) (fun hf => ?_)
      · refine ax_sub [] rfl ?_
        exact K_M_call_39 B hn hR hE hag q3.2 hf
      · refine ax_iload B (j := 4) d_M_call_28 rfl ?_
        refine ax_iconst B (v := 0) (by decide) d_M_call_30 ?_
        refine ax_bipush B (v := 50) (by decide) d_M_call_31 ?_
        refine ax_cSV B hR (as := [ax_I p3, ax_I 0, ax_I 50]) (V := fun q => ax_I q.1) (N := fun q => q.2) d_M_call_33 l_M_139 m_M_isIn hf (fun q h => c_M_isIn _ _ _ _ _ _ h) rfl rfl (by decide) (by decide) (by decide) (by decide) (Nat.le_of_ble_eq_true rfl) (fun q4 hf => ?_)
        refine ax_if_ne B (tgt := 42) d_M_call_36 (by decide) hf (fun hf => ?_) (fun hf => ?_)
        · refine ax_sub [] rfl ?_
          exact K_M_call_39 B hn hR hE hag q4.2 hf
        · refine ax_aload_n B d_M_call_42 rfl (j := 0) rfl ?_
          refine ax_getI B d_M_call_43 k_M_156 rfl hf (fun x5 hf => ?_)
          refine ax_aload_n B d_M_call_46 rfl (j := 0) rfl ?_
          refine ax_getR B d_M_call_47 k_M_29 rfl hf (fun x6 hf => ?_)
          refine ax_iload_n B d_M_call_50 rfl (j := 1) rfl ?_
          refine ax_iald B d_M_call_51 (t := 0) (by decide) rfl hf (fun x7 hf => ?_)
          refine ax_icmp_lt B (tgt := 58) d_M_call_52 (by decide) hf (fun hf => ?_) (fun hf => ?_)
          · refine ax_aload_n B d_M_call_58 rfl (j := 0) rfl ?_
            refine ax_getR B d_M_call_59 k_M_38 rfl hf (fun x8 hf => ?_)
            refine ax_iload_n B d_M_call_62 rfl (j := 1) rfl ?_
            refine ax_iconst B (v := 1) (by decide) d_M_call_63 ?_
            refine ax_zast B d_M_call_64 (t := 2) (by decide) rfl (by decide) hf (fun M9 hf => ?_)
            refine ax_aload_n B d_M_call_65 rfl (j := 0) rfl ?_
            refine ax_getR B d_M_call_66 k_M_45 rfl hf (fun x10 hf => ?_)
            refine ax_iload_n B d_M_call_69 rfl (j := 1) rfl ?_
            refine ax_iload_n B d_M_call_70 rfl (j := 2) rfl ?_
            refine ax_iast B d_M_call_71 (t := 0) (by decide) rfl hf (fun M11 hf => ?_)
            refine ax_aload_n B d_M_call_72 rfl (j := 0) rfl ?_
            refine ax_getR B d_M_call_73 k_M_48 rfl hf (fun x12 hf => ?_)
            refine ax_iload_n B d_M_call_76 rfl (j := 1) rfl ?_
            refine ax_iload_n B d_M_call_77 rfl (j := 3) rfl ?_
            refine ax_iast B d_M_call_78 (t := 0) (by decide) rfl hf (fun M13 hf => ?_)
            refine ax_aload_n B d_M_call_79 rfl (j := 0) rfl ?_
            refine ax_getR B d_M_call_80 k_M_51 rfl hf (fun x14 hf => ?_)
            refine ax_iload_n B d_M_call_83 rfl (j := 1) rfl ?_
            refine ax_iload B (j := 4) d_M_call_84 rfl ?_
            refine ax_iast B d_M_call_86 (t := 0) (by decide) rfl hf (fun M15 hf => ?_)
            refine ax_iconst B (v := 1) (by decide) d_M_call_87 ?_
            exact ax_ireturn B hE d_M_call_88 hf rfl hag (by decide) (by decide)
          · refine ax_bipush B (v := (-3)) (by decide) d_M_call_55 ?_
            exact ax_ireturn B hE d_M_call_57 hf rfl hag (by decide) (by decide)
def G_M_isRanks_63  (M : ax_M) (s0 : Int32) : Option (Int32 × ax_M) := (ax_bo s0).bind (fun _ => some (s0, M))
set_option maxRecDepth 100000 in
set_option maxHeartbeats 4000000 in
theorem K_M_isRanks_63 {Z : ax_Z} {ad0 ad : Nat → Nat} {q : Int32 × ax_M} (B : ax_B Z "VoteAuctionsModel" b_M_isRanks (some .boolean)) (hn : Z.2.2.2.2.2.2.2.2.2.2.2.1 = 5) (hR : ax_R Z 0 0 0) (hE : ax_E Z ad0 [] 0 0 (some (ax_I q.1)) q.2) (hag : ∀ a, a ∉ ([] : List Nat) → ad a = ad0 a)   : ∀ (M : ax_M) (s0 : Int32), G_M_isRanks_63  M s0 = some q → ax_W Z ad 0 0 63 [] [ax_I s0] M := by
  intro M s0 hf
  unfold G_M_isRanks_63 at hf
  obtain ⟨_, hb, hf⟩ := ax_bd hf
  exact ax_ireturn B hE d_M_isRanks_63 hf (ax_bo_n hb) hag (by decide) (by decide)
def G_M_isRanks_62  (M : ax_M)  : Option (Int32 × ax_M) := G_M_isRanks_63 M 0
set_option maxRecDepth 100000 in
set_option maxHeartbeats 4000000 in
theorem K_M_isRanks_62 {Z : ax_Z} {ad0 ad : Nat → Nat} {q : Int32 × ax_M} (B : ax_B Z "VoteAuctionsModel" b_M_isRanks (some .boolean)) (hn : Z.2.2.2.2.2.2.2.2.2.2.2.1 = 5) (hR : ax_R Z 0 0 0) (hE : ax_E Z ad0 [] 0 0 (some (ax_I q.1)) q.2) (hag : ∀ a, a ∉ ([] : List Nat) → ad a = ad0 a)   : ∀ (M : ax_M) , G_M_isRanks_62  M  = some q → ax_W Z ad 0 0 62 [] [] M := by
  intro M  hf
  unfold G_M_isRanks_62 at hf
  refine ax_iconst B (v := 0) (by decide) d_M_isRanks_62 ?_
  exact K_M_isRanks_63 B hn hR hE hag M 0 hf
def G_M_isRanks_33  (M : ax_M)  : Option (Int32 × ax_M) := some (0, M)
set_option maxRecDepth 100000 in
set_option maxHeartbeats 4000000 in
theorem K_M_isRanks_33 {Z : ax_Z} {ad0 ad : Nat → Nat} {q : Int32 × ax_M} (B : ax_B Z "VoteAuctionsModel" b_M_isRanks (some .boolean)) (hn : Z.2.2.2.2.2.2.2.2.2.2.2.1 = 5) (hR : ax_R Z 0 0 0) (hE : ax_E Z ad0 [] 0 0 (some (ax_I q.1)) q.2) (hag : ∀ a, a ∉ ([] : List Nat) → ad a = ad0 a)   : ∀ (M : ax_M) , G_M_isRanks_33  M  = some q → ax_W Z ad 0 0 33 [] [] M := by
  intro M  hf
  unfold G_M_isRanks_33 at hf
  refine ax_iconst B (v := 0) (by decide) d_M_isRanks_33 ?_
  exact ax_ireturn B hE d_M_isRanks_34 hf rfl hag (by decide) (by decide)
def G_M_isRanks_4 (rec4 : ax_M → Int32 → Int32 → Int32 → Int32 → Option (Int32 × ax_M)) (M : ax_M) (v0 : Int32) (v1 : Int32) (v2 : Int32) (v3 : Int32) : Option (Int32 × ax_M) := if (v2 - v2 / 8 * 8) = 0 then if v2 = 0 then if v1 ≤ 0 then G_M_isRanks_62 M else G_M_isRanks_63 M 1 else G_M_isRanks_62 M else (some (v2 - v2 / 8 * 8)).bind (fun y1 => if v0 < y1 then G_M_isRanks_33 M else if ((v3 >>> (y1 &&& 31)) &&& 1) = 1 then G_M_isRanks_33 M else (some (v3 ||| (1 <<< (y1 &&& 31)))).bind (fun y2 => (some (v2 / 8)).bind (fun y3 => rec4 M v0 v1 y3 y2)))
set_option maxRecDepth 100000 in
set_option maxHeartbeats 4000000 in
theorem K_M_isRanks_4 {Z : ax_Z} {ad0 ad : Nat → Nat} {q : Int32 × ax_M} (B : ax_B Z "VoteAuctionsModel" b_M_isRanks (some .boolean)) (hn : Z.2.2.2.2.2.2.2.2.2.2.2.1 = 5) (hR : ax_R Z 0 0 0) (hE : ax_E Z ad0 [] 0 0 (some (ax_I q.1)) q.2) (hag : ∀ a, a ∉ ([] : List Nat) → ad a = ad0 a) {rec4 : ax_M → Int32 → Int32 → Int32 → Int32 → Option (Int32 × ax_M)} (hr4 : ∀ (M : ax_M) (v0 : Int32) (v1 : Int32) (v2 : Int32) (v3 : Int32), rec4 M v0 v1 v2 v3 = some q → ax_W Z ad 0 0 4 [(0, ax_I v0), (1, ax_I v1), (2, ax_I v2), (3, ax_I v3)] [] M) : ∀ (M : ax_M) (v0 : Int32) (v1 : Int32) (v2 : Int32) (v3 : Int32), G_M_isRanks_4 rec4 M v0 v1 v2 v3 = some q → ax_W Z ad 0 0 4 [(0, ax_I v0), (1, ax_I v1), (2, ax_I v2), (3, ax_I v3)] [] M := by
  intro M v0 v1 v2 v3 hf
  unfold G_M_isRanks_4 at hf
  refine ax_iload_n B d_M_isRanks_4 rfl (j := 2) rfl ?_
  refine ax_bipush B (v := 8) (by decide) d_M_isRanks_5 ?_
  refine ax_irem B (by decide) d_M_isRanks_7 ?_
  refine ax_if_eq B (tgt := 50) d_M_isRanks_8 (by decide) hf (fun hf => ?_) (fun hf => ?_)
  · refine ax_iload_n B d_M_isRanks_50 rfl (j := 2) rfl ?_
    refine ax_if_ne B (tgt := 62) d_M_isRanks_51 (by decide) hf (fun hf => ?_) (fun hf => ?_)
    · refine ax_iload_n B d_M_isRanks_54 rfl (j := 1) rfl ?_
      refine ax_if_le B (tgt := 62) d_M_isRanks_55 (by decide) hf (fun hf => ?_) (fun hf => ?_)
      · refine ax_sub [] rfl ?_
        exact K_M_isRanks_62 B hn hR hE hag M hf
      · refine ax_iconst B (v := 1) (by decide) d_M_isRanks_58 ?_
        refine ax_goto B (tgt := 63) d_M_isRanks_59 (by decide) ?_
        refine ax_sub [] rfl ?_
        exact K_M_isRanks_63 B hn hR hE hag M 1 hf
    · refine ax_sub [] rfl ?_
      exact K_M_isRanks_62 B hn hR hE hag M hf
  · refine ax_iload_n B d_M_isRanks_11 rfl (j := 2) rfl ?_
    refine ax_bipush B (v := 8) (by decide) d_M_isRanks_12 ?_
    refine ax_irem B (by decide) d_M_isRanks_14 ?_
    refine ax_nmI hf (fun y1 hf => ?_)
    refine ax_istore B (lv' := [(4, ax_I y1), (0, ax_I v0), (1, ax_I v1), (2, ax_I v2), (3, ax_I v3)]) d_M_isRanks_15 (by rw [hn]; decide) rfl ?_
    refine ax_iload B (j := 0) d_M_isRanks_17 rfl ?_
    refine ax_iload_n B d_M_isRanks_19 rfl (j := 1) rfl ?_
    refine ax_icmp_gt B (tgt := 33) d_M_isRanks_20 (by decide) hf (fun hf => ?_) (fun hf => ?_)
    · refine ax_sub [] rfl ?_
      exact K_M_isRanks_33 B hn hR hE hag M hf
    · refine ax_iload_n B d_M_isRanks_23 rfl (j := 4) rfl ?_
      refine ax_iload B (j := 0) d_M_isRanks_24 rfl ?_
      refine ax_ishr B d_M_isRanks_26 ?_
      refine ax_iconst B (v := 1) (by decide) d_M_isRanks_27 ?_
      refine ax_iand B d_M_isRanks_28 ?_
      refine ax_iconst B (v := 1) (by decide) d_M_isRanks_29 ?_
      refine ax_icmp_ne B (tgt := 35) d_M_isRanks_30 (by decide) hf (fun hf => ?_) (fun hf => ?_)
      · refine ax_sub [] rfl ?_
        exact K_M_isRanks_33 B hn hR hE hag M hf
      · refine ax_iload_n B d_M_isRanks_35 rfl (j := 4) rfl ?_
        refine ax_iconst B (v := 1) (by decide) d_M_isRanks_36 ?_
        refine ax_iload B (j := 0) d_M_isRanks_37 rfl ?_
        refine ax_ishl B d_M_isRanks_39 ?_
        refine ax_ior B d_M_isRanks_40 ?_
        refine ax_nmI hf (fun y2 hf => ?_)
        refine ax_istore_n B (lv' := [(3, ax_I y2), (4, ax_I y1), (0, ax_I v0), (1, ax_I v1), (2, ax_I v2)]) d_M_isRanks_41 rfl (by rw [hn]; decide) rfl ?_
        refine ax_iload_n B d_M_isRanks_42 rfl (j := 4) rfl ?_
        refine ax_bipush B (v := 8) (by decide) d_M_isRanks_43 ?_
        refine ax_idiv B (by decide) d_M_isRanks_45 ?_
        refine ax_nmI hf (fun y3 hf => ?_)
        refine ax_istore_n B (lv' := [(2, ax_I y3), (3, ax_I y2), (4, ax_I y1), (0, ax_I v0), (1, ax_I v1)]) d_M_isRanks_46 rfl (by rw [hn]; decide) rfl ?_
        refine ax_goto B (tgt := 4) d_M_isRanks_47 (by decide) ?_
        refine ax_sub [3, 4, 0, 1] rfl ?_
        exact hr4 M v0 v1 y3 y2 hf
def F_M_isRanks_4  : Nat → ax_M → Int32 → Int32 → Int32 → Int32 → Option (Int32 × ax_M)
  | 0 => fun _ _ _ _ _ => none
  | n + 1 => G_M_isRanks_4 (F_M_isRanks_4  n)
set_option maxRecDepth 100000 in
set_option maxHeartbeats 4000000 in
theorem L_M_isRanks_4 {Z : ax_Z} {ad0 ad : Nat → Nat} {q : Int32 × ax_M} (B : ax_B Z "VoteAuctionsModel" b_M_isRanks (some .boolean)) (hn : Z.2.2.2.2.2.2.2.2.2.2.2.1 = 5) (hR : ax_R Z 0 0 0) (hE : ax_E Z ad0 [] 0 0 (some (ax_I q.1)) q.2) (hag : ∀ a, a ∉ ([] : List Nat) → ad a = ad0 a)   : ∀ (n : Nat) (M : ax_M) (v0 : Int32) (v1 : Int32) (v2 : Int32) (v3 : Int32), F_M_isRanks_4  n M v0 v1 v2 v3 = some q → ax_W Z ad 0 0 4 [(0, ax_I v0), (1, ax_I v1), (2, ax_I v2), (3, ax_I v3)] [] M := by
  intro n
  induction n with
  | zero => intro M v0 v1 v2 v3 hf; cases hf
  | succ n ih => exact K_M_isRanks_4 B hn hR hE hag ih
def f_M_isRanks (M : ax_M) (p0 : Int32) (p1 : Int32) : Option (Int32 × ax_M) := F_M_isRanks_4 64 M p0 p1 p1 0
set_option maxRecDepth 100000 in
set_option maxHeartbeats 4000000 in
theorem c_M_isRanks (l : Launch) (G : ax_G) (M : ax_M) (p0 : Int32) (p1 : Int32) {q : Int32 × ax_M} (hf : f_M_isRanks M p0 p1 = some q) : ax_C l G y_M_isRanks b_M_isRanks 5 (some .boolean) [] 0 0 0 [ax_I p0, ax_I p1] M (some (ax_I q.1)) q.2 := by
  refine ax_ofW (by decide +kernel) (lv0 := [(0, ax_I p0), (1, ax_I p1)]) (Nat.le_of_ble_eq_true rfl) rfl ?_
  intro Z ad B hin _ _ hn hR hE
  have hag : ∀ a, a ∉ ([] : List Nat) → ad a = ad a := fun _ _ => rfl
  unfold f_M_isRanks at hf
  refine ax_iload_n B d_M_isRanks_0 rfl (j := 1) rfl ?_
  refine ax_istore_n B (lv' := [(2, ax_I p1), (0, ax_I p0), (1, ax_I p1)]) d_M_isRanks_1 rfl (by rw [hn]; decide) rfl ?_
  refine ax_iconst B (v := 0) (by decide) d_M_isRanks_2 ?_
  refine ax_istore_n B (lv' := [(3, ax_I 0), (2, ax_I p1), (0, ax_I p0), (1, ax_I p1)]) d_M_isRanks_3 rfl (by rw [hn]; decide) rfl ?_
  refine ax_sub [2, 3, 1, 0] rfl ?_
  exact L_M_isRanks_4 B hn hR hE hag 64 M p0 p1 p1 0 hf
def G_M_isVote_157  (M : ax_M) (s0 : Int32) : Option (Int32 × ax_M) := (ax_bo s0).bind (fun _ => some (s0, M))
set_option maxRecDepth 100000 in
set_option maxHeartbeats 4000000 in
theorem K_M_isVote_157 {Z : ax_Z} {ad0 ad : Nat → Nat} {q : Int32 × ax_M} (B : ax_B Z "VoteAuctionsModel" b_M_isVote (some .boolean)) (hn : Z.2.2.2.2.2.2.2.2.2.2.2.1 = 8) (hR : ax_R Z 1 0 0) (hE : ax_E Z ad0 [] 0 0 (some (ax_I q.1)) q.2) (hag : ∀ a, a ∉ ([] : List Nat) → ad a = ad0 a)   : ∀ (M : ax_M) (s0 : Int32), G_M_isVote_157  M s0 = some q → ax_W Z ad 0 0 157 [] [ax_I s0] M := by
  intro M s0 hf
  unfold G_M_isVote_157 at hf
  obtain ⟨_, hb, hf⟩ := ax_bd hf
  exact ax_ireturn B hE d_M_isVote_157 hf (ax_bo_n hb) hag (by decide) (by decide)
def G_M_isVote_156  (M : ax_M)  : Option (Int32 × ax_M) := G_M_isVote_157 M 0
set_option maxRecDepth 100000 in
set_option maxHeartbeats 4000000 in
theorem K_M_isVote_156 {Z : ax_Z} {ad0 ad : Nat → Nat} {q : Int32 × ax_M} (B : ax_B Z "VoteAuctionsModel" b_M_isVote (some .boolean)) (hn : Z.2.2.2.2.2.2.2.2.2.2.2.1 = 8) (hR : ax_R Z 1 0 0) (hE : ax_E Z ad0 [] 0 0 (some (ax_I q.1)) q.2) (hag : ∀ a, a ∉ ([] : List Nat) → ad a = ad0 a)   : ∀ (M : ax_M) , G_M_isVote_156  M  = some q → ax_W Z ad 0 0 156 [] [] M := by
  intro M  hf
  unfold G_M_isVote_156 at hf
  refine ax_iconst B (v := 0) (by decide) d_M_isVote_156 ?_
  exact K_M_isVote_157 B hn hR hE hag M 0 hf
def G_M_isVote_95 (rec95 : ax_M → Option Nat → Int32 → Int32 → Int32 → Int32 → Int32 → Int32 → Option (Int32 × ax_M)) (M : ax_M) (v0 : Option Nat) (v1 : Int32) (v2 : Int32) (v4 : Int32) (v5 : Int32) (v6 : Int32) (v7 : Int32) : Option (Int32 × ax_M) := if v4 ≤ v7 then if v6 = 0 then (ax_gr M 3 19 v0).bind (fun x1 => (ax_ri M 0 x1 ((8 * v1) + v2)).bind (fun x2 => if x2 < v5 then G_M_isVote_156 M else G_M_isVote_157 M 1)) else G_M_isVote_156 M else (some (v5 + ((v6 - v6 / 32 * 32) * (v6 - v6 / 32 * 32)))).bind (fun y3 => (some (v6 / 32)).bind (fun y4 => (some (v7 + 1)).bind (fun y5 => rec95 M v0 v1 v2 v4 y3 y4 y5)))
set_option maxRecDepth 100000 in
set_option maxHeartbeats 4000000 in
theorem K_M_isVote_95 {Z : ax_Z} {ad0 ad : Nat → Nat} {q : Int32 × ax_M} (B : ax_B Z "VoteAuctionsModel" b_M_isVote (some .boolean)) (hn : Z.2.2.2.2.2.2.2.2.2.2.2.1 = 8) (hR : ax_R Z 1 0 0) (hE : ax_E Z ad0 [] 0 0 (some (ax_I q.1)) q.2) (hag : ∀ a, a ∉ ([] : List Nat) → ad a = ad0 a) {rec95 : ax_M → Option Nat → Int32 → Int32 → Int32 → Int32 → Int32 → Int32 → Option (Int32 × ax_M)} (hr95 : ∀ (M : ax_M) (v0 : Option Nat) (v1 : Int32) (v2 : Int32) (v4 : Int32) (v5 : Int32) (v6 : Int32) (v7 : Int32), rec95 M v0 v1 v2 v4 v5 v6 v7 = some q → ax_W Z ad 0 0 95 [(0, ax_O v0), (1, ax_I v1), (2, ax_I v2), (4, ax_I v4), (5, ax_I v5), (6, ax_I v6), (7, ax_I v7)] [] M) : ∀ (M : ax_M) (v0 : Option Nat) (v1 : Int32) (v2 : Int32) (v4 : Int32) (v5 : Int32) (v6 : Int32) (v7 : Int32), G_M_isVote_95 rec95 M v0 v1 v2 v4 v5 v6 v7 = some q → ax_W Z ad 0 0 95 [(0, ax_O v0), (1, ax_I v1), (2, ax_I v2), (4, ax_I v4), (5, ax_I v5), (6, ax_I v6), (7, ax_I v7)] [] M := by
  intro M v0 v1 v2 v4 v5 v6 v7 hf
  unfold G_M_isVote_95 at hf
  refine ax_iload B (j := 6) d_M_isVote_95 rfl ?_
  refine ax_iload B (j := 3) d_M_isVote_97 rfl ?_
  refine ax_icmp_ge B (tgt := 131) d_M_isVote_99 (by decide) hf (fun hf => ?_) (fun hf => ?_)
  · refine ax_iload B (j := 5) d_M_isVote_131 rfl ?_
    refine ax_if_ne B (tgt := 156) d_M_isVote_133 (by decide) hf (fun hf => ?_) (fun hf => ?_)
    · refine ax_iload B (j := 4) d_M_isVote_136 rfl ?_
      refine ax_aload_n B d_M_isVote_138 rfl (j := 0) rfl ?_
      refine ax_getR B d_M_isVote_139 k_M_54 rfl hf (fun x1 hf => ?_)
      refine ax_bipush B (v := 8) (by decide) d_M_isVote_142 ?_
      refine ax_iload_n B d_M_isVote_144 rfl (j := 1) rfl ?_
      refine ax_imul B d_M_isVote_145 ?_
      refine ax_iload_n B d_M_isVote_146 rfl (j := 2) rfl ?_
      refine ax_iadd B d_M_isVote_147 ?_
      refine ax_iald B d_M_isVote_148 (t := 0) (by decide) rfl hf (fun x2 hf => ?_)
      refine ax_icmp_gt B (tgt := 156) d_M_isVote_149 (by decide) hf (fun hf => ?_) (fun hf => ?_)
      · refine ax_sub [] rfl ?_
        exact K_M_isVote_156 B hn hR hE hag M hf
      · refine ax_iconst B (v := 1) (by decide) d_M_isVote_152 ?_
        refine ax_goto B (tgt := 157) d_M_isVote_153 (by decide) ?_
        refine ax_sub [] rfl ?_
        exact K_M_isVote_157 B hn hR hE hag M 1 hf
    · refine ax_sub [] rfl ?_
      exact K_M_isVote_156 B hn hR hE hag M hf
  · refine ax_iload B (j := 4) d_M_isVote_102 rfl ?_
    refine ax_iload B (j := 5) d_M_isVote_104 rfl ?_
    refine ax_bipush B (v := 32) (by decide) d_M_isVote_106 ?_
    refine ax_irem B (by decide) d_M_isVote_108 ?_
    refine ax_iload B (j := 5) d_M_isVote_109 rfl ?_
    refine ax_bipush B (v := 32) (by decide) d_M_isVote_111 ?_
    refine ax_irem B (by decide) d_M_isVote_113 ?_
    refine ax_imul B d_M_isVote_114 ?_
    refine ax_iadd B d_M_isVote_115 ?_
    refine ax_nmI hf (fun y3 hf => ?_)
    refine ax_istore B (lv' := [(5, ax_I y3), (0, ax_O v0), (1, ax_I v1), (2, ax_I v2), (4, ax_I v4), (6, ax_I v6), (7, ax_I v7)]) d_M_isVote_116 (by rw [hn]; decide) rfl ?_
    refine ax_iload B (j := 5) d_M_isVote_118 rfl ?_
    refine ax_bipush B (v := 32) (by decide) d_M_isVote_120 ?_
    refine ax_idiv B (by decide) d_M_isVote_122 ?_
    refine ax_nmI hf (fun y4 hf => ?_)
    refine ax_istore B (lv' := [(6, ax_I y4), (5, ax_I y3), (0, ax_O v0), (1, ax_I v1), (2, ax_I v2), (4, ax_I v4), (7, ax_I v7)]) d_M_isVote_123 (by rw [hn]; decide) rfl ?_
    refine ax_iincN B (j := 6) (lv' := fun y => [(7, ax_I y), (6, ax_I y4), (5, ax_I y3), (0, ax_O v0), (1, ax_I v1), (2, ax_I v2), (4, ax_I v4)]) d_M_isVote_125 rfl hf rfl (by rw [hn]; decide) (fun _ => rfl) (fun y5 hf => ?_)
    refine ax_goto B (tgt := 95) d_M_isVote_128 (by decide) ?_
    refine ax_sub [3, 4, 5, 6, 2, 1, 0] rfl ?_
    exact hr95 M v0 v1 v2 v4 y3 y4 y5 hf
def F_M_isVote_95  : Nat → ax_M → Option Nat → Int32 → Int32 → Int32 → Int32 → Int32 → Int32 → Option (Int32 × ax_M)
  | 0 => fun _ _ _ _ _ _ _ _ => none
  | n + 1 => G_M_isVote_95 (F_M_isVote_95  n)
set_option maxRecDepth 100000 in
set_option maxHeartbeats 4000000 in
theorem L_M_isVote_95 {Z : ax_Z} {ad0 ad : Nat → Nat} {q : Int32 × ax_M} (B : ax_B Z "VoteAuctionsModel" b_M_isVote (some .boolean)) (hn : Z.2.2.2.2.2.2.2.2.2.2.2.1 = 8) (hR : ax_R Z 1 0 0) (hE : ax_E Z ad0 [] 0 0 (some (ax_I q.1)) q.2) (hag : ∀ a, a ∉ ([] : List Nat) → ad a = ad0 a)   : ∀ (n : Nat) (M : ax_M) (v0 : Option Nat) (v1 : Int32) (v2 : Int32) (v4 : Int32) (v5 : Int32) (v6 : Int32) (v7 : Int32), F_M_isVote_95  n M v0 v1 v2 v4 v5 v6 v7 = some q → ax_W Z ad 0 0 95 [(0, ax_O v0), (1, ax_I v1), (2, ax_I v2), (4, ax_I v4), (5, ax_I v5), (6, ax_I v6), (7, ax_I v7)] [] M := by
  intro n
  induction n with
  | zero => intro M v0 v1 v2 v4 v5 v6 v7 hf; cases hf
  | succ n ih => exact K_M_isVote_95 B hn hR hE hag ih
def G_M_isVote_78  (M : ax_M) (s0 : Int32) : Option (Int32 × ax_M) := (ax_bo s0).bind (fun _ => some (s0, M))
set_option maxRecDepth 100000 in
set_option maxHeartbeats 4000000 in
theorem K_M_isVote_78 {Z : ax_Z} {ad0 ad : Nat → Nat} {q : Int32 × ax_M} (B : ax_B Z "VoteAuctionsModel" b_M_isVote (some .boolean)) (hn : Z.2.2.2.2.2.2.2.2.2.2.2.1 = 8) (hR : ax_R Z 1 0 0) (hE : ax_E Z ad0 [] 0 0 (some (ax_I q.1)) q.2) (hag : ∀ a, a ∉ ([] : List Nat) → ad a = ad0 a)   : ∀ (M : ax_M) (s0 : Int32), G_M_isVote_78  M s0 = some q → ax_W Z ad 0 0 78 [] [ax_I s0] M := by
  intro M s0 hf
  unfold G_M_isVote_78 at hf
  obtain ⟨_, hb, hf⟩ := ax_bd hf
  exact ax_ireturn B hE d_M_isVote_78 hf (ax_bo_n hb) hag (by decide) (by decide)
def G_M_isVote_77  (M : ax_M)  : Option (Int32 × ax_M) := G_M_isVote_78 M 0
set_option maxRecDepth 100000 in
set_option maxHeartbeats 4000000 in
theorem K_M_isVote_77 {Z : ax_Z} {ad0 ad : Nat → Nat} {q : Int32 × ax_M} (B : ax_B Z "VoteAuctionsModel" b_M_isVote (some .boolean)) (hn : Z.2.2.2.2.2.2.2.2.2.2.2.1 = 8) (hR : ax_R Z 1 0 0) (hE : ax_E Z ad0 [] 0 0 (some (ax_I q.1)) q.2) (hag : ∀ a, a ∉ ([] : List Nat) → ad a = ad0 a)   : ∀ (M : ax_M) , G_M_isVote_77  M  = some q → ax_W Z ad 0 0 77 [] [] M := by
  intro M  hf
  unfold G_M_isVote_77 at hf
  refine ax_iconst B (v := 0) (by decide) d_M_isVote_77 ?_
  exact K_M_isVote_78 B hn hR hE hag M 0 hf
def G_M_isVote_59  (M : ax_M) (s0 : Int32) : Option (Int32 × ax_M) := (ax_bo s0).bind (fun _ => some (s0, M))
set_option maxRecDepth 100000 in
set_option maxHeartbeats 4000000 in
theorem K_M_isVote_59 {Z : ax_Z} {ad0 ad : Nat → Nat} {q : Int32 × ax_M} (B : ax_B Z "VoteAuctionsModel" b_M_isVote (some .boolean)) (hn : Z.2.2.2.2.2.2.2.2.2.2.2.1 = 8) (hR : ax_R Z 1 0 0) (hE : ax_E Z ad0 [] 0 0 (some (ax_I q.1)) q.2) (hag : ∀ a, a ∉ ([] : List Nat) → ad a = ad0 a)   : ∀ (M : ax_M) (s0 : Int32), G_M_isVote_59  M s0 = some q → ax_W Z ad 0 0 59 [] [ax_I s0] M := by
  intro M s0 hf
  unfold G_M_isVote_59 at hf
  obtain ⟨_, hb, hf⟩ := ax_bd hf
  exact ax_ireturn B hE d_M_isVote_59 hf (ax_bo_n hb) hag (by decide) (by decide)
def f_M_isVote (M : ax_M) (x0 : Option Nat) (p0 : Int32) (p1 : Int32) (p2 : Int32) : Option (Int32 × ax_M) := (ax_gr M 3 10 x0).bind (fun x1 => (ax_ri M 0 x1 p0).bind (fun x2 => if 0 ≤ p2 then (ax_gr M 3 9 x0).bind (fun x3 => (ax_ri M 0 x3 p0).bind (fun x4 => if x4 = 0 then if x2 ≤ p2 then G_M_isVote_59 M 0 else G_M_isVote_59 M 1 else if x4 = 1 then if p2 < 1 then G_M_isVote_77 M else if (1 <<< (x2 &&& 31)) ≤ p2 then G_M_isVote_77 M else G_M_isVote_78 M 1 else if x4 = 2 then (f_M_isRanks M x2 p2).bind (fun q5 => (ax_bo q5.1).bind (fun _ => some (q5.1, q5.2))) else F_M_isVote_95 64 M x0 p0 p1 x2 0 p2 0)) else some (0, M)))
set_option maxRecDepth 100000 in
set_option maxHeartbeats 4000000 in
theorem c_M_isVote (l : Launch) (G : ax_G) (M : ax_M) (x0 : Option Nat) (p0 : Int32) (p1 : Int32) (p2 : Int32) {q : Int32 × ax_M} (hf : f_M_isVote M x0 p0 p1 p2 = some q) : ax_C l G y_M_isVote b_M_isVote 8 (some .boolean) [] 1 0 0 [ax_O x0, ax_I p0, ax_I p1, ax_I p2] M (some (ax_I q.1)) q.2 := by
  refine ax_ofW (by decide +kernel) (lv0 := [(0, ax_O x0), (1, ax_I p0), (2, ax_I p1), (3, ax_I p2)]) (Nat.le_of_ble_eq_true rfl) rfl ?_
  intro Z ad B hin _ _ hn hR hE
  have hag : ∀ a, a ∉ ([] : List Nat) → ad a = ad a := fun _ _ => rfl
  unfold f_M_isVote at hf
  refine ax_aload_n B d_M_isVote_0 rfl (j := 0) rfl ?_
  refine ax_getR B d_M_isVote_1 k_M_26 rfl hf (fun x1 hf => ?_)
  refine ax_iload_n B d_M_isVote_4 rfl (j := 1) rfl ?_
  refine ax_iald B d_M_isVote_5 (t := 0) (by decide) rfl hf (fun x2 hf => ?_)
  refine ax_istore B (lv' := [(4, ax_I x2), (0, ax_O x0), (1, ax_I p0), (2, ax_I p1), (3, ax_I p2)]) d_M_isVote_6 (by rw [hn]; decide) rfl ?_
  refine ax_iload_n B d_M_isVote_8 rfl (j := 4) rfl ?_
  refine ax_if_ge B (tgt := 14) d_M_isVote_9 (by decide) hf (fun hf => ?_) (fun hf => ?_)
  · refine ax_aload_n B d_M_isVote_14 rfl (j := 1) rfl ?_
    refine ax_getR B d_M_isVote_15 k_M_23 rfl hf (fun x3 hf => ?_)
    refine ax_iload_n B d_M_isVote_18 rfl (j := 2) rfl ?_
    refine ax_iald B d_M_isVote_19 (t := 0) (by decide) rfl hf (fun x4 hf => ?_)
    refine ax_tsw3 B (t0 := 48) (t1 := 60) (t2 := 79) (t3 := 86) d_M_isVote_20 (by decide) (by decide) (by decide) (by decide) hf (fun hf => ?_) (fun hf => ?_) (fun hf => ?_) (fun hf => ?_)
    · refine ax_iload_n B d_M_isVote_48 rfl (j := 4) rfl ?_
      refine ax_iload B (j := 0) d_M_isVote_49 rfl ?_
      refine ax_icmp_ge B (tgt := 58) d_M_isVote_51 (by decide) hf (fun hf => ?_) (fun hf => ?_)
      · refine ax_iconst B (v := 0) (by decide) d_M_isVote_58 ?_
        refine ax_sub [] rfl ?_
        exact K_M_isVote_59 B hn hR hE hag M 0 hf
      · refine ax_iconst B (v := 1) (by decide) d_M_isVote_54 ?_
        refine ax_goto B (tgt := 59) d_M_isVote_55 (by decide) ?_
        refine ax_sub [] rfl ?_
        exact K_M_isVote_59 B hn hR hE hag M 1 hf
    · refine ax_iload_n B d_M_isVote_60 rfl (j := 4) rfl ?_
      refine ax_iconst B (v := 1) (by decide) d_M_isVote_61 ?_
      refine ax_icmp_lt B (tgt := 77) d_M_isVote_62 (by decide) hf (fun hf => ?_) (fun hf => ?_)
      · refine ax_sub [] rfl ?_
        exact K_M_isVote_77 B hn hR hE hag M hf
      · refine ax_iload_n B d_M_isVote_65 rfl (j := 4) rfl ?_
        refine ax_iconst B (v := 1) (by decide) d_M_isVote_66 ?_
        refine ax_iload B (j := 0) d_M_isVote_67 rfl ?_
        refine ax_ishl B d_M_isVote_69 ?_
        refine ax_icmp_ge B (tgt := 77) d_M_isVote_70 (by decide) hf (fun hf => ?_) (fun hf => ?_)
        · refine ax_sub [] rfl ?_
          exact K_M_isVote_77 B hn hR hE hag M hf
        · refine ax_iconst B (v := 1) (by decide) d_M_isVote_73 ?_
          refine ax_goto B (tgt := 78) d_M_isVote_74 (by decide) ?_
          refine ax_sub [] rfl ?_
          exact K_M_isVote_78 B hn hR hE hag M 1 hf
    · refine ax_iload B (j := 0) d_M_isVote_79 rfl ?_
      refine ax_iload_n B d_M_isVote_81 rfl (j := 4) rfl ?_
      refine ax_cSV B hR (as := [ax_I x2, ax_I p2]) (V := fun q => ax_I q.1) (N := fun q => q.2) d_M_isVote_82 l_M_176 m_M_isRanks hf (fun q h => c_M_isRanks _ _ _ _ _ h) rfl rfl (by decide) (by decide) (by decide) (by decide) (Nat.le_of_ble_eq_true rfl) (fun q5 hf => ?_)
      obtain ⟨_, hb, hf⟩ := ax_bd hf
      exact ax_ireturn B hE d_M_isVote_85 hf (ax_bo_n hb) hag (by decide) (by decide)
    · refine ax_iconst B (v := 0) (by decide) d_M_isVote_86 ?_
      refine ax_istore B (lv' := [(5, ax_I 0), (4, ax_I x2), (0, ax_O x0), (1, ax_I p0), (2, ax_I p1), (3, ax_I p2)]) d_M_isVote_87 (by rw [hn]; decide) rfl ?_
      refine ax_iload_n B d_M_isVote_89 rfl (j := 5) rfl ?_
      refine ax_istore B (lv' := [(6, ax_I p2), (5, ax_I 0), (4, ax_I x2), (0, ax_O x0), (1, ax_I p0), (2, ax_I p1), (3, ax_I p2)]) d_M_isVote_90 (by rw [hn]; decide) rfl ?_
      refine ax_iconst B (v := 0) (by decide) d_M_isVote_92 ?_
      refine ax_istore B (lv' := [(7, ax_I 0), (6, ax_I p2), (5, ax_I 0), (4, ax_I x2), (0, ax_O x0), (1, ax_I p0), (2, ax_I p1), (3, ax_I p2)]) d_M_isVote_93 (by rw [hn]; decide) rfl ?_
      refine ax_sub [4, 5, 6, 3, 2, 1, 0] rfl ?_
      exact L_M_isVote_95 B hn hR hE hag 64 M x0 p0 p1 x2 0 p2 0 hf
  · refine ax_iconst B (v := 0) (by decide) d_M_isVote_12 ?_
    exact ax_ireturn B hE d_M_isVote_13 hf rfl hag (by decide) (by decide)
def G_M_vote_16  (M : ax_M)  : Option (Int32 × ax_M) := some ((-1), M)
set_option maxRecDepth 100000 in
set_option maxHeartbeats 4000000 in
theorem K_M_vote_16 {Z : ax_Z} {ad0 ad : Nat → Nat} {q : Int32 × ax_M} (B : ax_B Z "VoteAuctionsModel" b_M_vote (some .int)) (hn : Z.2.2.2.2.2.2.2.2.2.2.2.1 = 4) (hR : ax_R Z 2 0 0) (hE : ax_E Z ad0 [] 0 0 (some (ax_I q.1)) q.2) (hag : ∀ a, a ∉ ([] : List Nat) → ad a = ad0 a)   : ∀ (M : ax_M) , G_M_vote_16  M  = some q → ax_W Z ad 0 0 16 [] [] M := by
  intro M  hf
  unfold G_M_vote_16 at hf
  refine ax_iconst B (v := (-1)) (by decide) d_M_vote_16 ?_
  exact ax_ireturn B hE d_M_vote_17 hf rfl hag (by decide) (by decide)
def G_M_vote_57  (M : ax_M)  : Option (Int32 × ax_M) := some ((-3), M)
set_option maxRecDepth 100000 in
set_option maxHeartbeats 4000000 in
theorem K_M_vote_57 {Z : ax_Z} {ad0 ad : Nat → Nat} {q : Int32 × ax_M} (B : ax_B Z "VoteAuctionsModel" b_M_vote (some .int)) (hn : Z.2.2.2.2.2.2.2.2.2.2.2.1 = 4) (hR : ax_R Z 2 0 0) (hE : ax_E Z ad0 [] 0 0 (some (ax_I q.1)) q.2) (hag : ∀ a, a ∉ ([] : List Nat) → ad a = ad0 a)   : ∀ (M : ax_M) , G_M_vote_57  M  = some q → ax_W Z ad 0 0 57 [] [] M := by
  intro M  hf
  unfold G_M_vote_57 at hf
  refine ax_bipush B (v := (-3)) (by decide) d_M_vote_57 ?_
  exact ax_ireturn B hE d_M_vote_59 hf rfl hag (by decide) (by decide)
def G_M_vote_80  (M : ax_M) (v0 : Option Nat) (v1 : Int32) (v2 : Int32) (v3 : Int32) (s0 : Int32) (s1 : Int32) (s2 : Option Nat) : Option (Int32 × ax_M) := (ax_bo s0).bind (fun _ => (ax_ti M 2 s2 s1 s0).bind (fun M1 => (ax_gr M1 3 21 v0).bind (fun x2 => (ax_ti M1 0 x2 ((8 * v1) + v2) v3).bind (fun M3 => some (1, M3)))))
set_option maxRecDepth 100000 in
set_option maxHeartbeats 4000000 in
theorem K_M_vote_80 {Z : ax_Z} {ad0 ad : Nat → Nat} {q : Int32 × ax_M} (B : ax_B Z "VoteAuctionsModel" b_M_vote (some .int)) (hn : Z.2.2.2.2.2.2.2.2.2.2.2.1 = 4) (hR : ax_R Z 2 0 0) (hE : ax_E Z ad0 [] 0 0 (some (ax_I q.1)) q.2) (hag : ∀ a, a ∉ ([] : List Nat) → ad a = ad0 a)   : ∀ (M : ax_M) (v0 : Option Nat) (v1 : Int32) (v2 : Int32) (v3 : Int32) (s0 : Int32) (s1 : Int32) (s2 : Option Nat), G_M_vote_80  M v0 v1 v2 v3 s0 s1 s2 = some q → ax_W Z ad 0 0 80 [(0, ax_O v0), (1, ax_I v1), (2, ax_I v2), (3, ax_I v3)] [ax_I s0, ax_I s1, ax_O s2] M := by
  intro M v0 v1 v2 v3 s0 s1 s2 hf
  unfold G_M_vote_80 at hf
  obtain ⟨_, hb, hf⟩ := ax_bd hf
  refine ax_zast B d_M_vote_80 (t := 2) (by decide) rfl (ax_bo_v hb) hf (fun M1 hf => ?_)
  refine ax_aload_n B d_M_vote_81 rfl (j := 0) rfl ?_
  refine ax_getR B d_M_vote_82 k_M_60 rfl hf (fun x2 hf => ?_)
  refine ax_bipush B (v := 8) (by decide) d_M_vote_85 ?_
  refine ax_iload_n B d_M_vote_87 rfl (j := 1) rfl ?_
  refine ax_imul B d_M_vote_88 ?_
  refine ax_iload_n B d_M_vote_89 rfl (j := 2) rfl ?_
  refine ax_iadd B d_M_vote_90 ?_
  refine ax_iload_n B d_M_vote_91 rfl (j := 3) rfl ?_
  refine ax_iast B d_M_vote_92 (t := 0) (by decide) rfl hf (fun M3 hf => ?_)
  refine ax_iconst B (v := 1) (by decide) d_M_vote_93 ?_
  exact ax_ireturn B hE d_M_vote_94 hf rfl hag (by decide) (by decide)
def G_M_vote_36  (M : ax_M) (v0 : Option Nat) (v1 : Int32) (v2 : Int32) (v3 : Int32) : Option (Int32 × ax_M) := (ax_gi M 3 1 v0).bind (fun x1 => (ax_gr M 3 11 v0).bind (fun x2 => (ax_ri M 0 x2 v1).bind (fun x3 => if x3 ≤ x1 then G_M_vote_57 M else (ax_ob M 3 v0).bind (fun _ => (f_M_isHidden M v0 v1).bind (fun q4 => if q4.1 = 0 then (ax_gr q4.2 3 20 v0).bind (fun x5 => if v3 = (-1) then G_M_vote_80 q4.2 v0 v1 v2 v3 0 ((8 * v1) + v2) x5 else G_M_vote_80 q4.2 v0 v1 v2 v3 1 ((8 * v1) + v2) x5) else G_M_vote_57 q4.2)))))
set_option maxRecDepth 100000 in
set_option maxHeartbeats 4000000 in
theorem K_M_vote_36 {Z : ax_Z} {ad0 ad : Nat → Nat} {q : Int32 × ax_M} (B : ax_B Z "VoteAuctionsModel" b_M_vote (some .int)) (hn : Z.2.2.2.2.2.2.2.2.2.2.2.1 = 4) (hR : ax_R Z 2 0 0) (hE : ax_E Z ad0 [] 0 0 (some (ax_I q.1)) q.2) (hag : ∀ a, a ∉ ([] : List Nat) → ad a = ad0 a)   : ∀ (M : ax_M) (v0 : Option Nat) (v1 : Int32) (v2 : Int32) (v3 : Int32), G_M_vote_36  M v0 v1 v2 v3 = some q → ax_W Z ad 0 0 36 [(0, ax_O v0), (1, ax_I v1), (2, ax_I v2), (3, ax_I v3)] [] M := by
  intro M v0 v1 v2 v3 hf
  unfold G_M_vote_36 at hf
  refine ax_aload_n B d_M_vote_36 rfl (j := 0) rfl ?_
  refine ax_getI B d_M_vote_37 k_M_156 rfl hf (fun x1 hf => ?_)
  refine ax_aload_n B d_M_vote_40 rfl (j := 0) rfl ?_
  refine ax_getR B d_M_vote_41 k_M_29 rfl hf (fun x2 hf => ?_)
  refine ax_iload_n B d_M_vote_44 rfl (j := 1) rfl ?_
  refine ax_iald B d_M_vote_45 (t := 0) (by decide) rfl hf (fun x3 hf => ?_)
  refine ax_icmp_ge B (tgt := 57) d_M_vote_46 (by decide) hf (fun hf => ?_) (fun hf => ?_)
  · refine ax_sub [] rfl ?_
    exact K_M_vote_57 B hn hR hE hag M hf
  · refine ax_aload_n B d_M_vote_49 rfl (j := 0) rfl ?_
    refine ax_iload_n B d_M_vote_50 rfl (j := 1) rfl ?_
    refine ax_cVV B hR (as := [ax_I v1]) (V := fun q => ax_I q.1) (N := fun q => q.2) d_M_vote_51 l_M_183 m_M_isHidden hf (fun q h => c_M_isHidden _ _ _ _ _ h) rfl rfl (by decide) (by decide) (by decide) (by decide) (Nat.le_of_ble_eq_true rfl) (fun q4 hf => ?_)
    refine ax_if_eq B (tgt := 60) d_M_vote_54 (by decide) hf (fun hf => ?_) (fun hf => ?_)
    · refine ax_aload_n B d_M_vote_60 rfl (j := 0) rfl ?_
      refine ax_getR B d_M_vote_61 k_M_57 rfl hf (fun x5 hf => ?_)
      refine ax_bipush B (v := 8) (by decide) d_M_vote_64 ?_
      refine ax_iload_n B d_M_vote_66 rfl (j := 1) rfl ?_
      refine ax_imul B d_M_vote_67 ?_
      refine ax_iload_n B d_M_vote_68 rfl (j := 2) rfl ?_
      refine ax_iadd B d_M_vote_69 ?_
      refine ax_iload_n B d_M_vote_70 rfl (j := 3) rfl ?_
      refine ax_iconst B (v := (-1)) (by decide) d_M_vote_71 ?_
      refine ax_icmp_eq B (tgt := 79) d_M_vote_72 (by decide) hf (fun hf => ?_) (fun hf => ?_)
      · refine ax_iconst B (v := 0) (by decide) d_M_vote_79 ?_
        exact K_M_vote_80 B hn hR hE hag q4.2 v0 v1 v2 v3 0 ((8 * v1) + v2) x5 hf
      · refine ax_iconst B (v := 1) (by decide) d_M_vote_75 ?_
        refine ax_goto B (tgt := 80) d_M_vote_76 (by decide) ?_
        exact K_M_vote_80 B hn hR hE hag q4.2 v0 v1 v2 v3 1 ((8 * v1) + v2) x5 hf
    · refine ax_sub [] rfl ?_
      exact K_M_vote_57 B hn hR hE hag q4.2 hf
def f_M_vote (M : ax_M) (x0 : Option Nat) (p0 : Int32) (p1 : Int32) (p2 : Int32) : Option (Int32 × ax_M) := (ax_ob M 3 x0).bind (fun _ => (f_M_isQuestion M x0 p0).bind (fun q1 => if q1.1 = 0 then G_M_vote_16 q1.2 else (ax_ob q1.2 3 x0).bind (fun _ => (f_M_isAccount q1.2 x0 p1).bind (fun q2 => if q2.1 = 0 then G_M_vote_16 q2.2 else if p2 = (-1) then G_M_vote_36 q2.2 x0 p0 p1 p2 else (ax_ob q2.2 3 x0).bind (fun _ => (f_M_isVote q2.2 x0 p0 p1 p2).bind (fun q3 => if q3.1 = 0 then some ((-2), q3.2) else G_M_vote_36 q3.2 x0 p0 p1 p2))))))
set_option maxRecDepth 100000 in
set_option maxHeartbeats 4000000 in
theorem c_M_vote (l : Launch) (G : ax_G) (M : ax_M) (x0 : Option Nat) (p0 : Int32) (p1 : Int32) (p2 : Int32) {q : Int32 × ax_M} (hf : f_M_vote M x0 p0 p1 p2 = some q) : ax_C l G y_M_vote b_M_vote 4 (some .int) [] 2 0 0 [ax_O x0, ax_I p0, ax_I p1, ax_I p2] M (some (ax_I q.1)) q.2 := by
  refine ax_ofW (by decide +kernel) (lv0 := [(0, ax_O x0), (1, ax_I p0), (2, ax_I p1), (3, ax_I p2)]) (Nat.le_of_ble_eq_true rfl) rfl ?_
  intro Z ad B hin _ _ hn hR hE
  have hag : ∀ a, a ∉ ([] : List Nat) → ad a = ad a := fun _ _ => rfl
  unfold f_M_vote at hf
  refine ax_aload_n B d_M_vote_0 rfl (j := 0) rfl ?_
  refine ax_iload_n B d_M_vote_1 rfl (j := 1) rfl ?_
  refine ax_cVV B hR (as := [ax_I p0]) (V := fun q => ax_I q.1) (N := fun q => q.2) d_M_vote_2 l_M_173 m_M_isQuestion hf (fun q h => c_M_isQuestion _ _ _ _ _ h) rfl rfl (by decide) (by decide) (by decide) (by decide) (Nat.le_of_ble_eq_true rfl) (fun q1 hf => ?_)
  refine ax_if_eq B (tgt := 16) d_M_vote_5 (by decide) hf (fun hf => ?_) (fun hf => ?_)
  · refine ax_sub [] rfl ?_
    exact K_M_vote_16 B hn hR hE hag q1.2 hf
  · refine ax_aload_n B d_M_vote_8 rfl (j := 0) rfl ?_
    refine ax_iload_n B d_M_vote_9 rfl (j := 2) rfl ?_
    refine ax_cVV B hR (as := [ax_I p1]) (V := fun q => ax_I q.1) (N := fun q => q.2) d_M_vote_10 l_M_143 m_M_isAccount hf (fun q h => c_M_isAccount _ _ _ _ _ h) rfl rfl (by decide) (by decide) (by decide) (by decide) (Nat.le_of_ble_eq_true rfl) (fun q2 hf => ?_)
    refine ax_if_ne B (tgt := 18) d_M_vote_13 (by decide) hf (fun hf => ?_) (fun hf => ?_)
    · refine ax_sub [] rfl ?_
      exact K_M_vote_16 B hn hR hE hag q2.2 hf
    · refine ax_iload_n B d_M_vote_18 rfl (j := 3) rfl ?_
      refine ax_iconst B (v := (-1)) (by decide) d_M_vote_19 ?_
      refine ax_icmp_eq B (tgt := 36) d_M_vote_20 (by decide) hf (fun hf => ?_) (fun hf => ?_)
      · exact K_M_vote_36 B hn hR hE hag q2.2 x0 p0 p1 p2 hf
      · refine ax_aload_n B d_M_vote_23 rfl (j := 0) rfl ?_
        refine ax_iload_n B d_M_vote_24 rfl (j := 1) rfl ?_
        refine ax_iload_n B d_M_vote_25 rfl (j := 2) rfl ?_
        refine ax_iload_n B d_M_vote_26 rfl (j := 3) rfl ?_
        refine ax_cVV B hR (as := [ax_I p0, ax_I p1, ax_I p2]) (V := fun q => ax_I q.1) (N := fun q => q.2) d_M_vote_27 l_M_180 m_M_isVote hf (fun q h => c_M_isVote _ _ _ _ _ _ _ h) rfl rfl (by decide) (by decide) (by decide) (by decide) (Nat.le_of_ble_eq_true rfl) (fun q3 hf => ?_)
        refine ax_if_ne B (tgt := 36) d_M_vote_30 (by decide) hf (fun hf => ?_) (fun hf => ?_)
        · refine ax_bipush B (v := (-2)) (by decide) d_M_vote_33 ?_
          exact ax_ireturn B hE d_M_vote_35 hf rfl hag (by decide) (by decide)
        · exact K_M_vote_36 B hn hR hE hag q3.2 x0 p0 p1 p2 hf
def G_M_hide_16  (M : ax_M)  : Option (Int32 × ax_M) := some ((-1), M)
set_option maxRecDepth 100000 in
set_option maxHeartbeats 4000000 in
theorem K_M_hide_16 {Z : ax_Z} {ad0 ad : Nat → Nat} {q : Int32 × ax_M} (B : ax_B Z "VoteAuctionsModel" b_M_hide (some .int)) (hn : Z.2.2.2.2.2.2.2.2.2.2.2.1 = 5) (hR : ax_R Z 1 0 0) (hE : ax_E Z ad0 [] 0 0 (some (ax_I q.1)) q.2) (hag : ∀ a, a ∉ ([] : List Nat) → ad a = ad0 a)   : ∀ (M : ax_M) , G_M_hide_16  M  = some q → ax_W Z ad 0 0 16 [] [] M := by
  intro M  hf
  unfold G_M_hide_16 at hf
  refine ax_iconst B (v := (-1)) (by decide) d_M_hide_16 ?_
  exact ax_ireturn B hE d_M_hide_17 hf rfl hag (by decide) (by decide)
def G_M_hide_39  (M : ax_M)  : Option (Int32 × ax_M) := some ((-3), M)
set_option maxRecDepth 100000 in
set_option maxHeartbeats 4000000 in
theorem K_M_hide_39 {Z : ax_Z} {ad0 ad : Nat → Nat} {q : Int32 × ax_M} (B : ax_B Z "VoteAuctionsModel" b_M_hide (some .int)) (hn : Z.2.2.2.2.2.2.2.2.2.2.2.1 = 5) (hR : ax_R Z 1 0 0) (hE : ax_E Z ad0 [] 0 0 (some (ax_I q.1)) q.2) (hag : ∀ a, a ∉ ([] : List Nat) → ad a = ad0 a)   : ∀ (M : ax_M) , G_M_hide_39  M  = some q → ax_W Z ad 0 0 39 [] [] M := by
  intro M  hf
  unfold G_M_hide_39 at hf
  refine ax_bipush B (v := (-3)) (by decide) d_M_hide_39 ?_
  exact ax_ireturn B hE d_M_hide_41 hf rfl hag (by decide) (by decide)
def f_M_hide (M : ax_M) (x0 : Option Nat) (p0 : Int32) (p1 : Int32) (p2 : Int64) : Option (Int32 × ax_M) := (ax_ob M 3 x0).bind (fun _ => (f_M_isQuestion M x0 p0).bind (fun q1 => if q1.1 = 0 then G_M_hide_16 q1.2 else (ax_ob q1.2 3 x0).bind (fun _ => (f_M_isAccount q1.2 x0 p1).bind (fun q2 => if q2.1 = 0 then G_M_hide_16 q2.2 else (ax_gi q2.2 3 1 x0).bind (fun x3 => (ax_gr q2.2 3 11 x0).bind (fun x4 => (ax_ri q2.2 0 x4 p0).bind (fun x5 => if x5 ≤ x3 then G_M_hide_39 q2.2 else (ax_ob q2.2 3 x0).bind (fun _ => (f_M_isHidden q2.2 x0 p0).bind (fun q6 => if q6.1 = 0 then G_M_hide_39 q6.2 else (ax_gr q6.2 3 22 x0).bind (fun x7 => (ax_ti q6.2 2 x7 ((8 * p0) + p1) 1).bind (fun M8 => (ax_gr M8 3 23 x0).bind (fun x9 => (ax_tl M8 1 x9 ((8 * p0) + p1) p2).bind (fun M10 => some (1, M10))))))))))))))
set_option maxRecDepth 100000 in
set_option maxHeartbeats 4000000 in
theorem c_M_hide (l : Launch) (G : ax_G) (M : ax_M) (x0 : Option Nat) (p0 : Int32) (p1 : Int32) (p2 : Int64) {q : Int32 × ax_M} (hf : f_M_hide M x0 p0 p1 p2 = some q) : ax_C l G y_M_hide b_M_hide 5 (some .int) [] 1 0 0 [ax_O x0, ax_I p0, ax_I p1, ax_L p2] M (some (ax_I q.1)) q.2 := by
  refine ax_ofW (by decide +kernel) (lv0 := [(0, ax_O x0), (1, ax_I p0), (2, ax_I p1), (3, ax_L p2)]) (Nat.le_of_ble_eq_true rfl) rfl ?_
  intro Z ad B hin _ _ hn hR hE
  have hag : ∀ a, a ∉ ([] : List Nat) → ad a = ad a := fun _ _ => rfl
  unfold f_M_hide at hf
  refine ax_aload_n B d_M_hide_0 rfl (j := 0) rfl ?_
  refine ax_iload_n B d_M_hide_1 rfl (j := 1) rfl ?_
  refine ax_cVV B hR (as := [ax_I p0]) (V := fun q => ax_I q.1) (N := fun q => q.2) d_M_hide_2 l_M_173 m_M_isQuestion hf (fun q h => c_M_isQuestion _ _ _ _ _ h) rfl rfl (by decide) (by decide) (by decide) (by decide) (Nat.le_of_ble_eq_true rfl) (fun q1 hf => ?_)
  refine ax_if_eq B (tgt := 16) d_M_hide_5 (by decide) hf (fun hf => ?_) (fun hf => ?_)
  · refine ax_sub [] rfl ?_
    exact K_M_hide_16 B hn hR hE hag q1.2 hf
  · refine ax_aload_n B d_M_hide_8 rfl (j := 0) rfl ?_
    refine ax_iload_n B d_M_hide_9 rfl (j := 2) rfl ?_
    refine ax_cVV B hR (as := [ax_I p1]) (V := fun q => ax_I q.1) (N := fun q => q.2) d_M_hide_10 l_M_143 m_M_isAccount hf (fun q h => c_M_isAccount _ _ _ _ _ h) rfl rfl (by decide) (by decide) (by decide) (by decide) (Nat.le_of_ble_eq_true rfl) (fun q2 hf => ?_)
    refine ax_if_ne B (tgt := 18) d_M_hide_13 (by decide) hf (fun hf => ?_) (fun hf => ?_)
    · refine ax_sub [] rfl ?_
      exact K_M_hide_16 B hn hR hE hag q2.2 hf
    · refine ax_aload_n B d_M_hide_18 rfl (j := 0) rfl ?_
      refine ax_getI B d_M_hide_19 k_M_156 rfl hf (fun x3 hf => ?_)
      refine ax_aload_n B d_M_hide_22 rfl (j := 0) rfl ?_
      refine ax_getR B d_M_hide_23 k_M_29 rfl hf (fun x4 hf => ?_)
      refine ax_iload_n B d_M_hide_26 rfl (j := 1) rfl ?_
      refine ax_iald B d_M_hide_27 (t := 0) (by decide) rfl hf (fun x5 hf => ?_)
      refine ax_icmp_ge B (tgt := 39) d_M_hide_28 (by decide) hf (fun hf => ?_) (fun hf => ?_)
      · refine ax_sub [] rfl ?_
        exact K_M_hide_39 B hn hR hE hag q2.2 hf
      · refine ax_aload_n B d_M_hide_31 rfl (j := 0) rfl ?_
        refine ax_iload_n B d_M_hide_32 rfl (j := 1) rfl ?_
        refine ax_cVV B hR (as := [ax_I p0]) (V := fun q => ax_I q.1) (N := fun q => q.2) d_M_hide_33 l_M_183 m_M_isHidden hf (fun q h => c_M_isHidden _ _ _ _ _ h) rfl rfl (by decide) (by decide) (by decide) (by decide) (Nat.le_of_ble_eq_true rfl) (fun q6 hf => ?_)
        refine ax_if_ne B (tgt := 42) d_M_hide_36 (by decide) hf (fun hf => ?_) (fun hf => ?_)
        · refine ax_sub [] rfl ?_
          exact K_M_hide_39 B hn hR hE hag q6.2 hf
        · refine ax_aload_n B d_M_hide_42 rfl (j := 0) rfl ?_
          refine ax_getR B d_M_hide_43 k_M_63 rfl hf (fun x7 hf => ?_)
          refine ax_bipush B (v := 8) (by decide) d_M_hide_46 ?_
          refine ax_iload_n B d_M_hide_48 rfl (j := 1) rfl ?_
          refine ax_imul B d_M_hide_49 ?_
          refine ax_iload_n B d_M_hide_50 rfl (j := 2) rfl ?_
          refine ax_iadd B d_M_hide_51 ?_
          refine ax_iconst B (v := 1) (by decide) d_M_hide_52 ?_
          refine ax_zast B d_M_hide_53 (t := 2) (by decide) rfl (by decide) hf (fun M8 hf => ?_)
          refine ax_aload_n B d_M_hide_54 rfl (j := 0) rfl ?_
          refine ax_getR B d_M_hide_55 k_M_66 rfl hf (fun x9 hf => ?_)
          refine ax_bipush B (v := 8) (by decide) d_M_hide_58 ?_
          refine ax_iload_n B d_M_hide_60 rfl (j := 1) rfl ?_
          refine ax_imul B d_M_hide_61 ?_
          refine ax_iload_n B d_M_hide_62 rfl (j := 2) rfl ?_
          refine ax_iadd B d_M_hide_63 ?_
          refine ax_lload_n B d_M_hide_64 rfl (j := 3) rfl ?_
          refine ax_last B d_M_hide_65 (t := 1) (by decide) rfl hf (fun M10 hf => ?_)
          refine ax_iconst B (v := 1) (by decide) d_M_hide_66 ?_
          exact ax_ireturn B hE d_M_hide_67 hf rfl hag (by decide) (by decide)
def G_M_reveal_16  (M : ax_M)  : Option (Int32 × ax_M) := some ((-1), M)
set_option maxRecDepth 100000 in
set_option maxHeartbeats 4000000 in
theorem K_M_reveal_16 {Z : ax_Z} {ad0 ad : Nat → Nat} {q : Int32 × ax_M} (B : ax_B Z "VoteAuctionsModel" b_M_reveal (some .int)) (hn : Z.2.2.2.2.2.2.2.2.2.2.2.1 = 6) (hR : ax_R Z 2 0 0) (hE : ax_E Z ad0 [] 0 0 (some (ax_I q.1)) q.2) (hag : ∀ a, a ∉ ([] : List Nat) → ad a = ad0 a)   : ∀ (M : ax_M) , G_M_reveal_16  M  = some q → ax_W Z ad 0 0 16 [] [] M := by
  intro M  hf
  unfold G_M_reveal_16 at hf
  refine ax_iconst B (v := (-1)) (by decide) d_M_reveal_16 ?_
  exact ax_ireturn B hE d_M_reveal_17 hf rfl hag (by decide) (by decide)
def G_M_reveal_112  (M : ax_M)  : Option (Int32 × ax_M) := some ((-3), M)
set_option maxRecDepth 100000 in
set_option maxHeartbeats 4000000 in
theorem K_M_reveal_112 {Z : ax_Z} {ad0 ad : Nat → Nat} {q : Int32 × ax_M} (B : ax_B Z "VoteAuctionsModel" b_M_reveal (some .int)) (hn : Z.2.2.2.2.2.2.2.2.2.2.2.1 = 6) (hR : ax_R Z 2 0 0) (hE : ax_E Z ad0 [] 0 0 (some (ax_I q.1)) q.2) (hag : ∀ a, a ∉ ([] : List Nat) → ad a = ad0 a)   : ∀ (M : ax_M) , G_M_reveal_112  M  = some q → ax_W Z ad 0 0 112 [] [] M := by
  intro M  hf
  unfold G_M_reveal_112 at hf
  refine ax_bipush B (v := (-3)) (by decide) d_M_reveal_112 ?_
  exact ax_ireturn B hE d_M_reveal_114 hf rfl hag (by decide) (by decide)
def f_M_reveal (M : ax_M) (x0 : Option Nat) (p0 : Int32) (p1 : Int32) (p2 : Int32) (p3 : Int32) : Option (Int32 × ax_M) := (ax_ob M 3 x0).bind (fun _ => (f_M_isQuestion M x0 p0).bind (fun q1 => if q1.1 = 0 then G_M_reveal_16 q1.2 else (ax_ob q1.2 3 x0).bind (fun _ => (f_M_isAccount q1.2 x0 p1).bind (fun q2 => if q2.1 = 0 then G_M_reveal_16 q2.2 else (ax_ob q2.2 3 x0).bind (fun _ => (f_M_isVote q2.2 x0 p0 p1 p2).bind (fun q3 => if q3.1 = 0 then some ((-2), q3.2) else (some ((8 * p0) + p1)).bind (fun y4 => (ax_ob q3.2 3 x0).bind (fun _ => (f_M_isHidden q3.2 x0 p0).bind (fun q5 => if q5.1 = 0 then G_M_reveal_112 q5.2 else (ax_gi q5.2 3 1 x0).bind (fun x6 => (ax_gr q5.2 3 11 x0).bind (fun x7 => (ax_ri q5.2 0 x7 p0).bind (fun x8 => if x6 < x8 then G_M_reveal_112 q5.2 else (ax_gi q5.2 3 1 x0).bind (fun x9 => (ax_gr q5.2 3 12 x0).bind (fun x10 => (ax_ri q5.2 0 x10 p0).bind (fun x11 => if x11 ≤ x9 then G_M_reveal_112 q5.2 else (ax_gr q5.2 3 20 x0).bind (fun x12 => (ax_ri q5.2 2 x12 y4).bind (fun x13 => if x13 = 0 then (ax_gr q5.2 3 22 x0).bind (fun x14 => (ax_ri q5.2 2 x14 y4).bind (fun x15 => if x15 = 0 then G_M_reveal_112 q5.2 else (ax_gr q5.2 3 23 x0).bind (fun x16 => (ax_rl q5.2 1 x16 y4).bind (fun x17 => (ax_ob q5.2 3 x0).bind (fun _ => (f_M_mark q5.2 x0 p1 p2 p3).bind (fun q18 => if (lg_cmp x17 q18.1) = 0 then (ax_gr q18.2 3 20 x0).bind (fun x19 => (ax_ti q18.2 2 x19 y4 1).bind (fun M20 => (ax_gr M20 3 21 x0).bind (fun x21 => (ax_ti M20 0 x21 y4 p2).bind (fun M22 => some (1, M22))))) else G_M_reveal_112 q18.2)))))) else G_M_reveal_112 q5.2)))))))))))))))))
set_option maxRecDepth 100000 in
set_option maxHeartbeats 4000000 in
theorem c_M_reveal (l : Launch) (G : ax_G) (M : ax_M) (x0 : Option Nat) (p0 : Int32) (p1 : Int32) (p2 : Int32) (p3 : Int32) {q : Int32 × ax_M} (hf : f_M_reveal M x0 p0 p1 p2 p3 = some q) : ax_C l G y_M_reveal b_M_reveal 6 (some .int) [] 2 0 0 [ax_O x0, ax_I p0, ax_I p1, ax_I p2, ax_I p3] M (some (ax_I q.1)) q.2 := by
  refine ax_ofW (by decide +kernel) (lv0 := [(0, ax_O x0), (1, ax_I p0), (2, ax_I p1), (3, ax_I p2), (4, ax_I p3)]) (Nat.le_of_ble_eq_true rfl) rfl ?_
  intro Z ad B hin _ _ hn hR hE
  have hag : ∀ a, a ∉ ([] : List Nat) → ad a = ad a := fun _ _ => rfl
  unfold f_M_reveal at hf
  refine ax_aload_n B d_M_reveal_0 rfl (j := 0) rfl ?_
  refine ax_iload_n B d_M_reveal_1 rfl (j := 1) rfl ?_
  refine ax_cVV B hR (as := [ax_I p0]) (V := fun q => ax_I q.1) (N := fun q => q.2) d_M_reveal_2 l_M_173 m_M_isQuestion hf (fun q h => c_M_isQuestion _ _ _ _ _ h) rfl rfl (by decide) (by decide) (by decide) (by decide) (Nat.le_of_ble_eq_true rfl) (fun q1 hf => ?_)
  refine ax_if_eq B (tgt := 16) d_M_reveal_5 (by decide) hf (fun hf => ?_) (fun hf => ?_)
  · refine ax_sub [] rfl ?_
    exact K_M_reveal_16 B hn hR hE hag q1.2 hf
  · refine ax_aload_n B d_M_reveal_8 rfl (j := 0) rfl ?_
    refine ax_iload_n B d_M_reveal_9 rfl (j := 2) rfl ?_
    refine ax_cVV B hR (as := [ax_I p1]) (V := fun q => ax_I q.1) (N := fun q => q.2) d_M_reveal_10 l_M_143 m_M_isAccount hf (fun q h => c_M_isAccount _ _ _ _ _ h) rfl rfl (by decide) (by decide) (by decide) (by decide) (Nat.le_of_ble_eq_true rfl) (fun q2 hf => ?_)
    refine ax_if_ne B (tgt := 18) d_M_reveal_13 (by decide) hf (fun hf => ?_) (fun hf => ?_)
    · refine ax_sub [] rfl ?_
      exact K_M_reveal_16 B hn hR hE hag q2.2 hf
    · refine ax_aload_n B d_M_reveal_18 rfl (j := 0) rfl ?_
      refine ax_iload_n B d_M_reveal_19 rfl (j := 1) rfl ?_
      refine ax_iload_n B d_M_reveal_20 rfl (j := 2) rfl ?_
      refine ax_iload_n B d_M_reveal_21 rfl (j := 3) rfl ?_
      refine ax_cVV B hR (as := [ax_I p0, ax_I p1, ax_I p2]) (V := fun q => ax_I q.1) (N := fun q => q.2) d_M_reveal_22 l_M_180 m_M_isVote hf (fun q h => c_M_isVote _ _ _ _ _ _ _ h) rfl rfl (by decide) (by decide) (by decide) (by decide) (Nat.le_of_ble_eq_true rfl) (fun q3 hf => ?_)
      refine ax_if_ne B (tgt := 31) d_M_reveal_25 (by decide) hf (fun hf => ?_) (fun hf => ?_)
      · refine ax_bipush B (v := (-2)) (by decide) d_M_reveal_28 ?_
        exact ax_ireturn B hE d_M_reveal_30 hf rfl hag (by decide) (by decide)
      · refine ax_bipush B (v := 8) (by decide) d_M_reveal_31 ?_
        refine ax_iload_n B d_M_reveal_33 rfl (j := 1) rfl ?_
        refine ax_imul B d_M_reveal_34 ?_
        refine ax_iload_n B d_M_reveal_35 rfl (j := 2) rfl ?_
        refine ax_iadd B d_M_reveal_36 ?_
        refine ax_nmI hf (fun y4 hf => ?_)
        refine ax_istore B (lv' := [(5, ax_I y4), (0, ax_O x0), (1, ax_I p0), (2, ax_I p1), (3, ax_I p2), (4, ax_I p3)]) d_M_reveal_37 (by rw [hn]; decide) rfl ?_
        refine ax_aload_n B d_M_reveal_39 rfl (j := 1) rfl ?_
        refine ax_iload_n B d_M_reveal_40 rfl (j := 2) rfl ?_
        refine ax_cVV B hR (as := [ax_I p0]) (V := fun q => ax_I q.1) (N := fun q => q.2) d_M_reveal_41 l_M_183 m_M_isHidden hf (fun q h => c_M_isHidden _ _ _ _ _ h) rfl rfl (by decide) (by decide) (by decide) (by decide) (Nat.le_of_ble_eq_true rfl) (fun q5 hf => ?_)
        refine ax_if_eq B (tgt := 112) d_M_reveal_44 (by decide) hf (fun hf => ?_) (fun hf => ?_)
        · refine ax_sub [] rfl ?_
          exact K_M_reveal_112 B hn hR hE hag q5.2 hf
        · refine ax_aload_n B d_M_reveal_47 rfl (j := 1) rfl ?_
          refine ax_getI B d_M_reveal_48 k_M_156 rfl hf (fun x6 hf => ?_)
          refine ax_aload_n B d_M_reveal_51 rfl (j := 1) rfl ?_
          refine ax_getR B d_M_reveal_52 k_M_29 rfl hf (fun x7 hf => ?_)
          refine ax_iload_n B d_M_reveal_55 rfl (j := 2) rfl ?_
          refine ax_iald B d_M_reveal_56 (t := 0) (by decide) rfl hf (fun x8 hf => ?_)
          refine ax_icmp_lt B (tgt := 112) d_M_reveal_57 (by decide) hf (fun hf => ?_) (fun hf => ?_)
          · refine ax_sub [] rfl ?_
            exact K_M_reveal_112 B hn hR hE hag q5.2 hf
          · refine ax_aload_n B d_M_reveal_60 rfl (j := 1) rfl ?_
            refine ax_getI B d_M_reveal_61 k_M_156 rfl hf (fun x9 hf => ?_)
            refine ax_aload_n B d_M_reveal_64 rfl (j := 1) rfl ?_
            refine ax_getR B d_M_reveal_65 k_M_32 rfl hf (fun x10 hf => ?_)
            refine ax_iload_n B d_M_reveal_68 rfl (j := 2) rfl ?_
            refine ax_iald B d_M_reveal_69 (t := 0) (by decide) rfl hf (fun x11 hf => ?_)
            refine ax_icmp_ge B (tgt := 112) d_M_reveal_70 (by decide) hf (fun hf => ?_) (fun hf => ?_)
            · refine ax_sub [] rfl ?_
              exact K_M_reveal_112 B hn hR hE hag q5.2 hf
            · refine ax_aload_n B d_M_reveal_73 rfl (j := 1) rfl ?_
              refine ax_getR B d_M_reveal_74 k_M_57 rfl hf (fun x12 hf => ?_)
              refine ax_iload B (j := 0) d_M_reveal_77 rfl ?_
              refine ax_zald B d_M_reveal_79 (t := 2) (by decide) rfl hf (fun x13 hf => ?_)
              refine ax_if_ne B (tgt := 112) d_M_reveal_80 (by decide) hf (fun hf => ?_) (fun hf => ?_)
              · refine ax_aload_n B d_M_reveal_83 rfl (j := 1) rfl ?_
                refine ax_getR B d_M_reveal_84 k_M_63 rfl hf (fun x14 hf => ?_)
                refine ax_iload B (j := 0) d_M_reveal_87 rfl ?_
                refine ax_zald B d_M_reveal_89 (t := 2) (by decide) rfl hf (fun x15 hf => ?_)
                refine ax_if_eq B (tgt := 112) d_M_reveal_90 (by decide) hf (fun hf => ?_) (fun hf => ?_)
                · refine ax_sub [] rfl ?_
                  exact K_M_reveal_112 B hn hR hE hag q5.2 hf
                · refine ax_aload_n B d_M_reveal_93 rfl (j := 1) rfl ?_
                  refine ax_getR B d_M_reveal_94 k_M_66 rfl hf (fun x16 hf => ?_)
                  refine ax_iload B (j := 0) d_M_reveal_97 rfl ?_
                  refine ax_lald B d_M_reveal_99 (t := 1) (by decide) rfl hf (fun x17 hf => ?_)
                  refine ax_aload_n B d_M_reveal_100 rfl (j := 1) rfl ?_
                  refine ax_iload_n B d_M_reveal_101 rfl (j := 3) rfl ?_
                  refine ax_iload_n B d_M_reveal_102 rfl (j := 4) rfl ?_
                  refine ax_iload B (j := 5) d_M_reveal_103 rfl ?_
                  refine ax_cVV B hR (as := [ax_I p1, ax_I p2, ax_I p3]) (V := fun q => ax_L q.1) (N := fun q => q.2) d_M_reveal_105 l_M_186 m_M_mark hf (fun q h => c_M_mark _ _ _ _ _ _ _ h) rfl rfl (by decide) (by decide) (by decide) (by decide) (Nat.le_of_ble_eq_true rfl) (fun q18 hf => ?_)
                  refine ax_lcmp B d_M_reveal_108 ?_
                  refine ax_if_eq B (tgt := 115) d_M_reveal_109 (by decide) hf (fun hf => ?_) (fun hf => ?_)
                  · refine ax_aload_n B d_M_reveal_115 rfl (j := 1) rfl ?_
                    refine ax_getR B d_M_reveal_116 k_M_57 rfl hf (fun x19 hf => ?_)
                    refine ax_iload B (j := 0) d_M_reveal_119 rfl ?_
                    refine ax_iconst B (v := 1) (by decide) d_M_reveal_121 ?_
                    refine ax_zast B d_M_reveal_122 (t := 2) (by decide) rfl (by decide) hf (fun M20 hf => ?_)
                    refine ax_aload_n B d_M_reveal_123 rfl (j := 1) rfl ?_
                    refine ax_getR B d_M_reveal_124 k_M_60 rfl hf (fun x21 hf => ?_)
                    refine ax_iload B (j := 0) d_M_reveal_127 rfl ?_
                    refine ax_iload_n B d_M_reveal_129 rfl (j := 4) rfl ?_
                    refine ax_iast B d_M_reveal_130 (t := 0) (by decide) rfl hf (fun M22 hf => ?_)
                    refine ax_iconst B (v := 1) (by decide) d_M_reveal_131 ?_
                    exact ax_ireturn B hE d_M_reveal_132 hf rfl hag (by decide) (by decide)
                  · refine ax_sub [] rfl ?_
                    exact K_M_reveal_112 B hn hR hE hag q18.2 hf
              · refine ax_sub [] rfl ?_
                exact K_M_reveal_112 B hn hR hE hag q5.2 hf
def G_M_speakerOf_33  (M : ax_M) (s0 : Int32) : Option (Int32 × ax_M) := some (s0, M)
set_option maxRecDepth 100000 in
set_option maxHeartbeats 4000000 in
theorem K_M_speakerOf_33 {Z : ax_Z} {ad0 ad : Nat → Nat} {q : Int32 × ax_M} (B : ax_B Z "VoteAuctionsModel" b_M_speakerOf (some .int)) (hn : Z.2.2.2.2.2.2.2.2.2.2.2.1 = 3) (hR : ax_R Z 0 0 0) (hE : ax_E Z ad0 [] 0 0 (some (ax_I q.1)) q.2) (hag : ∀ a, a ∉ ([] : List Nat) → ad a = ad0 a)   : ∀ (M : ax_M) (s0 : Int32), G_M_speakerOf_33  M s0 = some q → ax_W Z ad 0 0 33 [] [ax_I s0] M := by
  intro M s0 hf
  unfold G_M_speakerOf_33 at hf
  exact ax_ireturn B hE d_M_speakerOf_33 hf rfl hag (by decide) (by decide)
def f_M_speakerOf (M : ax_M) (x0 : Option Nat) (p0 : Int32) (p1 : Int32) : Option (Int32 × ax_M) := (ax_gi M 3 1 x0).bind (fun x1 => (ax_gr M 3 12 x0).bind (fun x2 => (ax_ri M 0 x2 p0).bind (fun x3 => if x1 < x3 then (ax_gr M 3 7 x0).bind (fun x4 => (ax_ri M 0 x4 p1).bind (fun x5 => G_M_speakerOf_33 M x5)) else (ax_gr M 3 24 x0).bind (fun x6 => (ax_ri M 0 x6 ((8 * p0) + p1)).bind (fun x7 => G_M_speakerOf_33 M x7)))))
set_option maxRecDepth 100000 in
set_option maxHeartbeats 4000000 in
theorem c_M_speakerOf (l : Launch) (G : ax_G) (M : ax_M) (x0 : Option Nat) (p0 : Int32) (p1 : Int32) {q : Int32 × ax_M} (hf : f_M_speakerOf M x0 p0 p1 = some q) : ax_C l G y_M_speakerOf b_M_speakerOf 3 (some .int) [] 0 0 0 [ax_O x0, ax_I p0, ax_I p1] M (some (ax_I q.1)) q.2 := by
  refine ax_ofW (by decide +kernel) (lv0 := [(0, ax_O x0), (1, ax_I p0), (2, ax_I p1)]) (Nat.le_of_ble_eq_true rfl) rfl ?_
  intro Z ad B hin _ _ hn hR hE
  have hag : ∀ a, a ∉ ([] : List Nat) → ad a = ad a := fun _ _ => rfl
  unfold f_M_speakerOf at hf
  refine ax_aload_n B d_M_speakerOf_0 rfl (j := 0) rfl ?_
  refine ax_getI B d_M_speakerOf_1 k_M_156 rfl hf (fun x1 hf => ?_)
  refine ax_aload_n B d_M_speakerOf_4 rfl (j := 0) rfl ?_
  refine ax_getR B d_M_speakerOf_5 k_M_32 rfl hf (fun x2 hf => ?_)
  refine ax_iload_n B d_M_speakerOf_8 rfl (j := 1) rfl ?_
  refine ax_iald B d_M_speakerOf_9 (t := 0) (by decide) rfl hf (fun x3 hf => ?_)
  refine ax_icmp_lt B (tgt := 27) d_M_speakerOf_10 (by decide) hf (fun hf => ?_) (fun hf => ?_)
  · refine ax_aload_n B d_M_speakerOf_27 rfl (j := 0) rfl ?_
    refine ax_getR B d_M_speakerOf_28 k_M_20 rfl hf (fun x4 hf => ?_)
    refine ax_iload_n B d_M_speakerOf_31 rfl (j := 2) rfl ?_
    refine ax_iald B d_M_speakerOf_32 (t := 0) (by decide) rfl hf (fun x5 hf => ?_)
    refine ax_sub [] rfl ?_
    exact K_M_speakerOf_33 B hn hR hE hag M x5 hf
  · refine ax_aload_n B d_M_speakerOf_13 rfl (j := 0) rfl ?_
    refine ax_getR B d_M_speakerOf_14 k_M_69 rfl hf (fun x6 hf => ?_)
    refine ax_bipush B (v := 8) (by decide) d_M_speakerOf_17 ?_
    refine ax_iload_n B d_M_speakerOf_19 rfl (j := 1) rfl ?_
    refine ax_imul B d_M_speakerOf_20 ?_
    refine ax_iload_n B d_M_speakerOf_21 rfl (j := 2) rfl ?_
    refine ax_iadd B d_M_speakerOf_22 ?_
    refine ax_iald B d_M_speakerOf_23 (t := 0) (by decide) rfl hf (fun x7 hf => ?_)
    refine ax_goto B (tgt := 33) d_M_speakerOf_24 (by decide) ?_
    refine ax_sub [] rfl ?_
    exact K_M_speakerOf_33 B hn hR hE hag M x7 hf
def G_M_findVoices_150  (M : ax_M)  : Option (ax_M) := some M
set_option maxRecDepth 100000 in
set_option maxHeartbeats 4000000 in
theorem K_M_findVoices_150 {Z : ax_Z} {ad0 ad : Nat → Nat} {q : ax_M} (B : ax_B Z "VoteAuctionsModel" b_M_findVoices none) (hn : Z.2.2.2.2.2.2.2.2.2.2.2.1 = 4) (hR : ax_R Z 1 0 0) (hE : ax_E Z ad0 [] 0 0 none q) (hag : ∀ a, a ∉ ([] : List Nat) → ad a = ad0 a)   : ∀ (M : ax_M) , G_M_findVoices_150  M  = some q → ax_W Z ad 0 0 150 [] [] M := by
  intro M  hf
  unfold G_M_findVoices_150 at hf
  exact ax_vreturn B hE d_M_findVoices_150 hf hag (by decide) (by decide)
def G_M_findVoices_118 (rec49 : ax_M → Option Nat → Int32 → Int32 → Option (ax_M)) (rec118 : ax_M → Option Nat → Int32 → Int32 → Int32 → Option (ax_M)) (M : ax_M) (v0 : Option Nat) (v1 : Int32) (v2 : Int32) (v3 : Int32) : Option (ax_M) := (ax_gi M 3 3 v0).bind (fun x1 => if x1 ≤ v3 then (some (v2 + 1)).bind (fun y2 => rec49 M v0 v1 y2) else (ax_gr M 3 42 v0).bind (fun x3 => (ax_gr M 3 43 v0).bind (fun x4 => (ax_ri M 0 x4 v3).bind (fun x5 => (ax_ti M 0 x3 v3 x5).bind (fun M6 => (some (v3 + 1)).bind (fun y7 => rec118 M6 v0 v1 v2 y7))))))
set_option maxRecDepth 100000 in
set_option maxHeartbeats 4000000 in
theorem K_M_findVoices_118 {Z : ax_Z} {ad0 ad : Nat → Nat} {q : ax_M} (B : ax_B Z "VoteAuctionsModel" b_M_findVoices none) (hn : Z.2.2.2.2.2.2.2.2.2.2.2.1 = 4) (hR : ax_R Z 1 0 0) (hE : ax_E Z ad0 [] 0 0 none q) (hag : ∀ a, a ∉ ([] : List Nat) → ad a = ad0 a) {rec49 : ax_M → Option Nat → Int32 → Int32 → Option (ax_M)} {rec118 : ax_M → Option Nat → Int32 → Int32 → Int32 → Option (ax_M)} (hr49 : ∀ (M : ax_M) (v0 : Option Nat) (v1 : Int32) (v2 : Int32), rec49 M v0 v1 v2 = some q → ax_W Z ad 0 0 49 [(0, ax_O v0), (1, ax_I v1), (2, ax_I v2)] [] M) (hr118 : ∀ (M : ax_M) (v0 : Option Nat) (v1 : Int32) (v2 : Int32) (v3 : Int32), rec118 M v0 v1 v2 v3 = some q → ax_W Z ad 0 0 118 [(0, ax_O v0), (1, ax_I v1), (2, ax_I v2), (3, ax_I v3)] [] M) : ∀ (M : ax_M) (v0 : Option Nat) (v1 : Int32) (v2 : Int32) (v3 : Int32), G_M_findVoices_118 rec49 rec118 M v0 v1 v2 v3 = some q → ax_W Z ad 0 0 118 [(0, ax_O v0), (1, ax_I v1), (2, ax_I v2), (3, ax_I v3)] [] M := by
  intro M v0 v1 v2 v3 hf
  unfold G_M_findVoices_118 at hf
  refine ax_iload_n B d_M_findVoices_118 rfl (j := 3) rfl ?_
  refine ax_aload_n B d_M_findVoices_119 rfl (j := 0) rfl ?_
  refine ax_getI B d_M_findVoices_120 k_M_136 rfl hf (fun x1 hf => ?_)
  refine ax_icmp_ge B (tgt := 144) d_M_findVoices_123 (by decide) hf (fun hf => ?_) (fun hf => ?_)
  · refine ax_iincN B (j := 2) (lv' := fun y => [(2, ax_I y), (0, ax_O v0), (1, ax_I v1), (3, ax_I v3)]) d_M_findVoices_144 rfl hf rfl (by rw [hn]; decide) (fun _ => rfl) (fun y2 hf => ?_)
    refine ax_goto B (tgt := 49) d_M_findVoices_147 (by decide) ?_
    refine ax_sub [1, 2, 0] rfl ?_
    exact hr49 M v0 v1 y2 hf
  · refine ax_aload_n B d_M_findVoices_126 rfl (j := 0) rfl ?_
    refine ax_getR B d_M_findVoices_127 k_M_117 rfl hf (fun x3 hf => ?_)
    refine ax_iload_n B d_M_findVoices_130 rfl (j := 3) rfl ?_
    refine ax_aload_n B d_M_findVoices_131 rfl (j := 0) rfl ?_
    refine ax_getR B d_M_findVoices_132 k_M_120 rfl hf (fun x4 hf => ?_)
    refine ax_iload_n B d_M_findVoices_135 rfl (j := 3) rfl ?_
    refine ax_iald B d_M_findVoices_136 (t := 0) (by decide) rfl hf (fun x5 hf => ?_)
    refine ax_iast B d_M_findVoices_137 (t := 0) (by decide) rfl hf (fun M6 hf => ?_)
    refine ax_iincN B (j := 3) (lv' := fun y => [(3, ax_I y), (0, ax_O v0), (1, ax_I v1), (2, ax_I v2)]) d_M_findVoices_138 rfl hf rfl (by rw [hn]; decide) (fun _ => rfl) (fun y7 hf => ?_)
    refine ax_goto B (tgt := 118) d_M_findVoices_141 (by decide) ?_
    refine ax_sub [1, 2, 3, 0] rfl ?_
    exact hr118 M6 v0 v1 v2 y7 hf
def F_M_findVoices_118 (rec49 : ax_M → Option Nat → Int32 → Int32 → Option (ax_M)) : Nat → ax_M → Option Nat → Int32 → Int32 → Int32 → Option (ax_M)
  | 0 => fun _ _ _ _ _ => none
  | n + 1 => G_M_findVoices_118 rec49 (F_M_findVoices_118 rec49 n)
set_option maxRecDepth 100000 in
set_option maxHeartbeats 4000000 in
theorem L_M_findVoices_118 {Z : ax_Z} {ad0 ad : Nat → Nat} {q : ax_M} (B : ax_B Z "VoteAuctionsModel" b_M_findVoices none) (hn : Z.2.2.2.2.2.2.2.2.2.2.2.1 = 4) (hR : ax_R Z 1 0 0) (hE : ax_E Z ad0 [] 0 0 none q) (hag : ∀ a, a ∉ ([] : List Nat) → ad a = ad0 a) {rec49 : ax_M → Option Nat → Int32 → Int32 → Option (ax_M)} (hr49 : ∀ (M : ax_M) (v0 : Option Nat) (v1 : Int32) (v2 : Int32), rec49 M v0 v1 v2 = some q → ax_W Z ad 0 0 49 [(0, ax_O v0), (1, ax_I v1), (2, ax_I v2)] [] M) : ∀ (n : Nat) (M : ax_M) (v0 : Option Nat) (v1 : Int32) (v2 : Int32) (v3 : Int32), F_M_findVoices_118 rec49 n M v0 v1 v2 v3 = some q → ax_W Z ad 0 0 118 [(0, ax_O v0), (1, ax_I v1), (2, ax_I v2), (3, ax_I v3)] [] M := by
  intro n
  induction n with
  | zero => intro M v0 v1 v2 v3 hf; cases hf
  | succ n ih => exact K_M_findVoices_118 B hn hR hE hag hr49 ih
def G_M_findVoices_109 (rec49 : ax_M → Option Nat → Int32 → Int32 → Option (ax_M)) (rec67 : ax_M → Option Nat → Int32 → Int32 → Int32 → Option (ax_M)) (M : ax_M) (v0 : Option Nat) (v1 : Int32) (v2 : Int32) (v3 : Int32) (s0 : Int32) (s1 : Int32) (s2 : Option Nat) : Option (ax_M) := (ax_ti M 0 s2 s1 s0).bind (fun M1 => (some (v3 + 1)).bind (fun y2 => rec67 M1 v0 v1 v2 y2))
set_option maxRecDepth 100000 in
set_option maxHeartbeats 4000000 in
theorem K_M_findVoices_109 {Z : ax_Z} {ad0 ad : Nat → Nat} {q : ax_M} (B : ax_B Z "VoteAuctionsModel" b_M_findVoices none) (hn : Z.2.2.2.2.2.2.2.2.2.2.2.1 = 4) (hR : ax_R Z 1 0 0) (hE : ax_E Z ad0 [] 0 0 none q) (hag : ∀ a, a ∉ ([] : List Nat) → ad a = ad0 a) {rec49 : ax_M → Option Nat → Int32 → Int32 → Option (ax_M)} {rec67 : ax_M → Option Nat → Int32 → Int32 → Int32 → Option (ax_M)} (hr49 : ∀ (M : ax_M) (v0 : Option Nat) (v1 : Int32) (v2 : Int32), rec49 M v0 v1 v2 = some q → ax_W Z ad 0 0 49 [(0, ax_O v0), (1, ax_I v1), (2, ax_I v2)] [] M) (hr67 : ∀ (M : ax_M) (v0 : Option Nat) (v1 : Int32) (v2 : Int32) (v3 : Int32), rec67 M v0 v1 v2 v3 = some q → ax_W Z ad 0 0 67 [(0, ax_O v0), (1, ax_I v1), (2, ax_I v2), (3, ax_I v3)] [] M) : ∀ (M : ax_M) (v0 : Option Nat) (v1 : Int32) (v2 : Int32) (v3 : Int32) (s0 : Int32) (s1 : Int32) (s2 : Option Nat), G_M_findVoices_109 rec49 rec67 M v0 v1 v2 v3 s0 s1 s2 = some q → ax_W Z ad 0 0 109 [(0, ax_O v0), (1, ax_I v1), (2, ax_I v2), (3, ax_I v3)] [ax_I s0, ax_I s1, ax_O s2] M := by
  intro M v0 v1 v2 v3 s0 s1 s2 hf
  unfold G_M_findVoices_109 at hf
  refine ax_iast B d_M_findVoices_109 (t := 0) (by decide) rfl hf (fun M1 hf => ?_)
  refine ax_iincN B (j := 3) (lv' := fun y => [(3, ax_I y), (0, ax_O v0), (1, ax_I v1), (2, ax_I v2)]) d_M_findVoices_110 rfl hf rfl (by rw [hn]; decide) (fun _ => rfl) (fun y2 hf => ?_)
  refine ax_goto B (tgt := 67) d_M_findVoices_113 (by decide) ?_
  refine ax_sub [1, 2, 3, 0] rfl ?_
  exact hr67 M1 v0 v1 v2 y2 hf
def G_M_findVoices_67 (rec49 : ax_M → Option Nat → Int32 → Int32 → Option (ax_M)) (rec67 : ax_M → Option Nat → Int32 → Int32 → Int32 → Option (ax_M)) (M : ax_M) (v0 : Option Nat) (v1 : Int32) (v2 : Int32) (v3 : Int32) : Option (ax_M) := (ax_gi M 3 3 v0).bind (fun x1 => if x1 ≤ v3 then F_M_findVoices_118 rec49 64 M v0 v1 v2 0 else (ax_gr M 3 43 v0).bind (fun x2 => (ax_gr M 3 42 v0).bind (fun x3 => (ax_ri M 0 x3 v3).bind (fun x4 => if 0 ≤ x4 then (ax_gr M 3 42 v0).bind (fun x5 => (ax_ri M 0 x5 v3).bind (fun x6 => G_M_findVoices_109 rec49 rec67 M v0 v1 v2 v3 x6 v3 x2)) else (ax_gr M 3 42 v0).bind (fun x7 => (ax_ob M 3 v0).bind (fun _ => (f_M_speakerOf M v0 v1 v3).bind (fun q8 => (ax_ri q8.2 0 x7 q8.1).bind (fun x9 => G_M_findVoices_109 rec49 rec67 q8.2 v0 v1 v2 v3 x9 v3 x2))))))))
set_option maxRecDepth 100000 in
set_option maxHeartbeats 4000000 in
theorem K_M_findVoices_67 {Z : ax_Z} {ad0 ad : Nat → Nat} {q : ax_M} (B : ax_B Z "VoteAuctionsModel" b_M_findVoices none) (hn : Z.2.2.2.2.2.2.2.2.2.2.2.1 = 4) (hR : ax_R Z 1 0 0) (hE : ax_E Z ad0 [] 0 0 none q) (hag : ∀ a, a ∉ ([] : List Nat) → ad a = ad0 a) {rec49 : ax_M → Option Nat → Int32 → Int32 → Option (ax_M)} {rec67 : ax_M → Option Nat → Int32 → Int32 → Int32 → Option (ax_M)} (hr49 : ∀ (M : ax_M) (v0 : Option Nat) (v1 : Int32) (v2 : Int32), rec49 M v0 v1 v2 = some q → ax_W Z ad 0 0 49 [(0, ax_O v0), (1, ax_I v1), (2, ax_I v2)] [] M) (hr67 : ∀ (M : ax_M) (v0 : Option Nat) (v1 : Int32) (v2 : Int32) (v3 : Int32), rec67 M v0 v1 v2 v3 = some q → ax_W Z ad 0 0 67 [(0, ax_O v0), (1, ax_I v1), (2, ax_I v2), (3, ax_I v3)] [] M) : ∀ (M : ax_M) (v0 : Option Nat) (v1 : Int32) (v2 : Int32) (v3 : Int32), G_M_findVoices_67 rec49 rec67 M v0 v1 v2 v3 = some q → ax_W Z ad 0 0 67 [(0, ax_O v0), (1, ax_I v1), (2, ax_I v2), (3, ax_I v3)] [] M := by
  intro M v0 v1 v2 v3 hf
  unfold G_M_findVoices_67 at hf
  refine ax_iload_n B d_M_findVoices_67 rfl (j := 3) rfl ?_
  refine ax_aload_n B d_M_findVoices_68 rfl (j := 0) rfl ?_
  refine ax_getI B d_M_findVoices_69 k_M_136 rfl hf (fun x1 hf => ?_)
  refine ax_icmp_ge B (tgt := 116) d_M_findVoices_72 (by decide) hf (fun hf => ?_) (fun hf => ?_)
  · refine ax_iconst B (v := 0) (by decide) d_M_findVoices_116 ?_
    refine ax_istore_n B (lv' := [(3, ax_I 0), (0, ax_O v0), (1, ax_I v1), (2, ax_I v2)]) d_M_findVoices_117 rfl (by rw [hn]; decide) rfl ?_
    refine ax_sub [1, 2, 3, 0] rfl ?_
    exact L_M_findVoices_118 B hn hR hE hag hr49 64 M v0 v1 v2 0 hf
  · refine ax_aload_n B d_M_findVoices_75 rfl (j := 0) rfl ?_
    refine ax_getR B d_M_findVoices_76 k_M_120 rfl hf (fun x2 hf => ?_)
    refine ax_iload_n B d_M_findVoices_79 rfl (j := 3) rfl ?_
    refine ax_aload_n B d_M_findVoices_80 rfl (j := 0) rfl ?_
    refine ax_getR B d_M_findVoices_81 k_M_117 rfl hf (fun x3 hf => ?_)
    refine ax_iload_n B d_M_findVoices_84 rfl (j := 3) rfl ?_
    refine ax_iald B d_M_findVoices_85 (t := 0) (by decide) rfl hf (fun x4 hf => ?_)
    refine ax_if_ge B (tgt := 103) d_M_findVoices_86 (by decide) hf (fun hf => ?_) (fun hf => ?_)
    · refine ax_aload_n B d_M_findVoices_103 rfl (j := 0) rfl ?_
      refine ax_getR B d_M_findVoices_104 k_M_117 rfl hf (fun x5 hf => ?_)
      refine ax_iload_n B d_M_findVoices_107 rfl (j := 3) rfl ?_
      refine ax_iald B d_M_findVoices_108 (t := 0) (by decide) rfl hf (fun x6 hf => ?_)
      exact K_M_findVoices_109 B hn hR hE hag hr49 hr67 M v0 v1 v2 v3 x6 v3 x2 hf
    · refine ax_aload_n B d_M_findVoices_89 rfl (j := 0) rfl ?_
      refine ax_getR B d_M_findVoices_90 k_M_117 rfl hf (fun x7 hf => ?_)
      refine ax_aload_n B d_M_findVoices_93 rfl (j := 0) rfl ?_
      refine ax_iload_n B d_M_findVoices_94 rfl (j := 1) rfl ?_
      refine ax_iload_n B d_M_findVoices_95 rfl (j := 3) rfl ?_
      refine ax_cVV B hR (as := [ax_I v1, ax_I v3]) (V := fun q => ax_I q.1) (N := fun q => q.2) d_M_findVoices_96 l_M_190 m_M_speakerOf hf (fun q h => c_M_speakerOf _ _ _ _ _ _ h) rfl rfl (by decide) (by decide) (by decide) (by decide) (Nat.le_of_ble_eq_true rfl) (fun q8 hf => ?_)
      refine ax_iald B d_M_findVoices_99 (t := 0) (by decide) rfl hf (fun x9 hf => ?_)
      refine ax_goto B (tgt := 109) d_M_findVoices_100 (by decide) ?_
      exact K_M_findVoices_109 B hn hR hE hag hr49 hr67 q8.2 v0 v1 v2 v3 x9 v3 x2 hf
def F_M_findVoices_67 (rec49 : ax_M → Option Nat → Int32 → Int32 → Option (ax_M)) : Nat → ax_M → Option Nat → Int32 → Int32 → Int32 → Option (ax_M)
  | 0 => fun _ _ _ _ _ => none
  | n + 1 => G_M_findVoices_67 rec49 (F_M_findVoices_67 rec49 n)
set_option maxRecDepth 100000 in
set_option maxHeartbeats 4000000 in
theorem L_M_findVoices_67 {Z : ax_Z} {ad0 ad : Nat → Nat} {q : ax_M} (B : ax_B Z "VoteAuctionsModel" b_M_findVoices none) (hn : Z.2.2.2.2.2.2.2.2.2.2.2.1 = 4) (hR : ax_R Z 1 0 0) (hE : ax_E Z ad0 [] 0 0 none q) (hag : ∀ a, a ∉ ([] : List Nat) → ad a = ad0 a) {rec49 : ax_M → Option Nat → Int32 → Int32 → Option (ax_M)} (hr49 : ∀ (M : ax_M) (v0 : Option Nat) (v1 : Int32) (v2 : Int32), rec49 M v0 v1 v2 = some q → ax_W Z ad 0 0 49 [(0, ax_O v0), (1, ax_I v1), (2, ax_I v2)] [] M) : ∀ (n : Nat) (M : ax_M) (v0 : Option Nat) (v1 : Int32) (v2 : Int32) (v3 : Int32), F_M_findVoices_67 rec49 n M v0 v1 v2 v3 = some q → ax_W Z ad 0 0 67 [(0, ax_O v0), (1, ax_I v1), (2, ax_I v2), (3, ax_I v3)] [] M := by
  intro n
  induction n with
  | zero => intro M v0 v1 v2 v3 hf; cases hf
  | succ n ih => exact K_M_findVoices_67 B hn hR hE hag hr49 ih
def G_M_findVoices_49 (rec49 : ax_M → Option Nat → Int32 → Int32 → Option (ax_M)) (M : ax_M) (v0 : Option Nat) (v1 : Int32) (v2 : Int32) : Option (ax_M) := if 8 ≤ v2 then G_M_findVoices_150 M else (ax_gr M 3 9 v0).bind (fun x1 => (ax_ri M 0 x1 v1).bind (fun x2 => if x2 = 3 then G_M_findVoices_150 M else F_M_findVoices_67 rec49 64 M v0 v1 v2 0))
set_option maxRecDepth 100000 in
set_option maxHeartbeats 4000000 in
theorem K_M_findVoices_49 {Z : ax_Z} {ad0 ad : Nat → Nat} {q : ax_M} (B : ax_B Z "VoteAuctionsModel" b_M_findVoices none) (hn : Z.2.2.2.2.2.2.2.2.2.2.2.1 = 4) (hR : ax_R Z 1 0 0) (hE : ax_E Z ad0 [] 0 0 none q) (hag : ∀ a, a ∉ ([] : List Nat) → ad a = ad0 a) {rec49 : ax_M → Option Nat → Int32 → Int32 → Option (ax_M)} (hr49 : ∀ (M : ax_M) (v0 : Option Nat) (v1 : Int32) (v2 : Int32), rec49 M v0 v1 v2 = some q → ax_W Z ad 0 0 49 [(0, ax_O v0), (1, ax_I v1), (2, ax_I v2)] [] M) : ∀ (M : ax_M) (v0 : Option Nat) (v1 : Int32) (v2 : Int32), G_M_findVoices_49 rec49 M v0 v1 v2 = some q → ax_W Z ad 0 0 49 [(0, ax_O v0), (1, ax_I v1), (2, ax_I v2)] [] M := by
  intro M v0 v1 v2 hf
  unfold G_M_findVoices_49 at hf
  refine ax_iload_n B d_M_findVoices_49 rfl (j := 2) rfl ?_
  refine ax_bipush B (v := 8) (by decide) d_M_findVoices_50 ?_
  refine ax_icmp_ge B (tgt := 150) d_M_findVoices_52 (by decide) hf (fun hf => ?_) (fun hf => ?_)
  · refine ax_sub [] rfl ?_
    exact K_M_findVoices_150 B hn hR hE hag M hf
  · refine ax_aload_n B d_M_findVoices_55 rfl (j := 0) rfl ?_
    refine ax_getR B d_M_findVoices_56 k_M_23 rfl hf (fun x1 hf => ?_)
    refine ax_iload_n B d_M_findVoices_59 rfl (j := 1) rfl ?_
    refine ax_iald B d_M_findVoices_60 (t := 0) (by decide) rfl hf (fun x2 hf => ?_)
    refine ax_iconst B (v := 3) (by decide) d_M_findVoices_61 ?_
    refine ax_icmp_eq B (tgt := 150) d_M_findVoices_62 (by decide) hf (fun hf => ?_) (fun hf => ?_)
    · refine ax_sub [] rfl ?_
      exact K_M_findVoices_150 B hn hR hE hag M hf
    · refine ax_iconst B (v := 0) (by decide) d_M_findVoices_65 ?_
      refine ax_istore_n B (lv' := [(3, ax_I 0), (0, ax_O v0), (1, ax_I v1), (2, ax_I v2)]) d_M_findVoices_66 rfl (by rw [hn]; decide) rfl ?_
      refine ax_sub [1, 2, 3, 0] rfl ?_
      exact L_M_findVoices_67 B hn hR hE hag hr49 64 M v0 v1 v2 0 hf
def F_M_findVoices_49  : Nat → ax_M → Option Nat → Int32 → Int32 → Option (ax_M)
  | 0 => fun _ _ _ _ => none
  | n + 1 => G_M_findVoices_49 (F_M_findVoices_49  n)
set_option maxRecDepth 100000 in
set_option maxHeartbeats 4000000 in
theorem L_M_findVoices_49 {Z : ax_Z} {ad0 ad : Nat → Nat} {q : ax_M} (B : ax_B Z "VoteAuctionsModel" b_M_findVoices none) (hn : Z.2.2.2.2.2.2.2.2.2.2.2.1 = 4) (hR : ax_R Z 1 0 0) (hE : ax_E Z ad0 [] 0 0 none q) (hag : ∀ a, a ∉ ([] : List Nat) → ad a = ad0 a)   : ∀ (n : Nat) (M : ax_M) (v0 : Option Nat) (v1 : Int32) (v2 : Int32), F_M_findVoices_49  n M v0 v1 v2 = some q → ax_W Z ad 0 0 49 [(0, ax_O v0), (1, ax_I v1), (2, ax_I v2)] [] M := by
  intro n
  induction n with
  | zero => intro M v0 v1 v2 hf; cases hf
  | succ n ih => exact K_M_findVoices_49 B hn hR hE hag ih
def G_M_findVoices_40 (rec2 : ax_M → Option Nat → Int32 → Int32 → Option (ax_M)) (M : ax_M) (v0 : Option Nat) (v1 : Int32) (v2 : Int32) (s0 : Int32) (s1 : Int32) (s2 : Option Nat) : Option (ax_M) := (ax_ti M 0 s2 s1 s0).bind (fun M1 => (some (v2 + 1)).bind (fun y2 => rec2 M1 v0 v1 y2))
set_option maxRecDepth 100000 in
set_option maxHeartbeats 4000000 in
theorem K_M_findVoices_40 {Z : ax_Z} {ad0 ad : Nat → Nat} {q : ax_M} (B : ax_B Z "VoteAuctionsModel" b_M_findVoices none) (hn : Z.2.2.2.2.2.2.2.2.2.2.2.1 = 4) (hR : ax_R Z 1 0 0) (hE : ax_E Z ad0 [] 0 0 none q) (hag : ∀ a, a ∉ ([] : List Nat) → ad a = ad0 a) {rec2 : ax_M → Option Nat → Int32 → Int32 → Option (ax_M)} (hr2 : ∀ (M : ax_M) (v0 : Option Nat) (v1 : Int32) (v2 : Int32), rec2 M v0 v1 v2 = some q → ax_W Z ad 0 0 2 [(0, ax_O v0), (1, ax_I v1), (2, ax_I v2)] [] M) : ∀ (M : ax_M) (v0 : Option Nat) (v1 : Int32) (v2 : Int32) (s0 : Int32) (s1 : Int32) (s2 : Option Nat), G_M_findVoices_40 rec2 M v0 v1 v2 s0 s1 s2 = some q → ax_W Z ad 0 0 40 [(0, ax_O v0), (1, ax_I v1), (2, ax_I v2)] [ax_I s0, ax_I s1, ax_O s2] M := by
  intro M v0 v1 v2 s0 s1 s2 hf
  unfold G_M_findVoices_40 at hf
  refine ax_iast B d_M_findVoices_40 (t := 0) (by decide) rfl hf (fun M1 hf => ?_)
  refine ax_iincN B (j := 2) (lv' := fun y => [(2, ax_I y), (0, ax_O v0), (1, ax_I v1)]) d_M_findVoices_41 rfl hf rfl (by rw [hn]; decide) (fun _ => rfl) (fun y2 hf => ?_)
  refine ax_goto B (tgt := 2) d_M_findVoices_44 (by decide) ?_
  refine ax_sub [1, 2, 0] rfl ?_
  exact hr2 M1 v0 v1 y2 hf
def G_M_findVoices_39 (rec2 : ax_M → Option Nat → Int32 → Int32 → Option (ax_M)) (M : ax_M) (v0 : Option Nat) (v1 : Int32) (v2 : Int32) (s0 : Int32) (s1 : Option Nat) : Option (ax_M) := G_M_findVoices_40 rec2 M v0 v1 v2 (-1) s0 s1
set_option maxRecDepth 100000 in
set_option maxHeartbeats 4000000 in
theorem K_M_findVoices_39 {Z : ax_Z} {ad0 ad : Nat → Nat} {q : ax_M} (B : ax_B Z "VoteAuctionsModel" b_M_findVoices none) (hn : Z.2.2.2.2.2.2.2.2.2.2.2.1 = 4) (hR : ax_R Z 1 0 0) (hE : ax_E Z ad0 [] 0 0 none q) (hag : ∀ a, a ∉ ([] : List Nat) → ad a = ad0 a) {rec2 : ax_M → Option Nat → Int32 → Int32 → Option (ax_M)} (hr2 : ∀ (M : ax_M) (v0 : Option Nat) (v1 : Int32) (v2 : Int32), rec2 M v0 v1 v2 = some q → ax_W Z ad 0 0 2 [(0, ax_O v0), (1, ax_I v1), (2, ax_I v2)] [] M) : ∀ (M : ax_M) (v0 : Option Nat) (v1 : Int32) (v2 : Int32) (s0 : Int32) (s1 : Option Nat), G_M_findVoices_39 rec2 M v0 v1 v2 s0 s1 = some q → ax_W Z ad 0 0 39 [(0, ax_O v0), (1, ax_I v1), (2, ax_I v2)] [ax_I s0, ax_O s1] M := by
  intro M v0 v1 v2 s0 s1 hf
  unfold G_M_findVoices_39 at hf
  refine ax_iconst B (v := (-1)) (by decide) d_M_findVoices_39 ?_
  exact K_M_findVoices_40 B hn hR hE hag hr2 M v0 v1 v2 (-1) s0 s1 hf
def G_M_findVoices_2 (rec2 : ax_M → Option Nat → Int32 → Int32 → Option (ax_M)) (M : ax_M) (v0 : Option Nat) (v1 : Int32) (v2 : Int32) : Option (ax_M) := if 8 ≤ v2 then F_M_findVoices_49 64 M v0 v1 0 else (ax_gr M 3 42 v0).bind (fun x1 => (ax_gi M 3 3 v0).bind (fun x2 => if x2 ≤ v2 then G_M_findVoices_39 rec2 M v0 v1 v2 v2 x1 else (ax_gr M 3 20 v0).bind (fun x3 => (ax_ri M 2 x3 ((8 * v1) + v2)).bind (fun x4 => if x4 = 0 then G_M_findVoices_39 rec2 M v0 v1 v2 v2 x1 else G_M_findVoices_40 rec2 M v0 v1 v2 v2 v2 x1))))
set_option maxRecDepth 100000 in
set_option maxHeartbeats 4000000 in
theorem K_M_findVoices_2 {Z : ax_Z} {ad0 ad : Nat → Nat} {q : ax_M} (B : ax_B Z "VoteAuctionsModel" b_M_findVoices none) (hn : Z.2.2.2.2.2.2.2.2.2.2.2.1 = 4) (hR : ax_R Z 1 0 0) (hE : ax_E Z ad0 [] 0 0 none q) (hag : ∀ a, a ∉ ([] : List Nat) → ad a = ad0 a) {rec2 : ax_M → Option Nat → Int32 → Int32 → Option (ax_M)} (hr2 : ∀ (M : ax_M) (v0 : Option Nat) (v1 : Int32) (v2 : Int32), rec2 M v0 v1 v2 = some q → ax_W Z ad 0 0 2 [(0, ax_O v0), (1, ax_I v1), (2, ax_I v2)] [] M) : ∀ (M : ax_M) (v0 : Option Nat) (v1 : Int32) (v2 : Int32), G_M_findVoices_2 rec2 M v0 v1 v2 = some q → ax_W Z ad 0 0 2 [(0, ax_O v0), (1, ax_I v1), (2, ax_I v2)] [] M := by
  intro M v0 v1 v2 hf
  unfold G_M_findVoices_2 at hf
  refine ax_iload_n B d_M_findVoices_2 rfl (j := 2) rfl ?_
  refine ax_bipush B (v := 8) (by decide) d_M_findVoices_3 ?_
  refine ax_icmp_ge B (tgt := 47) d_M_findVoices_5 (by decide) hf (fun hf => ?_) (fun hf => ?_)
  · refine ax_iconst B (v := 0) (by decide) d_M_findVoices_47 ?_
    refine ax_istore_n B (lv' := [(2, ax_I 0), (0, ax_O v0), (1, ax_I v1)]) d_M_findVoices_48 rfl (by rw [hn]; decide) rfl ?_
    refine ax_sub [1, 2, 0] rfl ?_
    exact L_M_findVoices_49 B hn hR hE hag 64 M v0 v1 0 hf
  · refine ax_aload_n B d_M_findVoices_8 rfl (j := 0) rfl ?_
    refine ax_getR B d_M_findVoices_9 k_M_117 rfl hf (fun x1 hf => ?_)
    refine ax_iload_n B d_M_findVoices_12 rfl (j := 2) rfl ?_
    refine ax_iload_n B d_M_findVoices_13 rfl (j := 2) rfl ?_
    refine ax_aload_n B d_M_findVoices_14 rfl (j := 0) rfl ?_
    refine ax_getI B d_M_findVoices_15 k_M_136 rfl hf (fun x2 hf => ?_)
    refine ax_icmp_ge B (tgt := 39) d_M_findVoices_18 (by decide) hf (fun hf => ?_) (fun hf => ?_)
    · exact K_M_findVoices_39 B hn hR hE hag hr2 M v0 v1 v2 v2 x1 hf
    · refine ax_aload_n B d_M_findVoices_21 rfl (j := 0) rfl ?_
      refine ax_getR B d_M_findVoices_22 k_M_57 rfl hf (fun x3 hf => ?_)
      refine ax_bipush B (v := 8) (by decide) d_M_findVoices_25 ?_
      refine ax_iload_n B d_M_findVoices_27 rfl (j := 1) rfl ?_
      refine ax_imul B d_M_findVoices_28 ?_
      refine ax_iload_n B d_M_findVoices_29 rfl (j := 2) rfl ?_
      refine ax_iadd B d_M_findVoices_30 ?_
      refine ax_zald B d_M_findVoices_31 (t := 2) (by decide) rfl hf (fun x4 hf => ?_)
      refine ax_if_eq B (tgt := 39) d_M_findVoices_32 (by decide) hf (fun hf => ?_) (fun hf => ?_)
      · exact K_M_findVoices_39 B hn hR hE hag hr2 M v0 v1 v2 v2 x1 hf
      · refine ax_iload_n B d_M_findVoices_35 rfl (j := 2) rfl ?_
        refine ax_goto B (tgt := 40) d_M_findVoices_36 (by decide) ?_
        exact K_M_findVoices_40 B hn hR hE hag hr2 M v0 v1 v2 v2 v2 x1 hf
def F_M_findVoices_2  : Nat → ax_M → Option Nat → Int32 → Int32 → Option (ax_M)
  | 0 => fun _ _ _ _ => none
  | n + 1 => G_M_findVoices_2 (F_M_findVoices_2  n)
set_option maxRecDepth 100000 in
set_option maxHeartbeats 4000000 in
theorem L_M_findVoices_2 {Z : ax_Z} {ad0 ad : Nat → Nat} {q : ax_M} (B : ax_B Z "VoteAuctionsModel" b_M_findVoices none) (hn : Z.2.2.2.2.2.2.2.2.2.2.2.1 = 4) (hR : ax_R Z 1 0 0) (hE : ax_E Z ad0 [] 0 0 none q) (hag : ∀ a, a ∉ ([] : List Nat) → ad a = ad0 a)   : ∀ (n : Nat) (M : ax_M) (v0 : Option Nat) (v1 : Int32) (v2 : Int32), F_M_findVoices_2  n M v0 v1 v2 = some q → ax_W Z ad 0 0 2 [(0, ax_O v0), (1, ax_I v1), (2, ax_I v2)] [] M := by
  intro n
  induction n with
  | zero => intro M v0 v1 v2 hf; cases hf
  | succ n ih => exact K_M_findVoices_2 B hn hR hE hag ih
def f_M_findVoices (M : ax_M) (x0 : Option Nat) (p0 : Int32) : Option (ax_M) := F_M_findVoices_2 64 M x0 p0 0
set_option maxRecDepth 100000 in
set_option maxHeartbeats 4000000 in
theorem c_M_findVoices (l : Launch) (G : ax_G) (M : ax_M) (x0 : Option Nat) (p0 : Int32) {q : ax_M} (hf : f_M_findVoices M x0 p0 = some q) : ax_C l G y_M_findVoices b_M_findVoices 4 none [] 1 0 0 [ax_O x0, ax_I p0] M none q := by
  refine ax_ofW (by decide +kernel) (lv0 := [(0, ax_O x0), (1, ax_I p0)]) (Nat.le_of_ble_eq_true rfl) rfl ?_
  intro Z ad B hin _ _ hn hR hE
  have hag : ∀ a, a ∉ ([] : List Nat) → ad a = ad a := fun _ _ => rfl
  unfold f_M_findVoices at hf
  refine ax_iconst B (v := 0) (by decide) d_M_findVoices_0 ?_
  refine ax_istore_n B (lv' := [(2, ax_I 0), (0, ax_O x0), (1, ax_I p0)]) d_M_findVoices_1 rfl (by rw [hn]; decide) rfl ?_
  refine ax_sub [1, 2, 0] rfl ?_
  exact L_M_findVoices_2 B hn hR hE hag 64 M x0 p0 0 hf
