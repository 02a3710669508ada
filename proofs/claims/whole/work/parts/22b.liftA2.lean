def G_Q_isHidden_16  (M : ax_M) (s0 : Int32) : Option (Int32 × ax_M) := (ax_bo s0).bind (fun _ => some (s0, M))
set_option maxRecDepth 100000 in
set_option maxHeartbeats 4000000 in
theorem K_Q_isHidden_16 {Z : ax_Z} {ad0 ad : Nat → Nat} {q : Int32 × ax_M} (B : ax_B Z "VoteAuctions$Question" b_Q_isHidden (some .boolean)) (hn : Z.2.2.2.2.2.2.2.2.2.2.2.1 = 1) (hR : ax_R Z 0 0 0) (hE : ax_E Z ad0 [] 0 0 (some (ax_I q.1)) q.2) (hag : ∀ a, a ∉ ([] : List Nat) → ad a = ad0 a)   : ∀ (M : ax_M) (s0 : Int32), G_Q_isHidden_16  M s0 = some q → ax_W Z ad 0 0 16 [] [ax_I s0] M := by
  intro M s0 hf
  unfold G_Q_isHidden_16 at hf
  obtain ⟨_, hb, hf⟩ := ax_bd hf
  exact ax_ireturn B hE d_Q_isHidden_16 hf (ax_bo_n hb) hag (by decide) (by decide)
def f_Q_isHidden (M : ax_M) (x0 : Option Nat) : Option (Int32 × ax_M) := (ax_gi M 1 3 x0).bind (fun x1 => (ax_gi M 1 2 x0).bind (fun x2 => if x1 ≤ x2 then G_Q_isHidden_16 M 0 else G_Q_isHidden_16 M 1))
set_option maxRecDepth 100000 in
set_option maxHeartbeats 4000000 in
theorem c_Q_isHidden (l : Launch) (G : ax_G) (M : ax_M) (x0 : Option Nat) {q : Int32 × ax_M} (hf : f_Q_isHidden M x0 = some q) : ax_C l G y_Q_isHidden b_Q_isHidden 1 (some .boolean) [] 0 0 0 [ax_O x0] M (some (ax_I q.1)) q.2 := by
  refine ax_ofW (by decide +kernel) (lv0 := [(0, ax_O x0)]) (Nat.le_of_ble_eq_true rfl) rfl ?_
  intro Z ad B hin _ _ hn hR hE
  have hag : ∀ a, a ∉ ([] : List Nat) → ad a = ad a := fun _ _ => rfl
  unfold f_Q_isHidden at hf
  refine ax_aload_n B d_Q_isHidden_0 rfl (j := 0) rfl ?_
  refine ax_getI B d_Q_isHidden_1 k_Q_21 rfl hf (fun x1 hf => ?_)
  refine ax_aload_n B d_Q_isHidden_4 rfl (j := 0) rfl ?_
  refine ax_getI B d_Q_isHidden_5 k_Q_18 rfl hf (fun x2 hf => ?_)
  refine ax_icmp_le B (tgt := 15) d_Q_isHidden_8 (by decide) hf (fun hf => ?_) (fun hf => ?_)
  · refine ax_iconst B (v := 0) (by decide) d_Q_isHidden_15 ?_
    refine ax_sub [] rfl ?_
    exact K_Q_isHidden_16 B hn hR hE hag M 0 hf
  · refine ax_iconst B (v := 1) (by decide) d_Q_isHidden_11 ?_
    refine ax_goto B (tgt := 16) d_Q_isHidden_12 (by decide) ?_
    refine ax_sub [] rfl ?_
    exact K_Q_isHidden_16 B hn hR hE hag M 1 hf
def G_V_vote_20  (M : ax_M)  : Option (Int32 × ax_M) := some ((-1), M)
set_option maxRecDepth 100000 in
set_option maxHeartbeats 4000000 in
theorem K_V_vote_20 {Z : ax_Z} {ad0 ad : Nat → Nat} {q : Int32 × ax_M} (B : ax_B Z "VoteAuctions" b_V_vote (some .int)) (hn : Z.2.2.2.2.2.2.2.2.2.2.2.1 = 5) (hR : ax_R Z 3 0 0) (hE : ax_E Z ad0 [] 0 0 (some (ax_I q.1)) q.2) (hag : ∀ a, a ∉ ([] : List Nat) → ad a = ad0 a)   : ∀ (M : ax_M) , G_V_vote_20  M  = some q → ax_W Z ad 0 0 20 [] [] M := by
  intro M  hf
  unfold G_V_vote_20 at hf
  refine ax_iconst B (v := (-1)) (by decide) d_V_vote_20 ?_
  exact ax_ireturn B hE d_V_vote_21 hf rfl hag (by decide) (by decide)
def G_V_vote_60  (M : ax_M)  : Option (Int32 × ax_M) := some ((-3), M)
set_option maxRecDepth 100000 in
set_option maxHeartbeats 4000000 in
theorem K_V_vote_60 {Z : ax_Z} {ad0 ad : Nat → Nat} {q : Int32 × ax_M} (B : ax_B Z "VoteAuctions" b_V_vote (some .int)) (hn : Z.2.2.2.2.2.2.2.2.2.2.2.1 = 5) (hR : ax_R Z 3 0 0) (hE : ax_E Z ad0 [] 0 0 (some (ax_I q.1)) q.2) (hag : ∀ a, a ∉ ([] : List Nat) → ad a = ad0 a)   : ∀ (M : ax_M) , G_V_vote_60  M  = some q → ax_W Z ad 0 0 60 [] [] M := by
  intro M  hf
  unfold G_V_vote_60 at hf
  refine ax_bipush B (v := (-3)) (by decide) d_V_vote_60 ?_
  exact ax_ireturn B hE d_V_vote_62 hf rfl hag (by decide) (by decide)
def G_V_vote_40  (M : ax_M) (v0 : Option Nat) (v2 : Int32) (v3 : Int32) (v4 : Option Nat) : Option (Int32 × ax_M) := (ax_gi M 0 0 v0).bind (fun x1 => (ax_gi M 1 2 v4).bind (fun x2 => if x2 ≤ x1 then G_V_vote_60 M else (ax_ob M 1 v4).bind (fun _ => (f_Q_isHidden M v4 ).bind (fun q3 => if q3.1 = 0 then (ax_gr q3.2 1 6 v4).bind (fun x4 => (ax_ti q3.2 0 x4 v2 v3).bind (fun M5 => some (1, M5))) else G_V_vote_60 q3.2))))
set_option maxRecDepth 100000 in
set_option maxHeartbeats 4000000 in
theorem K_V_vote_40 {Z : ax_Z} {ad0 ad : Nat → Nat} {q : Int32 × ax_M} (B : ax_B Z "VoteAuctions" b_V_vote (some .int)) (hn : Z.2.2.2.2.2.2.2.2.2.2.2.1 = 5) (hR : ax_R Z 3 0 0) (hE : ax_E Z ad0 [] 0 0 (some (ax_I q.1)) q.2) (hag : ∀ a, a ∉ ([] : List Nat) → ad a = ad0 a)   : ∀ (M : ax_M) (v0 : Option Nat) (v2 : Int32) (v3 : Int32) (v4 : Option Nat), G_V_vote_40  M v0 v2 v3 v4 = some q → ax_W Z ad 0 0 40 [(0, ax_O v0), (2, ax_I v2), (3, ax_I v3), (4, ax_O v4)] [] M := by
  intro M v0 v2 v3 v4 hf
  unfold G_V_vote_40 at hf
  refine ax_aload_n B d_V_vote_40 rfl (j := 0) rfl ?_
  refine ax_getI B d_V_vote_41 k_V_66 rfl hf (fun x1 hf => ?_)
  refine ax_aload B (j := 3) d_V_vote_44 rfl ?_
  refine ax_getI B d_V_vote_46 k_V_96 rfl hf (fun x2 hf => ?_)
  refine ax_icmp_ge B (tgt := 60) d_V_vote_49 (by decide) hf (fun hf => ?_) (fun hf => ?_)
  · refine ax_sub [] rfl ?_
    exact K_V_vote_60 B hn hR hE hag M hf
  · refine ax_aload B (j := 3) d_V_vote_52 rfl ?_
    refine ax_cVV B hR (as := []) (V := fun q => ax_I q.1) (N := fun q => q.2) d_V_vote_54 l_V_115 m_Q_isHidden hf (fun q h => c_Q_isHidden _ _ _ _ h) rfl rfl (by decide) (by decide) (by decide) (by decide) (Nat.le_of_ble_eq_true rfl) (fun q3 hf => ?_)
    refine ax_if_eq B (tgt := 63) d_V_vote_57 (by decide) hf (fun hf => ?_) (fun hf => ?_)
    · refine ax_aload B (j := 3) d_V_vote_63 rfl ?_
      refine ax_getR B d_V_vote_65 k_V_119 rfl hf (fun x4 hf => ?_)
      refine ax_iload_n B d_V_vote_68 rfl (j := 1) rfl ?_
      refine ax_iload_n B d_V_vote_69 rfl (j := 2) rfl ?_
      refine ax_iast B d_V_vote_70 (t := 0) (by decide) rfl hf (fun M5 hf => ?_)
      refine ax_iconst B (v := 1) (by decide) d_V_vote_71 ?_
      exact ax_ireturn B hE d_V_vote_72 hf rfl hag (by decide) (by decide)
    · refine ax_sub [] rfl ?_
      exact K_V_vote_60 B hn hR hE hag q3.2 hf
def f_V_vote (M : ax_M) (x0 : Option Nat) (p0 : Int32) (p1 : Int32) (p2 : Int32) : Option (Int32 × ax_M) := (ax_ob M 0 x0).bind (fun _ => (f_V_questionAt M x0 p0).bind (fun q1 => if q1.1 = none then G_V_vote_20 q1.2 else (ax_ob q1.2 0 x0).bind (fun _ => (f_V_isNoAccount q1.2 x0 p1).bind (fun q2 => if q2.1 = 0 then if p2 = (-1) then G_V_vote_40 q2.2 x0 p1 p2 q1.1 else (f_V_isVote q2.2 q1.1 p1 p2).bind (fun q3 => if q3.1 = 0 then some ((-2), q3.2) else G_V_vote_40 q3.2 x0 p1 p2 q1.1) else G_V_vote_20 q2.2))))
set_option maxRecDepth 100000 in
set_option maxHeartbeats 4000000 in
theorem c_V_vote (l : Launch) (G : ax_G) (M : ax_M) (x0 : Option Nat) (p0 : Int32) (p1 : Int32) (p2 : Int32) {q : Int32 × ax_M} (hf : f_V_vote M x0 p0 p1 p2 = some q) : ax_C l G y_V_vote b_V_vote 5 (some .int) [] 3 0 0 [ax_O x0, ax_I p0, ax_I p1, ax_I p2] M (some (ax_I q.1)) q.2 := by
  refine ax_ofW (by decide +kernel) (lv0 := [(0, ax_O x0), (1, ax_I p0), (2, ax_I p1), (3, ax_I p2)]) (Nat.le_of_ble_eq_true rfl) rfl ?_
  intro Z ad B hin _ _ hn hR hE
  have hag : ∀ a, a ∉ ([] : List Nat) → ad a = ad a := fun _ _ => rfl
  unfold f_V_vote at hf
  refine ax_aload_n B d_V_vote_0 rfl (j := 0) rfl ?_
  refine ax_iload_n B d_V_vote_1 rfl (j := 1) rfl ?_
  refine ax_cVV B hR (as := [ax_I p0]) (V := fun q => ax_O q.1) (N := fun q => q.2) d_V_vote_2 l_V_92 m_V_questionAt hf (fun q h => c_V_questionAt _ _ _ _ _ h) rfl rfl (by decide) (by decide) (by decide) (by decide) (Nat.le_of_ble_eq_true rfl) (fun q1 hf => ?_)
  refine ax_astore B (lv' := [(4, ax_O q1.1), (0, ax_O x0), (1, ax_I p0), (2, ax_I p1), (3, ax_I p2)]) d_V_vote_5 (by rw [hn]; decide) rfl ?_
  refine ax_aload B (j := 0) d_V_vote_7 rfl ?_
  refine ax_ifnull B (tgt := 20) d_V_vote_9 (by decide) hf (fun hf => ?_) (fun hf => ?_)
  · refine ax_sub [] rfl ?_
    exact K_V_vote_20 B hn hR hE hag q1.2 hf
  · refine ax_aload_n B d_V_vote_12 rfl (j := 1) rfl ?_
    refine ax_iload_n B d_V_vote_13 rfl (j := 3) rfl ?_
    refine ax_cVV B hR (as := [ax_I p1]) (V := fun q => ax_I q.1) (N := fun q => q.2) d_V_vote_14 l_V_53 m_V_isNoAccount hf (fun q h => c_V_isNoAccount _ _ _ _ _ h) rfl rfl (by decide) (by decide) (by decide) (by decide) (Nat.le_of_ble_eq_true rfl) (fun q2 hf => ?_)
    refine ax_if_eq B (tgt := 22) d_V_vote_17 (by decide) hf (fun hf => ?_) (fun hf => ?_)
    · refine ax_iload_n B d_V_vote_22 rfl (j := 4) rfl ?_
      refine ax_iconst B (v := (-1)) (by decide) d_V_vote_23 ?_
      refine ax_icmp_eq B (tgt := 40) d_V_vote_24 (by decide) hf (fun hf => ?_) (fun hf => ?_)
      · refine ax_sub [1, 3, 4, 0] rfl ?_
        exact K_V_vote_40 B hn hR hE hag q2.2 x0 p1 p2 q1.1 hf
      · refine ax_aload B (j := 0) d_V_vote_27 rfl ?_
        refine ax_iload_n B d_V_vote_29 rfl (j := 3) rfl ?_
        refine ax_iload_n B d_V_vote_30 rfl (j := 4) rfl ?_
        refine ax_cSV B hR (as := [ax_O q1.1, ax_I p1, ax_I p2]) (V := fun q => ax_I q.1) (N := fun q => q.2) d_V_vote_31 l_V_111 m_V_isVote hf (fun q h => c_V_isVote _ _ _ _ _ _ h) rfl rfl (by decide) (by decide) (by decide) (by decide) (Nat.le_of_ble_eq_true rfl) (fun q3 hf => ?_)
        refine ax_if_ne B (tgt := 40) d_V_vote_34 (by decide) hf (fun hf => ?_) (fun hf => ?_)
        · refine ax_bipush B (v := (-2)) (by decide) d_V_vote_37 ?_
          exact ax_ireturn B hE d_V_vote_39 hf rfl hag (by decide) (by decide)
        · refine ax_sub [1, 3, 4, 0] rfl ?_
          exact K_V_vote_40 B hn hR hE hag q3.2 x0 p1 p2 q1.1 hf
    · refine ax_sub [] rfl ?_
      exact K_V_vote_20 B hn hR hE hag q2.2 hf
def G_V_hide_20  (M : ax_M)  : Option (Int32 × ax_M) := some ((-1), M)
set_option maxRecDepth 100000 in
set_option maxHeartbeats 4000000 in
theorem K_V_hide_20 {Z : ax_Z} {ad0 ad : Nat → Nat} {q : Int32 × ax_M} (B : ax_B Z "VoteAuctions" b_V_hide (some .int)) (hn : Z.2.2.2.2.2.2.2.2.2.2.2.1 = 6) (hR : ax_R Z 2 0 0) (hE : ax_E Z ad0 [] 0 0 (some (ax_I q.1)) q.2) (hag : ∀ a, a ∉ ([] : List Nat) → ad a = ad0 a)   : ∀ (M : ax_M) , G_V_hide_20  M  = some q → ax_W Z ad 0 0 20 [] [] M := by
  intro M  hf
  unfold G_V_hide_20 at hf
  refine ax_iconst B (v := (-1)) (by decide) d_V_hide_20 ?_
  exact ax_ireturn B hE d_V_hide_21 hf rfl hag (by decide) (by decide)
def G_V_hide_42  (M : ax_M)  : Option (Int32 × ax_M) := some ((-3), M)
set_option maxRecDepth 100000 in
set_option maxHeartbeats 4000000 in
theorem K_V_hide_42 {Z : ax_Z} {ad0 ad : Nat → Nat} {q : Int32 × ax_M} (B : ax_B Z "VoteAuctions" b_V_hide (some .int)) (hn : Z.2.2.2.2.2.2.2.2.2.2.2.1 = 6) (hR : ax_R Z 2 0 0) (hE : ax_E Z ad0 [] 0 0 (some (ax_I q.1)) q.2) (hag : ∀ a, a ∉ ([] : List Nat) → ad a = ad0 a)   : ∀ (M : ax_M) , G_V_hide_42  M  = some q → ax_W Z ad 0 0 42 [] [] M := by
  intro M  hf
  unfold G_V_hide_42 at hf
  refine ax_bipush B (v := (-3)) (by decide) d_V_hide_42 ?_
  exact ax_ireturn B hE d_V_hide_44 hf rfl hag (by decide) (by decide)
def f_V_hide (M : ax_M) (x0 : Option Nat) (p0 : Int32) (p1 : Int32) (p2 : Int64) : Option (Int32 × ax_M) := (ax_ob M 0 x0).bind (fun _ => (f_V_questionAt M x0 p0).bind (fun q1 => if q1.1 = none then G_V_hide_20 q1.2 else (ax_ob q1.2 0 x0).bind (fun _ => (f_V_isNoAccount q1.2 x0 p1).bind (fun q2 => if q2.1 = 0 then (ax_gi q2.2 0 0 x0).bind (fun x3 => (ax_gi q2.2 1 2 q1.1).bind (fun x4 => if x4 ≤ x3 then G_V_hide_42 q2.2 else (ax_ob q2.2 1 q1.1).bind (fun _ => (f_Q_isHidden q2.2 q1.1 ).bind (fun q5 => if q5.1 = 0 then G_V_hide_42 q5.2 else (ax_gr q5.2 1 7 q1.1).bind (fun x6 => (ax_ti q5.2 2 x6 p1 1).bind (fun M7 => (ax_gr M7 1 8 q1.1).bind (fun x8 => (ax_tl M7 1 x8 p1 p2).bind (fun M9 => some (1, M9))))))))) else G_V_hide_20 q2.2))))
set_option maxRecDepth 100000 in
set_option maxHeartbeats 4000000 in
theorem c_V_hide (l : Launch) (G : ax_G) (M : ax_M) (x0 : Option Nat) (p0 : Int32) (p1 : Int32) (p2 : Int64) {q : Int32 × ax_M} (hf : f_V_hide M x0 p0 p1 p2 = some q) : ax_C l G y_V_hide b_V_hide 6 (some .int) [] 2 0 0 [ax_O x0, ax_I p0, ax_I p1, ax_L p2] M (some (ax_I q.1)) q.2 := by
  refine ax_ofW (by decide +kernel) (lv0 := [(0, ax_O x0), (1, ax_I p0), (2, ax_I p1), (3, ax_L p2)]) (Nat.le_of_ble_eq_true rfl) rfl ?_
  intro Z ad B hin _ _ hn hR hE
  have hag : ∀ a, a ∉ ([] : List Nat) → ad a = ad a := fun _ _ => rfl
  unfold f_V_hide at hf
  refine ax_aload_n B d_V_hide_0 rfl (j := 0) rfl ?_
  refine ax_iload_n B d_V_hide_1 rfl (j := 1) rfl ?_
  refine ax_cVV B hR (as := [ax_I p0]) (V := fun q => ax_O q.1) (N := fun q => q.2) d_V_hide_2 l_V_92 m_V_questionAt hf (fun q h => c_V_questionAt _ _ _ _ _ h) rfl rfl (by decide) (by decide) (by decide) (by decide) (Nat.le_of_ble_eq_true rfl) (fun q1 hf => ?_)
  refine ax_astore B (lv' := [(5, ax_O q1.1), (0, ax_O x0), (1, ax_I p0), (2, ax_I p1), (3, ax_L p2)]) d_V_hide_5 (by rw [hn]; decide) rfl ?_
  refine ax_aload B (j := 0) d_V_hide_7 rfl ?_
  refine ax_ifnull B (tgt := 20) d_V_hide_9 (by decide) hf (fun hf => ?_) (fun hf => ?_)
  · refine ax_sub [] rfl ?_
    exact K_V_hide_20 B hn hR hE hag q1.2 hf
  · refine ax_aload_n B d_V_hide_12 rfl (j := 1) rfl ?_
    refine ax_iload_n B d_V_hide_13 rfl (j := 3) rfl ?_
    refine ax_cVV B hR (as := [ax_I p1]) (V := fun q => ax_I q.1) (N := fun q => q.2) d_V_hide_14 l_V_53 m_V_isNoAccount hf (fun q h => c_V_isNoAccount _ _ _ _ _ h) rfl rfl (by decide) (by decide) (by decide) (by decide) (Nat.le_of_ble_eq_true rfl) (fun q2 hf => ?_)
    refine ax_if_eq B (tgt := 22) d_V_hide_17 (by decide) hf (fun hf => ?_) (fun hf => ?_)
    · refine ax_aload_n B d_V_hide_22 rfl (j := 1) rfl ?_
      refine ax_getI B d_V_hide_23 k_V_66 rfl hf (fun x3 hf => ?_)
      refine ax_aload B (j := 0) d_V_hide_26 rfl ?_
      refine ax_getI B d_V_hide_28 k_V_96 rfl hf (fun x4 hf => ?_)
      refine ax_icmp_ge B (tgt := 42) d_V_hide_31 (by decide) hf (fun hf => ?_) (fun hf => ?_)
      · refine ax_sub [] rfl ?_
        exact K_V_hide_42 B hn hR hE hag q2.2 hf
      · refine ax_aload B (j := 0) d_V_hide_34 rfl ?_
        refine ax_cVV B hR (as := []) (V := fun q => ax_I q.1) (N := fun q => q.2) d_V_hide_36 l_V_115 m_Q_isHidden hf (fun q h => c_Q_isHidden _ _ _ _ h) rfl rfl (by decide) (by decide) (by decide) (by decide) (Nat.le_of_ble_eq_true rfl) (fun q5 hf => ?_)
        refine ax_if_ne B (tgt := 45) d_V_hide_39 (by decide) hf (fun hf => ?_) (fun hf => ?_)
        · refine ax_sub [] rfl ?_
          exact K_V_hide_42 B hn hR hE hag q5.2 hf
        · refine ax_aload B (j := 0) d_V_hide_45 rfl ?_
          refine ax_getR B d_V_hide_47 k_V_122 rfl hf (fun x6 hf => ?_)
          refine ax_iload_n B d_V_hide_50 rfl (j := 3) rfl ?_
          refine ax_iconst B (v := 1) (by decide) d_V_hide_51 ?_
          refine ax_zast B d_V_hide_52 (t := 2) (by decide) rfl (by decide) hf (fun M7 hf => ?_)
          refine ax_aload B (j := 0) d_V_hide_53 rfl ?_
          refine ax_getR B d_V_hide_55 k_V_126 rfl hf (fun x8 hf => ?_)
          refine ax_iload_n B d_V_hide_58 rfl (j := 3) rfl ?_
          refine ax_lload_n B d_V_hide_59 rfl (j := 4) rfl ?_
          refine ax_last B d_V_hide_60 (t := 1) (by decide) rfl hf (fun M9 hf => ?_)
          refine ax_iconst B (v := 1) (by decide) d_V_hide_61 ?_
          exact ax_ireturn B hE d_V_hide_62 hf rfl hag (by decide) (by decide)
    · refine ax_sub [] rfl ?_
      exact K_V_hide_20 B hn hR hE hag q2.2 hf
def G_V_reveal_20  (M : ax_M)  : Option (Int32 × ax_M) := some ((-1), M)
set_option maxRecDepth 100000 in
set_option maxHeartbeats 4000000 in
theorem K_V_reveal_20 {Z : ax_Z} {ad0 ad : Nat → Nat} {q : Int32 × ax_M} (B : ax_B Z "VoteAuctions" b_V_reveal (some .int)) (hn : Z.2.2.2.2.2.2.2.2.2.2.2.1 = 6) (hR : ax_R Z 3 0 0) (hE : ax_E Z ad0 [] 0 0 (some (ax_I q.1)) q.2) (hag : ∀ a, a ∉ ([] : List Nat) → ad a = ad0 a)   : ∀ (M : ax_M) , G_V_reveal_20  M  = some q → ax_W Z ad 0 0 20 [] [] M := by
  intro M  hf
  unfold G_V_reveal_20 at hf
  refine ax_iconst B (v := (-1)) (by decide) d_V_reveal_20 ?_
  exact ax_ireturn B hE d_V_reveal_21 hf rfl hag (by decide) (by decide)
def G_V_reveal_67  (M : ax_M)  : Option (Int32 × ax_M) := some ((-3), M)
set_option maxRecDepth 100000 in
set_option maxHeartbeats 4000000 in
theorem K_V_reveal_67 {Z : ax_Z} {ad0 ad : Nat → Nat} {q : Int32 × ax_M} (B : ax_B Z "VoteAuctions" b_V_reveal (some .int)) (hn : Z.2.2.2.2.2.2.2.2.2.2.2.1 = 6) (hR : ax_R Z 3 0 0) (hE : ax_E Z ad0 [] 0 0 (some (ax_I q.1)) q.2) (hag : ∀ a, a ∉ ([] : List Nat) → ad a = ad0 a)   : ∀ (M : ax_M) , G_V_reveal_67  M  = some q → ax_W Z ad 0 0 67 [] [] M := by
  intro M  hf
  unfold G_V_reveal_67 at hf
  refine ax_bipush B (v := (-3)) (by decide) d_V_reveal_67 ?_
  exact ax_ireturn B hE d_V_reveal_69 hf rfl hag (by decide) (by decide)
def G_V_reveal_110  (M : ax_M)  : Option (Int32 × ax_M) := some ((-3), M)
set_option maxRecDepth 100000 in
set_option maxHeartbeats 4000000 in
theorem K_V_reveal_110 {Z : ax_Z} {ad0 ad : Nat → Nat} {q : Int32 × ax_M} (B : ax_B Z "VoteAuctions" b_V_reveal (some .int)) (hn : Z.2.2.2.2.2.2.2.2.2.2.2.1 = 6) (hR : ax_R Z 3 0 0) (hE : ax_E Z ad0 [] 0 0 (some (ax_I q.1)) q.2) (hag : ∀ a, a ∉ ([] : List Nat) → ad a = ad0 a)   : ∀ (M : ax_M) , G_V_reveal_110  M  = some q → ax_W Z ad 0 0 110 [] [] M := by
  intro M  hf
  unfold G_V_reveal_110 at hf
  refine ax_bipush B (v := (-3)) (by decide) d_V_reveal_110 ?_
  exact ax_ireturn B hE d_V_reveal_112 hf rfl hag (by decide) (by decide)
def f_V_reveal (M : ax_M) (x0 : Option Nat) (p0 : Int32) (p1 : Int32) (p2 : Int32) (p3 : Int32) : Option (Int32 × ax_M) := (ax_ob M 0 x0).bind (fun _ => (f_V_questionAt M x0 p0).bind (fun q1 => if q1.1 = none then G_V_reveal_20 q1.2 else (ax_ob q1.2 0 x0).bind (fun _ => (f_V_isNoAccount q1.2 x0 p1).bind (fun q2 => if q2.1 = 0 then (f_V_isVote q2.2 q1.1 p1 p2).bind (fun q3 => if q3.1 = 0 then some ((-2), q3.2) else (ax_ob q3.2 1 q1.1).bind (fun _ => (f_Q_isHidden q3.2 q1.1 ).bind (fun q4 => if q4.1 = 0 then G_V_reveal_67 q4.2 else (ax_gi q4.2 0 0 x0).bind (fun x5 => (ax_gi q4.2 1 2 q1.1).bind (fun x6 => if x5 < x6 then G_V_reveal_67 q4.2 else (ax_gi q4.2 0 0 x0).bind (fun x7 => (ax_gi q4.2 1 3 q1.1).bind (fun x8 => if x7 < x8 then (ax_gr q4.2 1 6 q1.1).bind (fun x9 => (ax_ri q4.2 0 x9 p1).bind (fun x10 => if x10 = (-1) then (ax_gr q4.2 1 7 q1.1).bind (fun x11 => (ax_ri q4.2 2 x11 p1).bind (fun x12 => if x12 = 0 then G_V_reveal_110 q4.2 else (ax_gr q4.2 1 8 q1.1).bind (fun x13 => (ax_rl q4.2 1 x13 p1).bind (fun x14 => (ax_ob q4.2 0 x0).bind (fun _ => (f_V_mark q4.2 x0 p1 p2 p3).bind (fun q15 => if (lg_cmp x14 q15.1) = 0 then (ax_gr q15.2 1 6 q1.1).bind (fun x16 => (ax_ti q15.2 0 x16 p1 p2).bind (fun M17 => some (1, M17))) else G_V_reveal_110 q15.2)))))) else G_V_reveal_110 q4.2)) else G_V_reveal_67 q4.2))))))) else G_V_reveal_20 q2.2))))
set_option maxRecDepth 100000 in
set_option maxHeartbeats 4000000 in
theorem c_V_reveal (l : Launch) (G : ax_G) (M : ax_M) (x0 : Option Nat) (p0 : Int32) (p1 : Int32) (p2 : Int32) (p3 : Int32) {q : Int32 × ax_M} (hf : f_V_reveal M x0 p0 p1 p2 p3 = some q) : ax_C l G y_V_reveal b_V_reveal 6 (some .int) [] 3 0 0 [ax_O x0, ax_I p0, ax_I p1, ax_I p2, ax_I p3] M (some (ax_I q.1)) q.2 := by
  refine ax_ofW (by decide +kernel) (lv0 := [(0, ax_O x0), (1, ax_I p0), (2, ax_I p1), (3, ax_I p2), (4, ax_I p3)]) (Nat.le_of_ble_eq_true rfl) rfl ?_
  intro Z ad B hin _ _ hn hR hE
  have hag : ∀ a, a ∉ ([] : List Nat) → ad a = ad a := fun _ _ => rfl
  unfold f_V_reveal at hf
  refine ax_aload_n B d_V_reveal_0 rfl (j := 0) rfl ?_
  refine ax_iload_n B d_V_reveal_1 rfl (j := 1) rfl ?_
  refine ax_cVV B hR (as := [ax_I p0]) (V := fun q => ax_O q.1) (N := fun q => q.2) d_V_reveal_2 l_V_92 m_V_questionAt hf (fun q h => c_V_questionAt _ _ _ _ _ h) rfl rfl (by decide) (by decide) (by decide) (by decide) (Nat.le_of_ble_eq_true rfl) (fun q1 hf => ?_)
  refine ax_astore B (lv' := [(5, ax_O q1.1), (0, ax_O x0), (1, ax_I p0), (2, ax_I p1), (3, ax_I p2), (4, ax_I p3)]) d_V_reveal_5 (by rw [hn]; decide) rfl ?_
  refine ax_aload B (j := 0) d_V_reveal_7 rfl ?_
  refine ax_ifnull B (tgt := 20) d_V_reveal_9 (by decide) hf (fun hf => ?_) (fun hf => ?_)
  · refine ax_sub [] rfl ?_
    exact K_V_reveal_20 B hn hR hE hag q1.2 hf
  · refine ax_aload_n B d_V_reveal_12 rfl (j := 1) rfl ?_
    refine ax_iload_n B d_V_reveal_13 rfl (j := 3) rfl ?_
    refine ax_cVV B hR (as := [ax_I p1]) (V := fun q => ax_I q.1) (N := fun q => q.2) d_V_reveal_14 l_V_53 m_V_isNoAccount hf (fun q h => c_V_isNoAccount _ _ _ _ _ h) rfl rfl (by decide) (by decide) (by decide) (by decide) (Nat.le_of_ble_eq_true rfl) (fun q2 hf => ?_)
    refine ax_if_eq B (tgt := 22) d_V_reveal_17 (by decide) hf (fun hf => ?_) (fun hf => ?_)
    · refine ax_aload B (j := 0) d_V_reveal_22 rfl ?_
      refine ax_iload_n B d_V_reveal_24 rfl (j := 3) rfl ?_
      refine ax_iload_n B d_V_reveal_25 rfl (j := 4) rfl ?_
      refine ax_cSV B hR (as := [ax_O q1.1, ax_I p1, ax_I p2]) (V := fun q => ax_I q.1) (N := fun q => q.2) d_V_reveal_26 l_V_111 m_V_isVote hf (fun q h => c_V_isVote _ _ _ _ _ _ h) rfl rfl (by decide) (by decide) (by decide) (by decide) (Nat.le_of_ble_eq_true rfl) (fun q3 hf => ?_)
      refine ax_if_ne B (tgt := 35) d_V_reveal_29 (by decide) hf (fun hf => ?_) (fun hf => ?_)
      · refine ax_bipush B (v := (-2)) (by decide) d_V_reveal_32 ?_
        exact ax_ireturn B hE d_V_reveal_34 hf rfl hag (by decide) (by decide)
      · refine ax_aload B (j := 0) d_V_reveal_35 rfl ?_
        refine ax_cVV B hR (as := []) (V := fun q => ax_I q.1) (N := fun q => q.2) d_V_reveal_37 l_V_115 m_Q_isHidden hf (fun q h => c_Q_isHidden _ _ _ _ h) rfl rfl (by decide) (by decide) (by decide) (by decide) (Nat.le_of_ble_eq_true rfl) (fun q4 hf => ?_)
        refine ax_if_eq B (tgt := 67) d_V_reveal_40 (by decide) hf (fun hf => ?_) (fun hf => ?_)
        · refine ax_sub [] rfl ?_
          exact K_V_reveal_67 B hn hR hE hag q4.2 hf
        · refine ax_aload_n B d_V_reveal_43 rfl (j := 1) rfl ?_
          refine ax_getI B d_V_reveal_44 k_V_66 rfl hf (fun x5 hf => ?_)
          refine ax_aload B (j := 0) d_V_reveal_47 rfl ?_
          refine ax_getI B d_V_reveal_49 k_V_96 rfl hf (fun x6 hf => ?_)
          refine ax_icmp_lt B (tgt := 67) d_V_reveal_52 (by decide) hf (fun hf => ?_) (fun hf => ?_)
          · refine ax_sub [] rfl ?_
            exact K_V_reveal_67 B hn hR hE hag q4.2 hf
          · refine ax_aload_n B d_V_reveal_55 rfl (j := 1) rfl ?_
            refine ax_getI B d_V_reveal_56 k_V_66 rfl hf (fun x7 hf => ?_)
            refine ax_aload B (j := 0) d_V_reveal_59 rfl ?_
            refine ax_getI B d_V_reveal_61 k_V_105 rfl hf (fun x8 hf => ?_)
            refine ax_icmp_lt B (tgt := 70) d_V_reveal_64 (by decide) hf (fun hf => ?_) (fun hf => ?_)
            · refine ax_aload B (j := 0) d_V_reveal_70 rfl ?_
              refine ax_getR B d_V_reveal_72 k_V_119 rfl hf (fun x9 hf => ?_)
              refine ax_iload_n B d_V_reveal_75 rfl (j := 3) rfl ?_
              refine ax_iald B d_V_reveal_76 (t := 0) (by decide) rfl hf (fun x10 hf => ?_)
              refine ax_iconst B (v := (-1)) (by decide) d_V_reveal_77 ?_
              refine ax_icmp_ne B (tgt := 110) d_V_reveal_78 (by decide) hf (fun hf => ?_) (fun hf => ?_)
              · refine ax_aload B (j := 0) d_V_reveal_81 rfl ?_
                refine ax_getR B d_V_reveal_83 k_V_122 rfl hf (fun x11 hf => ?_)
                refine ax_iload_n B d_V_reveal_86 rfl (j := 3) rfl ?_
                refine ax_zald B d_V_reveal_87 (t := 2) (by decide) rfl hf (fun x12 hf => ?_)
                refine ax_if_eq B (tgt := 110) d_V_reveal_88 (by decide) hf (fun hf => ?_) (fun hf => ?_)
                · refine ax_sub [] rfl ?_
                  exact K_V_reveal_110 B hn hR hE hag q4.2 hf
                · refine ax_aload B (j := 0) d_V_reveal_91 rfl ?_
                  refine ax_getR B d_V_reveal_93 k_V_126 rfl hf (fun x13 hf => ?_)
                  refine ax_iload_n B d_V_reveal_96 rfl (j := 3) rfl ?_
                  refine ax_lald B d_V_reveal_97 (t := 1) (by decide) rfl hf (fun x14 hf => ?_)
                  refine ax_aload_n B d_V_reveal_98 rfl (j := 1) rfl ?_
                  refine ax_iload_n B d_V_reveal_99 rfl (j := 3) rfl ?_
                  refine ax_iload_n B d_V_reveal_100 rfl (j := 4) rfl ?_
                  refine ax_iload B (j := 5) d_V_reveal_101 rfl ?_
                  refine ax_cVV B hR (as := [ax_I p1, ax_I p2, ax_I p3]) (V := fun q => ax_L q.1) (N := fun q => q.2) d_V_reveal_103 l_V_129 m_V_mark hf (fun q h => c_V_mark _ _ _ _ _ _ _ h) rfl rfl (by decide) (by decide) (by decide) (by decide) (Nat.le_of_ble_eq_true rfl) (fun q15 hf => ?_)
                  refine ax_lcmp B d_V_reveal_106 ?_
                  refine ax_if_eq B (tgt := 113) d_V_reveal_107 (by decide) hf (fun hf => ?_) (fun hf => ?_)
                  · refine ax_aload B (j := 0) d_V_reveal_113 rfl ?_
                    refine ax_getR B d_V_reveal_115 k_V_119 rfl hf (fun x16 hf => ?_)
                    refine ax_iload_n B d_V_reveal_118 rfl (j := 3) rfl ?_
                    refine ax_iload_n B d_V_reveal_119 rfl (j := 4) rfl ?_
                    refine ax_iast B d_V_reveal_120 (t := 0) (by decide) rfl hf (fun M17 hf => ?_)
                    refine ax_iconst B (v := 1) (by decide) d_V_reveal_121 ?_
                    exact ax_ireturn B hE d_V_reveal_122 hf rfl hag (by decide) (by decide)
                  · refine ax_sub [] rfl ?_
                    exact K_V_reveal_110 B hn hR hE hag q15.2 hf
              · refine ax_sub [] rfl ?_
                exact K_V_reveal_110 B hn hR hE hag q4.2 hf
            · refine ax_sub [] rfl ?_
              exact K_V_reveal_67 B hn hR hE hag q4.2 hf
    · refine ax_sub [] rfl ?_
      exact K_V_reveal_20 B hn hR hE hag q2.2 hf
def G_V_voiceOf_72 (rec5 : ax_M → Option Nat → Option Nat → Int32 → Int32 → Option (Int32 × ax_M)) (M : ax_M) (v0 : Option Nat) (v1 : Option Nat) (v4 : Int32) (s0 : Int32) : Option (Int32 × ax_M) := (some (v4 + 1)).bind (fun y1 => rec5 M v0 v1 s0 y1)
set_option maxRecDepth 100000 in
set_option maxHeartbeats 4000000 in
theorem K_V_voiceOf_72 {Z : ax_Z} {ad0 ad : Nat → Nat} {q : Int32 × ax_M} (B : ax_B Z "VoteAuctions" b_V_voiceOf (some .int)) (hn : Z.2.2.2.2.2.2.2.2.2.2.2.1 = 5) (hR : ax_R Z 1 0 0) (hE : ax_E Z ad0 [] 0 0 (some (ax_I q.1)) q.2) (hag : ∀ a, a ∉ ([] : List Nat) → ad a = ad0 a) {rec5 : ax_M → Option Nat → Option Nat → Int32 → Int32 → Option (Int32 × ax_M)} (hr5 : ∀ (M : ax_M) (v0 : Option Nat) (v1 : Option Nat) (v3 : Int32) (v4 : Int32), rec5 M v0 v1 v3 v4 = some q → ax_W Z ad 0 0 5 [(0, ax_O v0), (1, ax_O v1), (3, ax_I v3), (4, ax_I v4)] [] M) : ∀ (M : ax_M) (v0 : Option Nat) (v1 : Option Nat) (v4 : Int32) (s0 : Int32), G_V_voiceOf_72 rec5 M v0 v1 v4 s0 = some q → ax_W Z ad 0 0 72 [(0, ax_O v0), (1, ax_O v1), (4, ax_I v4)] [ax_I s0] M := by
  intro M v0 v1 v4 s0 hf
  unfold G_V_voiceOf_72 at hf
  refine ax_istore_n B (lv' := [(3, ax_I s0), (0, ax_O v0), (1, ax_O v1), (4, ax_I v4)]) d_V_voiceOf_72 rfl (by rw [hn]; decide) rfl ?_
  refine ax_iincN B (j := 3) (lv' := fun y => [(4, ax_I y), (3, ax_I s0), (0, ax_O v0), (1, ax_O v1)]) d_V_voiceOf_73 rfl hf rfl (by rw [hn]; decide) (fun _ => rfl) (fun y1 hf => ?_)
  refine ax_goto B (tgt := 5) d_V_voiceOf_76 (by decide) ?_
  refine ax_sub [2, 3, 1, 0] rfl ?_
  exact hr5 M v0 v1 s0 y1 hf
def G_V_voiceOf_5 (rec5 : ax_M → Option Nat → Option Nat → Int32 → Int32 → Option (Int32 × ax_M)) (M : ax_M) (v0 : Option Nat) (v1 : Option Nat) (v3 : Int32) (v4 : Int32) : Option (Int32 × ax_M) := if 8 ≤ v4 then some ((-1), M) else (f_V_isOutside M v3 0 7).bind (fun q1 => if q1.1 = 0 then (ax_gr q1.2 1 6 v1).bind (fun x2 => (ax_ri q1.2 0 x2 v3).bind (fun x3 => if x3 = (-1) then (ax_gi q1.2 1 0 v1).bind (fun x4 => if x4 = 3 then some ((-1), q1.2) else (ax_gi q1.2 0 0 v0).bind (fun x5 => (ax_gi q1.2 1 3 v1).bind (fun x6 => if x5 < x6 then (ax_gr q1.2 0 6 v0).bind (fun x7 => (ax_ri q1.2 0 x7 v3).bind (fun x8 => G_V_voiceOf_72 rec5 q1.2 v0 v1 v4 x8)) else (ax_gr q1.2 1 9 v1).bind (fun x9 => (ax_ri q1.2 0 x9 v3).bind (fun x10 => G_V_voiceOf_72 rec5 q1.2 v0 v1 v4 x10))))) else some (v3, q1.2))) else some ((-1), q1.2))
set_option maxRecDepth 100000 in
set_option maxHeartbeats 4000000 in
theorem K_V_voiceOf_5 {Z : ax_Z} {ad0 ad : Nat → Nat} {q : Int32 × ax_M} (B : ax_B Z "VoteAuctions" b_V_voiceOf (some .int)) (hn : Z.2.2.2.2.2.2.2.2.2.2.2.1 = 5) (hR : ax_R Z 1 0 0) (hE : ax_E Z ad0 [] 0 0 (some (ax_I q.1)) q.2) (hag : ∀ a, a ∉ ([] : List Nat) → ad a = ad0 a) {rec5 : ax_M → Option Nat → Option Nat → Int32 → Int32 → Option (Int32 × ax_M)} (hr5 : ∀ (M : ax_M) (v0 : Option Nat) (v1 : Option Nat) (v3 : Int32) (v4 : Int32), rec5 M v0 v1 v3 v4 = some q → ax_W Z ad 0 0 5 [(0, ax_O v0), (1, ax_O v1), (3, ax_I v3), (4, ax_I v4)] [] M) : ∀ (M : ax_M) (v0 : Option Nat) (v1 : Option Nat) (v3 : Int32) (v4 : Int32), G_V_voiceOf_5 rec5 M v0 v1 v3 v4 = some q → ax_W Z ad 0 0 5 [(0, ax_O v0), (1, ax_O v1), (3, ax_I v3), (4, ax_I v4)] [] M := by
  intro M v0 v1 v3 v4 hf
  unfold G_V_voiceOf_5 at hf
  refine ax_iload B (j := 3) d_V_voiceOf_5 rfl ?_
  refine ax_bipush B (v := 8) (by decide) d_V_voiceOf_7 ?_
  refine ax_icmp_ge B (tgt := 79) d_V_voiceOf_9 (by decide) hf (fun hf => ?_) (fun hf => ?_)
  · refine ax_iconst B (v := (-1)) (by decide) d_V_voiceOf_79 ?_
    exact ax_ireturn B hE d_V_voiceOf_80 hf rfl hag (by decide) (by decide)
  · refine ax_iload_n B d_V_voiceOf_12 rfl (j := 2) rfl ?_
    refine ax_iconst B (v := 0) (by decide) d_V_voiceOf_13 ?_
    refine ax_bipush B (v := 7) (by decide) d_V_voiceOf_14 ?_
    refine ax_cSV B hR (as := [ax_I v3, ax_I 0, ax_I 7]) (V := fun q => ax_I q.1) (N := fun q => q.2) d_V_voiceOf_16 l_V_44 m_V_isOutside hf (fun q h => c_V_isOutside _ _ _ _ _ _ h) rfl rfl (by decide) (by decide) (by decide) (by decide) (Nat.le_of_ble_eq_true rfl) (fun q1 hf => ?_)
    refine ax_if_eq B (tgt := 24) d_V_voiceOf_19 (by decide) hf (fun hf => ?_) (fun hf => ?_)
    · refine ax_aload_n B d_V_voiceOf_24 rfl (j := 1) rfl ?_
      refine ax_getR B d_V_voiceOf_25 k_V_119 rfl hf (fun x2 hf => ?_)
      refine ax_iload_n B d_V_voiceOf_28 rfl (j := 2) rfl ?_
      refine ax_iald B d_V_voiceOf_29 (t := 0) (by decide) rfl hf (fun x3 hf => ?_)
      refine ax_iconst B (v := (-1)) (by decide) d_V_voiceOf_30 ?_
      refine ax_icmp_eq B (tgt := 36) d_V_voiceOf_31 (by decide) hf (fun hf => ?_) (fun hf => ?_)
      · refine ax_aload_n B d_V_voiceOf_36 rfl (j := 1) rfl ?_
        refine ax_getI B d_V_voiceOf_37 k_V_140 rfl hf (fun x4 hf => ?_)
        refine ax_iconst B (v := 3) (by decide) d_V_voiceOf_40 ?_
        refine ax_icmp_ne B (tgt := 46) d_V_voiceOf_41 (by decide) hf (fun hf => ?_) (fun hf => ?_)
        · refine ax_iconst B (v := (-1)) (by decide) d_V_voiceOf_44 ?_
          exact ax_ireturn B hE d_V_voiceOf_45 hf rfl hag (by decide) (by decide)
        · refine ax_aload_n B d_V_voiceOf_46 rfl (j := 0) rfl ?_
          refine ax_getI B d_V_voiceOf_47 k_V_66 rfl hf (fun x5 hf => ?_)
          refine ax_aload_n B d_V_voiceOf_50 rfl (j := 1) rfl ?_
          refine ax_getI B d_V_voiceOf_51 k_V_105 rfl hf (fun x6 hf => ?_)
          refine ax_icmp_lt B (tgt := 66) d_V_voiceOf_54 (by decide) hf (fun hf => ?_) (fun hf => ?_)
          · refine ax_aload_n B d_V_voiceOf_66 rfl (j := 0) rfl ?_
            refine ax_getR B d_V_voiceOf_67 k_V_20 rfl hf (fun x7 hf => ?_)
            refine ax_iload_n B d_V_voiceOf_70 rfl (j := 2) rfl ?_
            refine ax_iald B d_V_voiceOf_71 (t := 0) (by decide) rfl hf (fun x8 hf => ?_)
            refine ax_sub [0, 1, 3] rfl ?_
            exact K_V_voiceOf_72 B hn hR hE hag hr5 q1.2 v0 v1 v4 x8 hf
          · refine ax_aload_n B d_V_voiceOf_57 rfl (j := 1) rfl ?_
            refine ax_getR B d_V_voiceOf_58 k_V_260 rfl hf (fun x9 hf => ?_)
            refine ax_iload_n B d_V_voiceOf_61 rfl (j := 2) rfl ?_
            refine ax_iald B d_V_voiceOf_62 (t := 0) (by decide) rfl hf (fun x10 hf => ?_)
            refine ax_goto B (tgt := 72) d_V_voiceOf_63 (by decide) ?_
            refine ax_sub [0, 1, 3] rfl ?_
            exact K_V_voiceOf_72 B hn hR hE hag hr5 q1.2 v0 v1 v4 x10 hf
      · refine ax_iload_n B d_V_voiceOf_34 rfl (j := 2) rfl ?_
        exact ax_ireturn B hE d_V_voiceOf_35 hf rfl hag (by decide) (by decide)
    · refine ax_iconst B (v := (-1)) (by decide) d_V_voiceOf_22 ?_
      exact ax_ireturn B hE d_V_voiceOf_23 hf rfl hag (by decide) (by decide)
def F_V_voiceOf_5  : Nat → ax_M → Option Nat → Option Nat → Int32 → Int32 → Option (Int32 × ax_M)
  | 0 => fun _ _ _ _ _ => none
  | n + 1 => G_V_voiceOf_5 (F_V_voiceOf_5  n)
set_option maxRecDepth 100000 in
set_option maxHeartbeats 4000000 in
theorem L_V_voiceOf_5 {Z : ax_Z} {ad0 ad : Nat → Nat} {q : Int32 × ax_M} (B : ax_B Z "VoteAuctions" b_V_voiceOf (some .int)) (hn : Z.2.2.2.2.2.2.2.2.2.2.2.1 = 5) (hR : ax_R Z 1 0 0) (hE : ax_E Z ad0 [] 0 0 (some (ax_I q.1)) q.2) (hag : ∀ a, a ∉ ([] : List Nat) → ad a = ad0 a)   : ∀ (n : Nat) (M : ax_M) (v0 : Option Nat) (v1 : Option Nat) (v3 : Int32) (v4 : Int32), F_V_voiceOf_5  n M v0 v1 v3 v4 = some q → ax_W Z ad 0 0 5 [(0, ax_O v0), (1, ax_O v1), (3, ax_I v3), (4, ax_I v4)] [] M := by
  intro n
  induction n with
  | zero => intro M v0 v1 v3 v4 hf; cases hf
  | succ n ih => exact K_V_voiceOf_5 B hn hR hE hag ih
def f_V_voiceOf (M : ax_M) (x0 : Option Nat) (p0 : Option Nat) (p1 : Int32) : Option (Int32 × ax_M) := F_V_voiceOf_5 64 M x0 p0 p1 0
set_option maxRecDepth 100000 in
set_option maxHeartbeats 4000000 in
theorem c_V_voiceOf (l : Launch) (G : ax_G) (M : ax_M) (x0 : Option Nat) (p0 : Option Nat) (p1 : Int32) {q : Int32 × ax_M} (hf : f_V_voiceOf M x0 p0 p1 = some q) : ax_C l G y_V_voiceOf b_V_voiceOf 5 (some .int) [] 1 0 0 [ax_O x0, ax_O p0, ax_I p1] M (some (ax_I q.1)) q.2 := by
  refine ax_ofW (by decide +kernel) (lv0 := [(0, ax_O x0), (1, ax_O p0), (2, ax_I p1)]) (Nat.le_of_ble_eq_true rfl) rfl ?_
  intro Z ad B hin _ _ hn hR hE
  have hag : ∀ a, a ∉ ([] : List Nat) → ad a = ad a := fun _ _ => rfl
  unfold f_V_voiceOf at hf
  refine ax_iload_n B d_V_voiceOf_0 rfl (j := 2) rfl ?_
  refine ax_istore_n B (lv' := [(3, ax_I p1), (0, ax_O x0), (1, ax_O p0), (2, ax_I p1)]) d_V_voiceOf_1 rfl (by rw [hn]; decide) rfl ?_
  refine ax_iconst B (v := 0) (by decide) d_V_voiceOf_2 ?_
  refine ax_istore B (lv' := [(4, ax_I 0), (3, ax_I p1), (0, ax_O x0), (1, ax_O p0), (2, ax_I p1)]) d_V_voiceOf_3 (by rw [hn]; decide) rfl ?_
  refine ax_sub [2, 3, 1, 0] rfl ?_
  exact L_V_voiceOf_5 B hn hR hE hag 64 M x0 p0 p1 0 hf
def G_V_findVoices_2 (rec2 : ax_M → Option Nat → Option Nat → Int32 → Option (ax_M)) (M : ax_M) (v0 : Option Nat) (v1 : Option Nat) (v2 : Int32) : Option (ax_M) := if 8 ≤ v2 then some M else (ax_gr M 0 11 v0).bind (fun x1 => (ax_ob M 0 v0).bind (fun _ => (f_V_voiceOf M v0 v1 v2).bind (fun q2 => (ax_ti q2.2 0 x1 v2 q2.1).bind (fun M3 => (some (v2 + 1)).bind (fun y4 => rec2 M3 v0 v1 y4)))))
set_option maxRecDepth 100000 in
set_option maxHeartbeats 4000000 in
theorem K_V_findVoices_2 {Z : ax_Z} {ad0 ad : Nat → Nat} {q : ax_M} (B : ax_B Z "VoteAuctions" b_V_findVoices none) (hn : Z.2.2.2.2.2.2.2.2.2.2.2.1 = 3) (hR : ax_R Z 2 0 0) (hE : ax_E Z ad0 [] 0 0 none q) (hag : ∀ a, a ∉ ([] : List Nat) → ad a = ad0 a) {rec2 : ax_M → Option Nat → Option Nat → Int32 → Option (ax_M)} (hr2 : ∀ (M : ax_M) (v0 : Option Nat) (v1 : Option Nat) (v2 : Int32), rec2 M v0 v1 v2 = some q → ax_W Z ad 0 0 2 [(0, ax_O v0), (1, ax_O v1), (2, ax_I v2)] [] M) : ∀ (M : ax_M) (v0 : Option Nat) (v1 : Option Nat) (v2 : Int32), G_V_findVoices_2 rec2 M v0 v1 v2 = some q → ax_W Z ad 0 0 2 [(0, ax_O v0), (1, ax_O v1), (2, ax_I v2)] [] M := by
  intro M v0 v1 v2 hf
  unfold G_V_findVoices_2 at hf
  refine ax_iload_n B d_V_findVoices_2 rfl (j := 2) rfl ?_
  refine ax_bipush B (v := 8) (by decide) d_V_findVoices_3 ?_
  refine ax_icmp_ge B (tgt := 26) d_V_findVoices_5 (by decide) hf (fun hf => ?_) (fun hf => ?_)
  · exact ax_vreturn B hE d_V_findVoices_26 hf hag (by decide) (by decide)
  · refine ax_aload_n B d_V_findVoices_8 rfl (j := 0) rfl ?_
    refine ax_getR B d_V_findVoices_9 k_V_35 rfl hf (fun x1 hf => ?_)
    refine ax_iload_n B d_V_findVoices_12 rfl (j := 2) rfl ?_
    refine ax_aload_n B d_V_findVoices_13 rfl (j := 0) rfl ?_
    refine ax_aload_n B d_V_findVoices_14 rfl (j := 1) rfl ?_
    refine ax_iload_n B d_V_findVoices_15 rfl (j := 2) rfl ?_
    refine ax_cVV B hR (as := [ax_O v1, ax_I v2]) (V := fun q => ax_I q.1) (N := fun q => q.2) d_V_findVoices_16 l_V_257 m_V_voiceOf hf (fun q h => c_V_voiceOf _ _ _ _ _ _ h) rfl rfl (by decide) (by decide) (by decide) (by decide) (Nat.le_of_ble_eq_true rfl) (fun q2 hf => ?_)
    refine ax_iast B d_V_findVoices_19 (t := 0) (by decide) rfl hf (fun M3 hf => ?_)
    refine ax_iincN B (j := 2) (lv' := fun y => [(2, ax_I y), (0, ax_O v0), (1, ax_O v1)]) d_V_findVoices_20 rfl hf rfl (by rw [hn]; decide) (fun _ => rfl) (fun y4 hf => ?_)
    refine ax_goto B (tgt := 2) d_V_findVoices_23 (by decide) ?_
    refine ax_sub [1, 2, 0] rfl ?_
    exact hr2 M3 v0 v1 y4 hf
def F_V_findVoices_2  : Nat → ax_M → Option Nat → Option Nat → Int32 → Option (ax_M)
  | 0 => fun _ _ _ _ => none
  | n + 1 => G_V_findVoices_2 (F_V_findVoices_2  n)
set_option maxRecDepth 100000 in
set_option maxHeartbeats 4000000 in
theorem L_V_findVoices_2 {Z : ax_Z} {ad0 ad : Nat → Nat} {q : ax_M} (B : ax_B Z "VoteAuctions" b_V_findVoices none) (hn : Z.2.2.2.2.2.2.2.2.2.2.2.1 = 3) (hR : ax_R Z 2 0 0) (hE : ax_E Z ad0 [] 0 0 none q) (hag : ∀ a, a ∉ ([] : List Nat) → ad a = ad0 a)   : ∀ (n : Nat) (M : ax_M) (v0 : Option Nat) (v1 : Option Nat) (v2 : Int32), F_V_findVoices_2  n M v0 v1 v2 = some q → ax_W Z ad 0 0 2 [(0, ax_O v0), (1, ax_O v1), (2, ax_I v2)] [] M := by
  intro n
  induction n with
  | zero => intro M v0 v1 v2 hf; cases hf
  | succ n ih => exact K_V_findVoices_2 B hn hR hE hag ih
def f_V_findVoices (M : ax_M) (x0 : Option Nat) (p0 : Option Nat) : Option (ax_M) := F_V_findVoices_2 64 M x0 p0 0
set_option maxRecDepth 100000 in
set_option maxHeartbeats 4000000 in
theorem c_V_findVoices (l : Launch) (G : ax_G) (M : ax_M) (x0 : Option Nat) (p0 : Option Nat) {q : ax_M} (hf : f_V_findVoices M x0 p0 = some q) : ax_C l G y_V_findVoices b_V_findVoices 3 none [] 2 0 0 [ax_O x0, ax_O p0] M none q := by
  refine ax_ofW (by decide +kernel) (lv0 := [(0, ax_O x0), (1, ax_O p0)]) (Nat.le_of_ble_eq_true rfl) rfl ?_
  intro Z ad B hin _ _ hn hR hE
  have hag : ∀ a, a ∉ ([] : List Nat) → ad a = ad a := fun _ _ => rfl
  unfold f_V_findVoices at hf
  refine ax_iconst B (v := 0) (by decide) d_V_findVoices_0 ?_
  refine ax_istore_n B (lv' := [(2, ax_I 0), (0, ax_O x0), (1, ax_O p0)]) d_V_findVoices_1 rfl (by rw [hn]; decide) rfl ?_
  refine ax_sub [1, 2, 0] rfl ?_
  exact L_V_findVoices_2 B hn hR hE hag 64 M x0 p0 0 hf
def G_V_firstOfRanks_50  (M : ax_M)  : Option (Int32 × ax_M) := some ((-1), M)
set_option maxRecDepth 100000 in
set_option maxHeartbeats 4000000 in
theorem K_V_firstOfRanks_50 {Z : ax_Z} {ad0 ad : Nat → Nat} {q : Int32 × ax_M} (B : ax_B Z "VoteAuctions" b_V_firstOfRanks (some .int)) (hn : Z.2.2.2.2.2.2.2.2.2.2.2.1 = 6) (hR : ax_R Z 1 0 0) (hE : ax_E Z ad0 [] 0 0 (some (ax_I q.1)) q.2) (hag : ∀ a, a ∉ ([] : List Nat) → ad a = ad0 a)   : ∀ (M : ax_M) , G_V_firstOfRanks_50  M  = some q → ax_W Z ad 0 0 50 [] [] M := by
  intro M  hf
  unfold G_V_firstOfRanks_50 at hf
  refine ax_iconst B (v := (-1)) (by decide) d_V_firstOfRanks_50 ?_
  exact ax_ireturn B hE d_V_firstOfRanks_51 hf rfl hag (by decide) (by decide)
def G_V_firstOfRanks_40 (rec5 : ax_M → Int32 → Int32 → Int32 → Int32 → Option (Int32 × ax_M)) (M : ax_M) (v1 : Int32) (v2 : Int32) (v3 : Int32) (v4 : Int32) : Option (Int32 × ax_M) := (some (v3 >>> (3 &&& 31))).bind (fun y1 => (some (v4 + 1)).bind (fun y2 => rec5 M v1 v2 y1 y2))
set_option maxRecDepth 100000 in
set_option maxHeartbeats 4000000 in
theorem K_V_firstOfRanks_40 {Z : ax_Z} {ad0 ad : Nat → Nat} {q : Int32 × ax_M} (B : ax_B Z "VoteAuctions" b_V_firstOfRanks (some .int)) (hn : Z.2.2.2.2.2.2.2.2.2.2.2.1 = 6) (hR : ax_R Z 1 0 0) (hE : ax_E Z ad0 [] 0 0 (some (ax_I q.1)) q.2) (hag : ∀ a, a ∉ ([] : List Nat) → ad a = ad0 a) {rec5 : ax_M → Int32 → Int32 → Int32 → Int32 → Option (Int32 × ax_M)} (hr5 : ∀ (M : ax_M) (v1 : Int32) (v2 : Int32) (v3 : Int32) (v4 : Int32), rec5 M v1 v2 v3 v4 = some q → ax_W Z ad 0 0 5 [(1, ax_I v1), (2, ax_I v2), (3, ax_I v3), (4, ax_I v4)] [] M) : ∀ (M : ax_M) (v1 : Int32) (v2 : Int32) (v3 : Int32) (v4 : Int32), G_V_firstOfRanks_40 rec5 M v1 v2 v3 v4 = some q → ax_W Z ad 0 0 40 [(1, ax_I v1), (2, ax_I v2), (3, ax_I v3), (4, ax_I v4)] [] M := by
  intro M v1 v2 v3 v4 hf
  unfold G_V_firstOfRanks_40 at hf
  refine ax_iload_n B d_V_firstOfRanks_40 rfl (j := 2) rfl ?_
  refine ax_iconst B (v := 3) (by decide) d_V_firstOfRanks_41 ?_
  refine ax_ishr B d_V_firstOfRanks_42 ?_
  refine ax_nmI hf (fun y1 hf => ?_)
  refine ax_istore_n B (lv' := [(3, ax_I y1), (1, ax_I v1), (2, ax_I v2), (4, ax_I v4)]) d_V_firstOfRanks_43 rfl (by rw [hn]; decide) rfl ?_
  refine ax_iincN B (j := 3) (lv' := fun y => [(4, ax_I y), (3, ax_I y1), (1, ax_I v1), (2, ax_I v2)]) d_V_firstOfRanks_44 rfl hf rfl (by rw [hn]; decide) (fun _ => rfl) (fun y2 hf => ?_)
  refine ax_goto B (tgt := 5) d_V_firstOfRanks_47 (by decide) ?_
  refine ax_sub [2, 3, 1, 0] rfl ?_
  exact hr5 M v1 v2 y1 y2 hf
def G_V_firstOfRanks_5 (rec5 : ax_M → Int32 → Int32 → Int32 → Int32 → Option (Int32 × ax_M)) (M : ax_M) (v1 : Int32) (v2 : Int32) (v3 : Int32) (v4 : Int32) : Option (Int32 × ax_M) := if v1 ≤ v4 then G_V_firstOfRanks_50 M else if v3 ≤ 0 then G_V_firstOfRanks_50 M else (some ((v3 &&& 7) - 1)).bind (fun y1 => if y1 < 0 then G_V_firstOfRanks_40 rec5 M v1 v2 v3 v4 else (f_V_hasChoice M v2 y1).bind (fun q2 => if q2.1 = 0 then G_V_firstOfRanks_40 rec5 q2.2 v1 v2 v3 v4 else some (y1, q2.2)))
set_option maxRecDepth 100000 in
set_option maxHeartbeats 4000000 in
theorem K_V_firstOfRanks_5 {Z : ax_Z} {ad0 ad : Nat → Nat} {q : Int32 × ax_M} (B : ax_B Z "VoteAuctions" b_V_firstOfRanks (some .int)) (hn : Z.2.2.2.2.2.2.2.2.2.2.2.1 = 6) (hR : ax_R Z 1 0 0) (hE : ax_E Z ad0 [] 0 0 (some (ax_I q.1)) q.2) (hag : ∀ a, a ∉ ([] : List Nat) → ad a = ad0 a) {rec5 : ax_M → Int32 → Int32 → Int32 → Int32 → Option (Int32 × ax_M)} (hr5 : ∀ (M : ax_M) (v1 : Int32) (v2 : Int32) (v3 : Int32) (v4 : Int32), rec5 M v1 v2 v3 v4 = some q → ax_W Z ad 0 0 5 [(1, ax_I v1), (2, ax_I v2), (3, ax_I v3), (4, ax_I v4)] [] M) : ∀ (M : ax_M) (v1 : Int32) (v2 : Int32) (v3 : Int32) (v4 : Int32), G_V_firstOfRanks_5 rec5 M v1 v2 v3 v4 = some q → ax_W Z ad 0 0 5 [(1, ax_I v1), (2, ax_I v2), (3, ax_I v3), (4, ax_I v4)] [] M := by
  intro M v1 v2 v3 v4 hf
  unfold G_V_firstOfRanks_5 at hf
  refine ax_iload B (j := 3) d_V_firstOfRanks_5 rfl ?_
  refine ax_iload_n B d_V_firstOfRanks_7 rfl (j := 0) rfl ?_
  refine ax_icmp_ge B (tgt := 50) d_V_firstOfRanks_8 (by decide) hf (fun hf => ?_) (fun hf => ?_)
  · refine ax_sub [] rfl ?_
    exact K_V_firstOfRanks_50 B hn hR hE hag M hf
  · refine ax_iload_n B d_V_firstOfRanks_11 rfl (j := 2) rfl ?_
    refine ax_if_le B (tgt := 50) d_V_firstOfRanks_12 (by decide) hf (fun hf => ?_) (fun hf => ?_)
    · refine ax_sub [] rfl ?_
      exact K_V_firstOfRanks_50 B hn hR hE hag M hf
    · refine ax_iload_n B d_V_firstOfRanks_15 rfl (j := 2) rfl ?_
      refine ax_bipush B (v := 7) (by decide) d_V_firstOfRanks_16 ?_
      refine ax_iand B d_V_firstOfRanks_18 ?_
      refine ax_iconst B (v := 1) (by decide) d_V_firstOfRanks_19 ?_
      refine ax_isub B d_V_firstOfRanks_20 ?_
      refine ax_nmI hf (fun y1 hf => ?_)
      refine ax_istore B (lv' := [(5, ax_I y1), (1, ax_I v1), (2, ax_I v2), (3, ax_I v3), (4, ax_I v4)]) d_V_firstOfRanks_21 (by rw [hn]; decide) rfl ?_
      refine ax_iload B (j := 0) d_V_firstOfRanks_23 rfl ?_
      refine ax_if_lt B (tgt := 40) d_V_firstOfRanks_25 (by decide) hf (fun hf => ?_) (fun hf => ?_)
      · refine ax_sub [1, 2, 3, 4] rfl ?_
        exact K_V_firstOfRanks_40 B hn hR hE hag hr5 M v1 v2 v3 v4 hf
      · refine ax_iload_n B d_V_firstOfRanks_28 rfl (j := 2) rfl ?_
        refine ax_iload B (j := 0) d_V_firstOfRanks_29 rfl ?_
        refine ax_cSV B hR (as := [ax_I v2, ax_I y1]) (V := fun q => ax_I q.1) (N := fun q => q.2) d_V_firstOfRanks_31 l_V_236 m_V_hasChoice hf (fun q h => c_V_hasChoice _ _ _ _ _ h) rfl rfl (by decide) (by decide) (by decide) (by decide) (Nat.le_of_ble_eq_true rfl) (fun q2 hf => ?_)
        refine ax_if_eq B (tgt := 40) d_V_firstOfRanks_34 (by decide) hf (fun hf => ?_) (fun hf => ?_)
        · refine ax_sub [1, 2, 3, 4] rfl ?_
          exact K_V_firstOfRanks_40 B hn hR hE hag hr5 q2.2 v1 v2 v3 v4 hf
        · refine ax_iload B (j := 0) d_V_firstOfRanks_37 rfl ?_
          exact ax_ireturn B hE d_V_firstOfRanks_39 hf rfl hag (by decide) (by decide)
def F_V_firstOfRanks_5  : Nat → ax_M → Int32 → Int32 → Int32 → Int32 → Option (Int32 × ax_M)
  | 0 => fun _ _ _ _ _ => none
  | n + 1 => G_V_firstOfRanks_5 (F_V_firstOfRanks_5  n)
set_option maxRecDepth 100000 in
set_option maxHeartbeats 4000000 in
theorem L_V_firstOfRanks_5 {Z : ax_Z} {ad0 ad : Nat → Nat} {q : Int32 × ax_M} (B : ax_B Z "VoteAuctions" b_V_firstOfRanks (some .int)) (hn : Z.2.2.2.2.2.2.2.2.2.2.2.1 = 6) (hR : ax_R Z 1 0 0) (hE : ax_E Z ad0 [] 0 0 (some (ax_I q.1)) q.2) (hag : ∀ a, a ∉ ([] : List Nat) → ad a = ad0 a)   : ∀ (n : Nat) (M : ax_M) (v1 : Int32) (v2 : Int32) (v3 : Int32) (v4 : Int32), F_V_firstOfRanks_5  n M v1 v2 v3 v4 = some q → ax_W Z ad 0 0 5 [(1, ax_I v1), (2, ax_I v2), (3, ax_I v3), (4, ax_I v4)] [] M := by
  intro n
  induction n with
  | zero => intro M v1 v2 v3 v4 hf; cases hf
  | succ n ih => exact K_V_firstOfRanks_5 B hn hR hE hag ih
def f_V_firstOfRanks (M : ax_M) (p0 : Int32) (p1 : Int32) (p2 : Int32) : Option (Int32 × ax_M) := F_V_firstOfRanks_5 64 M p1 p2 p0 0
set_option maxRecDepth 100000 in
set_option maxHeartbeats 4000000 in
theorem c_V_firstOfRanks (l : Launch) (G : ax_G) (M : ax_M) (p0 : Int32) (p1 : Int32) (p2 : Int32) {q : Int32 × ax_M} (hf : f_V_firstOfRanks M p0 p1 p2 = some q) : ax_C l G y_V_firstOfRanks b_V_firstOfRanks 6 (some .int) [] 1 0 0 [ax_I p0, ax_I p1, ax_I p2] M (some (ax_I q.1)) q.2 := by
  refine ax_ofW (by decide +kernel) (lv0 := [(0, ax_I p0), (1, ax_I p1), (2, ax_I p2)]) (Nat.le_of_ble_eq_true rfl) rfl ?_
  intro Z ad B hin _ _ hn hR hE
  have hag : ∀ a, a ∉ ([] : List Nat) → ad a = ad a := fun _ _ => rfl
  unfold f_V_firstOfRanks at hf
  refine ax_iload_n B d_V_firstOfRanks_0 rfl (j := 0) rfl ?_
  refine ax_istore_n B (lv' := [(3, ax_I p0), (0, ax_I p0), (1, ax_I p1), (2, ax_I p2)]) d_V_firstOfRanks_1 rfl (by rw [hn]; decide) rfl ?_
  refine ax_iconst B (v := 0) (by decide) d_V_firstOfRanks_2 ?_
  refine ax_istore B (lv' := [(4, ax_I 0), (3, ax_I p0), (0, ax_I p0), (1, ax_I p1), (2, ax_I p2)]) d_V_firstOfRanks_3 (by rw [hn]; decide) rfl ?_
  refine ax_sub [3, 4, 1, 0] rfl ?_
  exact L_V_firstOfRanks_5 B hn hR hE hag 64 M p1 p2 p0 0 hf
def G_V_shareOf_76  (M : ax_M) (s0 : Int32) : Option (Int32 × ax_M) := some (s0, M)
set_option maxRecDepth 100000 in
set_option maxHeartbeats 4000000 in
theorem K_V_shareOf_76 {Z : ax_Z} {ad0 ad : Nat → Nat} {q : Int32 × ax_M} (B : ax_B Z "VoteAuctions" b_V_shareOf (some .int)) (hn : Z.2.2.2.2.2.2.2.2.2.2.2.1 = 5) (hR : ax_R Z 2 0 0) (hE : ax_E Z ad0 [] 0 0 (some (ax_I q.1)) q.2) (hag : ∀ a, a ∉ ([] : List Nat) → ad a = ad0 a)   : ∀ (M : ax_M) (s0 : Int32), G_V_shareOf_76  M s0 = some q → ax_W Z ad 0 0 76 [] [ax_I s0] M := by
  intro M s0 hf
  unfold G_V_shareOf_76 at hf
  exact ax_ireturn B hE d_V_shareOf_76 hf rfl hag (by decide) (by decide)
def G_V_shareOf_56  (M : ax_M) (s0 : Int32) : Option (Int32 × ax_M) := some (s0, M)
set_option maxRecDepth 100000 in
set_option maxHeartbeats 4000000 in
theorem K_V_shareOf_56 {Z : ax_Z} {ad0 ad : Nat → Nat} {q : Int32 × ax_M} (B : ax_B Z "VoteAuctions" b_V_shareOf (some .int)) (hn : Z.2.2.2.2.2.2.2.2.2.2.2.1 = 5) (hR : ax_R Z 2 0 0) (hE : ax_E Z ad0 [] 0 0 (some (ax_I q.1)) q.2) (hag : ∀ a, a ∉ ([] : List Nat) → ad a = ad0 a)   : ∀ (M : ax_M) (s0 : Int32), G_V_shareOf_56  M s0 = some q → ax_W Z ad 0 0 56 [] [ax_I s0] M := by
  intro M s0 hf
  unfold G_V_shareOf_56 at hf
  exact ax_ireturn B hE d_V_shareOf_56 hf rfl hag (by decide) (by decide)
def G_V_shareOf_42  (M : ax_M) (s0 : Int32) : Option (Int32 × ax_M) := some (s0, M)
set_option maxRecDepth 100000 in
set_option maxHeartbeats 4000000 in
theorem K_V_shareOf_42 {Z : ax_Z} {ad0 ad : Nat → Nat} {q : Int32 × ax_M} (B : ax_B Z "VoteAuctions" b_V_shareOf (some .int)) (hn : Z.2.2.2.2.2.2.2.2.2.2.2.1 = 5) (hR : ax_R Z 2 0 0) (hE : ax_E Z ad0 [] 0 0 (some (ax_I q.1)) q.2) (hag : ∀ a, a ∉ ([] : List Nat) → ad a = ad0 a)   : ∀ (M : ax_M) (s0 : Int32), G_V_shareOf_42  M s0 = some q → ax_W Z ad 0 0 42 [] [ax_I s0] M := by
  intro M s0 hf
  unfold G_V_shareOf_42 at hf
  exact ax_ireturn B hE d_V_shareOf_42 hf rfl hag (by decide) (by decide)
def f_V_shareOf (M : ax_M) (p0 : Option Nat) (p1 : Int32) (p2 : Int32) (p3 : Int32) (p4 : Int32) : Option (Int32 × ax_M) := (ax_gi M 1 0 p0).bind (fun x1 => if x1 = 0 then if p1 = p3 then G_V_shareOf_42 M p2 else G_V_shareOf_42 M 0 else if x1 = 1 then (f_V_hasChoice M p1 p3).bind (fun q2 => if q2.1 = 0 then G_V_shareOf_56 q2.2 0 else G_V_shareOf_56 q2.2 p2) else if x1 = 2 then (ax_gi M 1 1 p0).bind (fun x3 => (f_V_firstOfRanks M p1 x3 p4).bind (fun q4 => if q4.1 = p3 then G_V_shareOf_76 q4.2 p2 else G_V_shareOf_76 q4.2 0)) else (f_V_strengthOf M p1 p3).bind (fun q5 => some (q5.1, q5.2)))
set_option maxRecDepth 100000 in
set_option maxHeartbeats 4000000 in
theorem c_V_shareOf (l : Launch) (G : ax_G) (M : ax_M) (p0 : Option Nat) (p1 : Int32) (p2 : Int32) (p3 : Int32) (p4 : Int32) {q : Int32 × ax_M} (hf : f_V_shareOf M p0 p1 p2 p3 p4 = some q) : ax_C l G y_V_shareOf b_V_shareOf 5 (some .int) [] 2 0 0 [ax_O p0, ax_I p1, ax_I p2, ax_I p3, ax_I p4] M (some (ax_I q.1)) q.2 := by
  refine ax_ofW (by decide +kernel) (lv0 := [(0, ax_O p0), (1, ax_I p1), (2, ax_I p2), (3, ax_I p3), (4, ax_I p4)]) (Nat.le_of_ble_eq_true rfl) rfl ?_
  intro Z ad B hin _ _ hn hR hE
  have hag : ∀ a, a ∉ ([] : List Nat) → ad a = ad a := fun _ _ => rfl
  unfold f_V_shareOf at hf
  refine ax_aload_n B d_V_shareOf_0 rfl (j := 0) rfl ?_
  refine ax_getI B d_V_shareOf_1 k_V_140 rfl hf (fun x1 hf => ?_)
  refine ax_tsw3 B (t0 := 32) (t1 := 43) (t2 := 57) (t3 := 77) d_V_shareOf_4 (by decide) (by decide) (by decide) (by decide) hf (fun hf => ?_) (fun hf => ?_) (fun hf => ?_) (fun hf => ?_)
  · refine ax_iload_n B d_V_shareOf_32 rfl (j := 1) rfl ?_
    refine ax_iload_n B d_V_shareOf_33 rfl (j := 3) rfl ?_
    refine ax_icmp_ne B (tgt := 41) d_V_shareOf_34 (by decide) hf (fun hf => ?_) (fun hf => ?_)
    · refine ax_iload_n B d_V_shareOf_37 rfl (j := 2) rfl ?_
      refine ax_goto B (tgt := 42) d_V_shareOf_38 (by decide) ?_
      refine ax_sub [] rfl ?_
      exact K_V_shareOf_42 B hn hR hE hag M p2 hf
    · refine ax_iconst B (v := 0) (by decide) d_V_shareOf_41 ?_
      refine ax_sub [] rfl ?_
      exact K_V_shareOf_42 B hn hR hE hag M 0 hf
  · refine ax_iload_n B d_V_shareOf_43 rfl (j := 1) rfl ?_
    refine ax_iload_n B d_V_shareOf_44 rfl (j := 3) rfl ?_
    refine ax_cSV B hR (as := [ax_I p1, ax_I p3]) (V := fun q => ax_I q.1) (N := fun q => q.2) d_V_shareOf_45 l_V_236 m_V_hasChoice hf (fun q h => c_V_hasChoice _ _ _ _ _ h) rfl rfl (by decide) (by decide) (by decide) (by decide) (Nat.le_of_ble_eq_true rfl) (fun q2 hf => ?_)
    refine ax_if_eq B (tgt := 55) d_V_shareOf_48 (by decide) hf (fun hf => ?_) (fun hf => ?_)
    · refine ax_iconst B (v := 0) (by decide) d_V_shareOf_55 ?_
      refine ax_sub [] rfl ?_
      exact K_V_shareOf_56 B hn hR hE hag q2.2 0 hf
    · refine ax_iload_n B d_V_shareOf_51 rfl (j := 2) rfl ?_
      refine ax_goto B (tgt := 56) d_V_shareOf_52 (by decide) ?_
      refine ax_sub [] rfl ?_
      exact K_V_shareOf_56 B hn hR hE hag q2.2 p2 hf
  · refine ax_iload_n B d_V_shareOf_57 rfl (j := 1) rfl ?_
    refine ax_aload_n B d_V_shareOf_58 rfl (j := 0) rfl ?_
    refine ax_getI B d_V_shareOf_59 k_V_133 rfl hf (fun x3 hf => ?_)
    refine ax_iload B (j := 4) d_V_shareOf_62 rfl ?_
    refine ax_cSV B hR (as := [ax_I p1, ax_I x3, ax_I p4]) (V := fun q => ax_I q.1) (N := fun q => q.2) d_V_shareOf_64 l_V_267 m_V_firstOfRanks hf (fun q h => c_V_firstOfRanks _ _ _ _ _ _ h) rfl rfl (by decide) (by decide) (by decide) (by decide) (Nat.le_of_ble_eq_true rfl) (fun q4 hf => ?_)
    refine ax_iload_n B d_V_shareOf_67 rfl (j := 3) rfl ?_
    refine ax_icmp_ne B (tgt := 75) d_V_shareOf_68 (by decide) hf (fun hf => ?_) (fun hf => ?_)
    · refine ax_iload_n B d_V_shareOf_71 rfl (j := 2) rfl ?_
      refine ax_goto B (tgt := 76) d_V_shareOf_72 (by decide) ?_
      refine ax_sub [] rfl ?_
      exact K_V_shareOf_76 B hn hR hE hag q4.2 p2 hf
    · refine ax_iconst B (v := 0) (by decide) d_V_shareOf_75 ?_
      refine ax_sub [] rfl ?_
      exact K_V_shareOf_76 B hn hR hE hag q4.2 0 hf
  · refine ax_iload_n B d_V_shareOf_77 rfl (j := 1) rfl ?_
    refine ax_iload_n B d_V_shareOf_78 rfl (j := 3) rfl ?_
    refine ax_cSV B hR (as := [ax_I p1, ax_I p3]) (V := fun q => ax_I q.1) (N := fun q => q.2) d_V_shareOf_79 l_V_239 m_V_strengthOf hf (fun q h => c_V_strengthOf _ _ _ _ _ h) rfl rfl (by decide) (by decide) (by decide) (by decide) (Nat.le_of_ble_eq_true rfl) (fun q5 hf => ?_)
    exact ax_ireturn B hE d_V_shareOf_82 hf rfl hag (by decide) (by decide)
def G_V_countRound_63 (rec2 : ax_M → Option Nat → Option Nat → Int32 → Int32 → Option (ax_M)) (rec16 : ax_M → Option Nat → Option Nat → Int32 → Int32 → Int32 → Int32 → Option (ax_M)) (M : ax_M) (v0 : Option Nat) (v1 : Option Nat) (v2 : Int32) (v3 : Int32) (v4 : Int32) (v5 : Int32) : Option (ax_M) := (some (v5 + 1)).bind (fun y1 => rec16 M v0 v1 v2 v3 v4 y1)
set_option maxRecDepth 100000 in
set_option maxHeartbeats 4000000 in
theorem K_V_countRound_63 {Z : ax_Z} {ad0 ad : Nat → Nat} {q : ax_M} (B : ax_B Z "VoteAuctions" b_V_countRound none) (hn : Z.2.2.2.2.2.2.2.2.2.2.2.1 = 7) (hR : ax_R Z 3 0 0) (hE : ax_E Z ad0 [] 0 0 none q) (hag : ∀ a, a ∉ ([] : List Nat) → ad a = ad0 a) {rec2 : ax_M → Option Nat → Option Nat → Int32 → Int32 → Option (ax_M)} {rec16 : ax_M → Option Nat → Option Nat → Int32 → Int32 → Int32 → Int32 → Option (ax_M)} (hr2 : ∀ (M : ax_M) (v0 : Option Nat) (v1 : Option Nat) (v2 : Int32) (v3 : Int32), rec2 M v0 v1 v2 v3 = some q → ax_W Z ad 0 0 2 [(0, ax_O v0), (1, ax_O v1), (2, ax_I v2), (3, ax_I v3)] [] M) (hr16 : ∀ (M : ax_M) (v0 : Option Nat) (v1 : Option Nat) (v2 : Int32) (v3 : Int32) (v4 : Int32) (v5 : Int32), rec16 M v0 v1 v2 v3 v4 v5 = some q → ax_W Z ad 0 0 16 [(0, ax_O v0), (1, ax_O v1), (2, ax_I v2), (3, ax_I v3), (4, ax_I v4), (5, ax_I v5)] [] M) : ∀ (M : ax_M) (v0 : Option Nat) (v1 : Option Nat) (v2 : Int32) (v3 : Int32) (v4 : Int32) (v5 : Int32), G_V_countRound_63 rec2 rec16 M v0 v1 v2 v3 v4 v5 = some q → ax_W Z ad 0 0 63 [(0, ax_O v0), (1, ax_O v1), (2, ax_I v2), (3, ax_I v3), (4, ax_I v4), (5, ax_I v5)] [] M := by
  intro M v0 v1 v2 v3 v4 v5 hf
  unfold G_V_countRound_63 at hf
  refine ax_iincN B (j := 5) (lv' := fun y => [(5, ax_I y), (0, ax_O v0), (1, ax_O v1), (2, ax_I v2), (3, ax_I v3), (4, ax_I v4)]) d_V_countRound_63 rfl hf rfl (by rw [hn]; decide) (fun _ => rfl) (fun y1 hf => ?_)
  refine ax_goto B (tgt := 16) d_V_countRound_66 (by decide) ?_
  refine ax_sub [1, 2, 3, 4, 5, 0] rfl ?_
  exact hr16 M v0 v1 v2 v3 v4 y1 hf
def G_V_countRound_16 (rec2 : ax_M → Option Nat → Option Nat → Int32 → Int32 → Option (ax_M)) (rec16 : ax_M → Option Nat → Option Nat → Int32 → Int32 → Int32 → Int32 → Option (ax_M)) (M : ax_M) (v0 : Option Nat) (v1 : Option Nat) (v2 : Int32) (v3 : Int32) (v4 : Int32) (v5 : Int32) : Option (ax_M) := if 8 ≤ v5 then (ax_gr M 0 12 v0).bind (fun x1 => (ax_ti M 0 x1 v3 v4).bind (fun M2 => (some (v3 + 1)).bind (fun y3 => rec2 M2 v0 v1 v2 y3))) else (ax_gr M 0 11 v0).bind (fun x4 => (ax_ri M 0 x4 v5).bind (fun x5 => if x5 = (-1) then G_V_countRound_63 rec2 rec16 M v0 v1 v2 v3 v4 v5 else (ax_gr M 1 6 v1).bind (fun x6 => (ax_ri M 0 x6 x5).bind (fun x7 => (ax_gr M 1 5 v1).bind (fun x8 => (ax_ri M 0 x8 v5).bind (fun x9 => (f_V_shareOf M v1 x7 x9 v3 v2).bind (fun q10 => (some (v4 + q10.1)).bind (fun y11 => G_V_countRound_63 rec2 rec16 q10.2 v0 v1 v2 v3 y11 v5))))))))
set_option maxRecDepth 100000 in
set_option maxHeartbeats 4000000 in
theorem K_V_countRound_16 {Z : ax_Z} {ad0 ad : Nat → Nat} {q : ax_M} (B : ax_B Z "VoteAuctions" b_V_countRound none) (hn : Z.2.2.2.2.2.2.2.2.2.2.2.1 = 7) (hR : ax_R Z 3 0 0) (hE : ax_E Z ad0 [] 0 0 none q) (hag : ∀ a, a ∉ ([] : List Nat) → ad a = ad0 a) {rec2 : ax_M → Option Nat → Option Nat → Int32 → Int32 → Option (ax_M)} {rec16 : ax_M → Option Nat → Option Nat → Int32 → Int32 → Int32 → Int32 → Option (ax_M)} (hr2 : ∀ (M : ax_M) (v0 : Option Nat) (v1 : Option Nat) (v2 : Int32) (v3 : Int32), rec2 M v0 v1 v2 v3 = some q → ax_W Z ad 0 0 2 [(0, ax_O v0), (1, ax_O v1), (2, ax_I v2), (3, ax_I v3)] [] M) (hr16 : ∀ (M : ax_M) (v0 : Option Nat) (v1 : Option Nat) (v2 : Int32) (v3 : Int32) (v4 : Int32) (v5 : Int32), rec16 M v0 v1 v2 v3 v4 v5 = some q → ax_W Z ad 0 0 16 [(0, ax_O v0), (1, ax_O v1), (2, ax_I v2), (3, ax_I v3), (4, ax_I v4), (5, ax_I v5)] [] M) : ∀ (M : ax_M) (v0 : Option Nat) (v1 : Option Nat) (v2 : Int32) (v3 : Int32) (v4 : Int32) (v5 : Int32), G_V_countRound_16 rec2 rec16 M v0 v1 v2 v3 v4 v5 = some q → ax_W Z ad 0 0 16 [(0, ax_O v0), (1, ax_O v1), (2, ax_I v2), (3, ax_I v3), (4, ax_I v4), (5, ax_I v5)] [] M := by
  intro M v0 v1 v2 v3 v4 v5 hf
  unfold G_V_countRound_16 at hf
  refine ax_iload B (j := 5) d_V_countRound_16 rfl ?_
  refine ax_bipush B (v := 8) (by decide) d_V_countRound_18 ?_
  refine ax_icmp_ge B (tgt := 69) d_V_countRound_20 (by decide) hf (fun hf => ?_) (fun hf => ?_)
  · refine ax_aload_n B d_V_countRound_69 rfl (j := 0) rfl ?_
    refine ax_getR B d_V_countRound_70 k_V_38 rfl hf (fun x1 hf => ?_)
    refine ax_iload_n B d_V_countRound_73 rfl (j := 3) rfl ?_
    refine ax_iload B (j := 4) d_V_countRound_74 rfl ?_
    refine ax_iast B d_V_countRound_76 (t := 0) (by decide) rfl hf (fun M2 hf => ?_)
    refine ax_iincN B (j := 3) (lv' := fun y => [(3, ax_I y), (0, ax_O v0), (1, ax_O v1), (2, ax_I v2), (4, ax_I v4), (5, ax_I v5)]) d_V_countRound_77 rfl hf rfl (by rw [hn]; decide) (fun _ => rfl) (fun y3 hf => ?_)
    refine ax_goto B (tgt := 2) d_V_countRound_80 (by decide) ?_
    refine ax_sub [1, 2, 3, 0] rfl ?_
    exact hr2 M2 v0 v1 v2 y3 hf
  · refine ax_aload_n B d_V_countRound_23 rfl (j := 0) rfl ?_
    refine ax_getR B d_V_countRound_24 k_V_35 rfl hf (fun x4 hf => ?_)
    refine ax_iload B (j := 5) d_V_countRound_27 rfl ?_
    refine ax_iald B d_V_countRound_29 (t := 0) (by decide) rfl hf (fun x5 hf => ?_)
    refine ax_istore B (lv' := [(6, ax_I x5), (0, ax_O v0), (1, ax_O v1), (2, ax_I v2), (3, ax_I v3), (4, ax_I v4), (5, ax_I v5)]) d_V_countRound_30 (by rw [hn]; decide) rfl ?_
    refine ax_iload B (j := 0) d_V_countRound_32 rfl ?_
    refine ax_iconst B (v := (-1)) (by decide) d_V_countRound_34 ?_
    refine ax_icmp_eq B (tgt := 63) d_V_countRound_35 (by decide) hf (fun hf => ?_) (fun hf => ?_)
    · refine ax_sub [1, 2, 3, 4, 5, 6] rfl ?_
      exact K_V_countRound_63 B hn hR hE hag hr2 hr16 M v0 v1 v2 v3 v4 v5 hf
    · refine ax_iload B (j := 5) d_V_countRound_38 rfl ?_
      refine ax_aload_n B d_V_countRound_40 rfl (j := 2) rfl ?_
      refine ax_aload_n B d_V_countRound_41 rfl (j := 2) rfl ?_
      refine ax_getR B d_V_countRound_42 k_V_119 rfl hf (fun x6 hf => ?_)
      refine ax_iload B (j := 0) d_V_countRound_45 rfl ?_
      refine ax_iald B d_V_countRound_47 (t := 0) (by decide) rfl hf (fun x7 hf => ?_)
      refine ax_aload_n B d_V_countRound_48 rfl (j := 2) rfl ?_
      refine ax_getR B d_V_countRound_49 k_V_85 rfl hf (fun x8 hf => ?_)
      refine ax_iload B (j := 6) d_V_countRound_52 rfl ?_
      refine ax_iald B d_V_countRound_54 (t := 0) (by decide) rfl hf (fun x9 hf => ?_)
      refine ax_iload_n B d_V_countRound_55 rfl (j := 4) rfl ?_
      refine ax_iload_n B d_V_countRound_56 rfl (j := 3) rfl ?_
      refine ax_cSV B hR (as := [ax_O v1, ax_I x7, ax_I x9, ax_I v3, ax_I v2]) (V := fun q => ax_I q.1) (N := fun q => q.2) d_V_countRound_57 l_V_263 m_V_shareOf hf (fun q h => c_V_shareOf _ _ _ _ _ _ _ _ h) rfl rfl (by decide) (by decide) (by decide) (by decide) (Nat.le_of_ble_eq_true rfl) (fun q10 hf => ?_)
      refine ax_iadd B d_V_countRound_60 ?_
      refine ax_nmI hf (fun y11 hf => ?_)
      refine ax_istore B (lv' := [(4, ax_I y11), (6, ax_I x5), (0, ax_O v0), (1, ax_O v1), (2, ax_I v2), (3, ax_I v3), (5, ax_I v5)]) d_V_countRound_61 (by rw [hn]; decide) rfl ?_
      refine ax_sub [2, 3, 4, 5, 0, 6] rfl ?_
      exact K_V_countRound_63 B hn hR hE hag hr2 hr16 q10.2 v0 v1 v2 v3 y11 v5 hf
def F_V_countRound_16 (rec2 : ax_M → Option Nat → Option Nat → Int32 → Int32 → Option (ax_M)) : Nat → ax_M → Option Nat → Option Nat → Int32 → Int32 → Int32 → Int32 → Option (ax_M)
  | 0 => fun _ _ _ _ _ _ _ => none
  | n + 1 => G_V_countRound_16 rec2 (F_V_countRound_16 rec2 n)
set_option maxRecDepth 100000 in
set_option maxHeartbeats 4000000 in
theorem L_V_countRound_16 {Z : ax_Z} {ad0 ad : Nat → Nat} {q : ax_M} (B : ax_B Z "VoteAuctions" b_V_countRound none) (hn : Z.2.2.2.2.2.2.2.2.2.2.2.1 = 7) (hR : ax_R Z 3 0 0) (hE : ax_E Z ad0 [] 0 0 none q) (hag : ∀ a, a ∉ ([] : List Nat) → ad a = ad0 a) {rec2 : ax_M → Option Nat → Option Nat → Int32 → Int32 → Option (ax_M)} (hr2 : ∀ (M : ax_M) (v0 : Option Nat) (v1 : Option Nat) (v2 : Int32) (v3 : Int32), rec2 M v0 v1 v2 v3 = some q → ax_W Z ad 0 0 2 [(0, ax_O v0), (1, ax_O v1), (2, ax_I v2), (3, ax_I v3)] [] M) : ∀ (n : Nat) (M : ax_M) (v0 : Option Nat) (v1 : Option Nat) (v2 : Int32) (v3 : Int32) (v4 : Int32) (v5 : Int32), F_V_countRound_16 rec2 n M v0 v1 v2 v3 v4 v5 = some q → ax_W Z ad 0 0 16 [(0, ax_O v0), (1, ax_O v1), (2, ax_I v2), (3, ax_I v3), (4, ax_I v4), (5, ax_I v5)] [] M := by
  intro n
  induction n with
  | zero => intro M v0 v1 v2 v3 v4 v5 hf; cases hf
  | succ n ih => exact K_V_countRound_16 B hn hR hE hag hr2 ih
def G_V_countRound_2 (rec2 : ax_M → Option Nat → Option Nat → Int32 → Int32 → Option (ax_M)) (M : ax_M) (v0 : Option Nat) (v1 : Option Nat) (v2 : Int32) (v3 : Int32) : Option (ax_M) := (ax_gi M 1 1 v1).bind (fun x1 => if x1 ≤ v3 then some M else F_V_countRound_16 rec2 64 M v0 v1 v2 v3 0 0)
set_option maxRecDepth 100000 in
set_option maxHeartbeats 4000000 in
theorem K_V_countRound_2 {Z : ax_Z} {ad0 ad : Nat → Nat} {q : ax_M} (B : ax_B Z "VoteAuctions" b_V_countRound none) (hn : Z.2.2.2.2.2.2.2.2.2.2.2.1 = 7) (hR : ax_R Z 3 0 0) (hE : ax_E Z ad0 [] 0 0 none q) (hag : ∀ a, a ∉ ([] : List Nat) → ad a = ad0 a) {rec2 : ax_M → Option Nat → Option Nat → Int32 → Int32 → Option (ax_M)} (hr2 : ∀ (M : ax_M) (v0 : Option Nat) (v1 : Option Nat) (v2 : Int32) (v3 : Int32), rec2 M v0 v1 v2 v3 = some q → ax_W Z ad 0 0 2 [(0, ax_O v0), (1, ax_O v1), (2, ax_I v2), (3, ax_I v3)] [] M) : ∀ (M : ax_M) (v0 : Option Nat) (v1 : Option Nat) (v2 : Int32) (v3 : Int32), G_V_countRound_2 rec2 M v0 v1 v2 v3 = some q → ax_W Z ad 0 0 2 [(0, ax_O v0), (1, ax_O v1), (2, ax_I v2), (3, ax_I v3)] [] M := by
  intro M v0 v1 v2 v3 hf
  unfold G_V_countRound_2 at hf
  refine ax_iload_n B d_V_countRound_2 rfl (j := 3) rfl ?_
  refine ax_aload_n B d_V_countRound_3 rfl (j := 1) rfl ?_
  refine ax_getI B d_V_countRound_4 k_V_133 rfl hf (fun x1 hf => ?_)
  refine ax_icmp_ge B (tgt := 83) d_V_countRound_7 (by decide) hf (fun hf => ?_) (fun hf => ?_)
  · exact ax_vreturn B hE d_V_countRound_83 hf hag (by decide) (by decide)
  · refine ax_iconst B (v := 0) (by decide) d_V_countRound_10 ?_
    refine ax_istore B (lv' := [(4, ax_I 0), (0, ax_O v0), (1, ax_O v1), (2, ax_I v2), (3, ax_I v3)]) d_V_countRound_11 (by rw [hn]; decide) rfl ?_
    refine ax_iconst B (v := 0) (by decide) d_V_countRound_13 ?_
    refine ax_istore B (lv' := [(5, ax_I 0), (4, ax_I 0), (0, ax_O v0), (1, ax_O v1), (2, ax_I v2), (3, ax_I v3)]) d_V_countRound_14 (by rw [hn]; decide) rfl ?_
    refine ax_sub [2, 3, 4, 5, 1, 0] rfl ?_
    exact L_V_countRound_16 B hn hR hE hag hr2 64 M v0 v1 v2 v3 0 0 hf
def F_V_countRound_2  : Nat → ax_M → Option Nat → Option Nat → Int32 → Int32 → Option (ax_M)
  | 0 => fun _ _ _ _ _ => none
  | n + 1 => G_V_countRound_2 (F_V_countRound_2  n)
set_option maxRecDepth 100000 in
set_option maxHeartbeats 4000000 in
theorem L_V_countRound_2 {Z : ax_Z} {ad0 ad : Nat → Nat} {q : ax_M} (B : ax_B Z "VoteAuctions" b_V_countRound none) (hn : Z.2.2.2.2.2.2.2.2.2.2.2.1 = 7) (hR : ax_R Z 3 0 0) (hE : ax_E Z ad0 [] 0 0 none q) (hag : ∀ a, a ∉ ([] : List Nat) → ad a = ad0 a)   : ∀ (n : Nat) (M : ax_M) (v0 : Option Nat) (v1 : Option Nat) (v2 : Int32) (v3 : Int32), F_V_countRound_2  n M v0 v1 v2 v3 = some q → ax_W Z ad 0 0 2 [(0, ax_O v0), (1, ax_O v1), (2, ax_I v2), (3, ax_I v3)] [] M := by
  intro n
  induction n with
  | zero => intro M v0 v1 v2 v3 hf; cases hf
  | succ n ih => exact K_V_countRound_2 B hn hR hE hag ih
def f_V_countRound (M : ax_M) (x0 : Option Nat) (p0 : Option Nat) (p1 : Int32) : Option (ax_M) := F_V_countRound_2 64 M x0 p0 p1 0
set_option maxRecDepth 100000 in
set_option maxHeartbeats 4000000 in
theorem c_V_countRound (l : Launch) (G : ax_G) (M : ax_M) (x0 : Option Nat) (p0 : Option Nat) (p1 : Int32) {q : ax_M} (hf : f_V_countRound M x0 p0 p1 = some q) : ax_C l G y_V_countRound b_V_countRound 7 none [] 3 0 0 [ax_O x0, ax_O p0, ax_I p1] M none q := by
  refine ax_ofW (by decide +kernel) (lv0 := [(0, ax_O x0), (1, ax_O p0), (2, ax_I p1)]) (Nat.le_of_ble_eq_true rfl) rfl ?_
  intro Z ad B hin _ _ hn hR hE
  have hag : ∀ a, a ∉ ([] : List Nat) → ad a = ad a := fun _ _ => rfl
  unfold f_V_countRound at hf
  refine ax_iconst B (v := 0) (by decide) d_V_countRound_0 ?_
  refine ax_istore_n B (lv' := [(3, ax_I 0), (0, ax_O x0), (1, ax_O p0), (2, ax_I p1)]) d_V_countRound_1 rfl (by rw [hn]; decide) rfl ?_
  refine ax_sub [1, 2, 3, 0] rfl ?_
  exact L_V_countRound_2 B hn hR hE hag 64 M x0 p0 p1 0 hf
def G_V_hasMoreThanHalf_56  (M : ax_M) (s0 : Int32) : Option (Int32 × ax_M) := (ax_bo s0).bind (fun _ => some (s0, M))
set_option maxRecDepth 100000 in
set_option maxHeartbeats 4000000 in
theorem K_V_hasMoreThanHalf_56 {Z : ax_Z} {ad0 ad : Nat → Nat} {q : Int32 × ax_M} (B : ax_B Z "VoteAuctions" b_V_hasMoreThanHalf (some .boolean)) (hn : Z.2.2.2.2.2.2.2.2.2.2.2.1 = 5) (hR : ax_R Z 1 0 0) (hE : ax_E Z ad0 [] 0 0 (some (ax_I q.1)) q.2) (hag : ∀ a, a ∉ ([] : List Nat) → ad a = ad0 a)   : ∀ (M : ax_M) (s0 : Int32), G_V_hasMoreThanHalf_56  M s0 = some q → ax_W Z ad 0 0 56 [] [ax_I s0] M := by
  intro M s0 hf
  unfold G_V_hasMoreThanHalf_56 at hf
  obtain ⟨_, hb, hf⟩ := ax_bd hf
  exact ax_ireturn B hE d_V_hasMoreThanHalf_56 hf (ax_bo_n hb) hag (by decide) (by decide)
def G_V_hasMoreThanHalf_7 (rec7 : ax_M → Option Nat → Option Nat → Int32 → Int32 → Int32 → Option (Int32 × ax_M)) (M : ax_M) (v0 : Option Nat) (v1 : Option Nat) (v2 : Int32) (v3 : Int32) (v4 : Int32) : Option (Int32 × ax_M) := (ax_gi M 1 1 v1).bind (fun x1 => if x1 ≤ v4 then if (2 * v2) ≤ v3 then G_V_hasMoreThanHalf_56 M 0 else G_V_hasMoreThanHalf_56 M 1 else (ax_gr M 0 12 v0).bind (fun x2 => (ax_ri M 0 x2 v4).bind (fun x3 => (some (if v2 < x3 then x3 else v2)).bind (fun y4 => (ax_gr M 0 12 v0).bind (fun x5 => (ax_ri M 0 x5 v4).bind (fun x6 => (some (v3 + x6)).bind (fun y7 => (some (v4 + 1)).bind (fun y8 => rec7 M v0 v1 y4 y7 y8))))))))
set_option maxRecDepth 100000 in
set_option maxHeartbeats 4000000 in
theorem K_V_hasMoreThanHalf_7 {Z : ax_Z} {ad0 ad : Nat → Nat} {q : Int32 × ax_M} (B : ax_B Z "VoteAuctions" b_V_hasMoreThanHalf (some .boolean)) (hn : Z.2.2.2.2.2.2.2.2.2.2.2.1 = 5) (hR : ax_R Z 1 0 0) (hE : ax_E Z ad0 [] 0 0 (some (ax_I q.1)) q.2) (hag : ∀ a, a ∉ ([] : List Nat) → ad a = ad0 a) {rec7 : ax_M → Option Nat → Option Nat → Int32 → Int32 → Int32 → Option (Int32 × ax_M)} (hr7 : ∀ (M : ax_M) (v0 : Option Nat) (v1 : Option Nat) (v2 : Int32) (v3 : Int32) (v4 : Int32), rec7 M v0 v1 v2 v3 v4 = some q → ax_W Z ad 0 0 7 [(0, ax_O v0), (1, ax_O v1), (2, ax_I v2), (3, ax_I v3), (4, ax_I v4)] [] M) : ∀ (M : ax_M) (v0 : Option Nat) (v1 : Option Nat) (v2 : Int32) (v3 : Int32) (v4 : Int32), G_V_hasMoreThanHalf_7 rec7 M v0 v1 v2 v3 v4 = some q → ax_W Z ad 0 0 7 [(0, ax_O v0), (1, ax_O v1), (2, ax_I v2), (3, ax_I v3), (4, ax_I v4)] [] M := by
  intro M v0 v1 v2 v3 v4 hf
  unfold G_V_hasMoreThanHalf_7 at hf
  refine ax_iload B (j := 4) d_V_hasMoreThanHalf_7 rfl ?_
  refine ax_aload_n B d_V_hasMoreThanHalf_9 rfl (j := 1) rfl ?_
  refine ax_getI B d_V_hasMoreThanHalf_10 k_V_133 rfl hf (fun x1 hf => ?_)
  refine ax_icmp_ge B (tgt := 44) d_V_hasMoreThanHalf_13 (by decide) hf (fun hf => ?_) (fun hf => ?_)
  · refine ax_iconst B (v := 2) (by decide) d_V_hasMoreThanHalf_44 ?_
    refine ax_iload_n B d_V_hasMoreThanHalf_45 rfl (j := 2) rfl ?_
    refine ax_imul B d_V_hasMoreThanHalf_46 ?_
    refine ax_iload_n B d_V_hasMoreThanHalf_47 rfl (j := 3) rfl ?_
    refine ax_icmp_le B (tgt := 55) d_V_hasMoreThanHalf_48 (by decide) hf (fun hf => ?_) (fun hf => ?_)
    · refine ax_iconst B (v := 0) (by decide) d_V_hasMoreThanHalf_55 ?_
      refine ax_sub [] rfl ?_
      exact K_V_hasMoreThanHalf_56 B hn hR hE hag M 0 hf
    · refine ax_iconst B (v := 1) (by decide) d_V_hasMoreThanHalf_51 ?_
      refine ax_goto B (tgt := 56) d_V_hasMoreThanHalf_52 (by decide) ?_
      refine ax_sub [] rfl ?_
      exact K_V_hasMoreThanHalf_56 B hn hR hE hag M 1 hf
  · refine ax_iload_n B d_V_hasMoreThanHalf_16 rfl (j := 2) rfl ?_
    refine ax_aload_n B d_V_hasMoreThanHalf_17 rfl (j := 0) rfl ?_
    refine ax_getR B d_V_hasMoreThanHalf_18 k_V_38 rfl hf (fun x2 hf => ?_)
    refine ax_iload B (j := 4) d_V_hasMoreThanHalf_21 rfl ?_
    refine ax_iald B d_V_hasMoreThanHalf_23 (t := 0) (by decide) rfl hf (fun x3 hf => ?_)
    refine ax_mmax B hR d_V_hasMoreThanHalf_24 l_V_271 (by decide) (by decide) (by decide) (Nat.le_of_ble_eq_true rfl) ?_
    refine ax_nmI hf (fun y4 hf => ?_)
    refine ax_istore_n B (lv' := [(2, ax_I y4), (0, ax_O v0), (1, ax_O v1), (3, ax_I v3), (4, ax_I v4)]) d_V_hasMoreThanHalf_27 rfl (by rw [hn]; decide) rfl ?_
    refine ax_iload_n B d_V_hasMoreThanHalf_28 rfl (j := 3) rfl ?_
    refine ax_aload_n B d_V_hasMoreThanHalf_29 rfl (j := 1) rfl ?_
    refine ax_getR B d_V_hasMoreThanHalf_30 k_V_38 rfl hf (fun x5 hf => ?_)
    refine ax_iload B (j := 4) d_V_hasMoreThanHalf_33 rfl ?_
    refine ax_iald B d_V_hasMoreThanHalf_35 (t := 0) (by decide) rfl hf (fun x6 hf => ?_)
    refine ax_iadd B d_V_hasMoreThanHalf_36 ?_
    refine ax_nmI hf (fun y7 hf => ?_)
    refine ax_istore_n B (lv' := [(3, ax_I y7), (2, ax_I y4), (0, ax_O v0), (1, ax_O v1), (4, ax_I v4)]) d_V_hasMoreThanHalf_37 rfl (by rw [hn]; decide) rfl ?_
    refine ax_iincN B (j := 4) (lv' := fun y => [(4, ax_I y), (3, ax_I y7), (2, ax_I y4), (0, ax_O v0), (1, ax_O v1)]) d_V_hasMoreThanHalf_38 rfl hf rfl (by rw [hn]; decide) (fun _ => rfl) (fun y8 hf => ?_)
    refine ax_goto B (tgt := 7) d_V_hasMoreThanHalf_41 (by decide) ?_
    refine ax_sub [3, 4, 2, 1, 0] rfl ?_
    exact hr7 M v0 v1 y4 y7 y8 hf
def F_V_hasMoreThanHalf_7  : Nat → ax_M → Option Nat → Option Nat → Int32 → Int32 → Int32 → Option (Int32 × ax_M)
  | 0 => fun _ _ _ _ _ _ => none
  | n + 1 => G_V_hasMoreThanHalf_7 (F_V_hasMoreThanHalf_7  n)
set_option maxRecDepth 100000 in
set_option maxHeartbeats 4000000 in
theorem L_V_hasMoreThanHalf_7 {Z : ax_Z} {ad0 ad : Nat → Nat} {q : Int32 × ax_M} (B : ax_B Z "VoteAuctions" b_V_hasMoreThanHalf (some .boolean)) (hn : Z.2.2.2.2.2.2.2.2.2.2.2.1 = 5) (hR : ax_R Z 1 0 0) (hE : ax_E Z ad0 [] 0 0 (some (ax_I q.1)) q.2) (hag : ∀ a, a ∉ ([] : List Nat) → ad a = ad0 a)   : ∀ (n : Nat) (M : ax_M) (v0 : Option Nat) (v1 : Option Nat) (v2 : Int32) (v3 : Int32) (v4 : Int32), F_V_hasMoreThanHalf_7  n M v0 v1 v2 v3 v4 = some q → ax_W Z ad 0 0 7 [(0, ax_O v0), (1, ax_O v1), (2, ax_I v2), (3, ax_I v3), (4, ax_I v4)] [] M := by
  intro n
  induction n with
  | zero => intro M v0 v1 v2 v3 v4 hf; cases hf
  | succ n ih => exact K_V_hasMoreThanHalf_7 B hn hR hE hag ih
def f_V_hasMoreThanHalf (M : ax_M) (x0 : Option Nat) (p0 : Option Nat) : Option (Int32 × ax_M) := F_V_hasMoreThanHalf_7 64 M x0 p0 0 0 0
set_option maxRecDepth 100000 in
set_option maxHeartbeats 4000000 in
theorem c_V_hasMoreThanHalf (l : Launch) (G : ax_G) (M : ax_M) (x0 : Option Nat) (p0 : Option Nat) {q : Int32 × ax_M} (hf : f_V_hasMoreThanHalf M x0 p0 = some q) : ax_C l G y_V_hasMoreThanHalf b_V_hasMoreThanHalf 5 (some .boolean) [] 1 0 0 [ax_O x0, ax_O p0] M (some (ax_I q.1)) q.2 := by
  refine ax_ofW (by decide +kernel) (lv0 := [(0, ax_O x0), (1, ax_O p0)]) (Nat.le_of_ble_eq_true rfl) rfl ?_
  intro Z ad B hin _ _ hn hR hE
  have hag : ∀ a, a ∉ ([] : List Nat) → ad a = ad a := fun _ _ => rfl
  unfold f_V_hasMoreThanHalf at hf
  refine ax_iconst B (v := 0) (by decide) d_V_hasMoreThanHalf_0 ?_
  refine ax_istore_n B (lv' := [(2, ax_I 0), (0, ax_O x0), (1, ax_O p0)]) d_V_hasMoreThanHalf_1 rfl (by rw [hn]; decide) rfl ?_
  refine ax_iconst B (v := 0) (by decide) d_V_hasMoreThanHalf_2 ?_
  refine ax_istore_n B (lv' := [(3, ax_I 0), (2, ax_I 0), (0, ax_O x0), (1, ax_O p0)]) d_V_hasMoreThanHalf_3 rfl (by rw [hn]; decide) rfl ?_
  refine ax_iconst B (v := 0) (by decide) d_V_hasMoreThanHalf_4 ?_
  refine ax_istore B (lv' := [(4, ax_I 0), (3, ax_I 0), (2, ax_I 0), (0, ax_O x0), (1, ax_O p0)]) d_V_hasMoreThanHalf_5 (by rw [hn]; decide) rfl ?_
  refine ax_sub [3, 4, 2, 1, 0] rfl ?_
  exact L_V_hasMoreThanHalf_7 B hn hR hE hag 64 M x0 p0 0 0 0 hf
def G_V_leastCounted_47 (rec5 : ax_M → Option Nat → Option Nat → Int32 → Int32 → Int32 → Option (Int32 × ax_M)) (M : ax_M) (v0 : Option Nat) (v1 : Option Nat) (v2 : Int32) (v3 : Int32) (v4 : Int32) : Option (Int32 × ax_M) := (some (v4 + 1)).bind (fun y1 => rec5 M v0 v1 v2 v3 y1)
set_option maxRecDepth 100000 in
set_option maxHeartbeats 4000000 in
theorem K_V_leastCounted_47 {Z : ax_Z} {ad0 ad : Nat → Nat} {q : Int32 × ax_M} (B : ax_B Z "VoteAuctions" b_V_leastCounted (some .int)) (hn : Z.2.2.2.2.2.2.2.2.2.2.2.1 = 5) (hR : ax_R Z 1 0 0) (hE : ax_E Z ad0 [] 0 0 (some (ax_I q.1)) q.2) (hag : ∀ a, a ∉ ([] : List Nat) → ad a = ad0 a) {rec5 : ax_M → Option Nat → Option Nat → Int32 → Int32 → Int32 → Option (Int32 × ax_M)} (hr5 : ∀ (M : ax_M) (v0 : Option Nat) (v1 : Option Nat) (v2 : Int32) (v3 : Int32) (v4 : Int32), rec5 M v0 v1 v2 v3 v4 = some q → ax_W Z ad 0 0 5 [(0, ax_O v0), (1, ax_O v1), (2, ax_I v2), (3, ax_I v3), (4, ax_I v4)] [] M) : ∀ (M : ax_M) (v0 : Option Nat) (v1 : Option Nat) (v2 : Int32) (v3 : Int32) (v4 : Int32), G_V_leastCounted_47 rec5 M v0 v1 v2 v3 v4 = some q → ax_W Z ad 0 0 47 [(0, ax_O v0), (1, ax_O v1), (2, ax_I v2), (3, ax_I v3), (4, ax_I v4)] [] M := by
  intro M v0 v1 v2 v3 v4 hf
  unfold G_V_leastCounted_47 at hf
  refine ax_iincN B (j := 4) (lv' := fun y => [(4, ax_I y), (0, ax_O v0), (1, ax_O v1), (2, ax_I v2), (3, ax_I v3)]) d_V_leastCounted_47 rfl hf rfl (by rw [hn]; decide) (fun _ => rfl) (fun y1 hf => ?_)
  refine ax_goto B (tgt := 5) d_V_leastCounted_50 (by decide) ?_
  refine ax_sub [1, 2, 3, 4, 0] rfl ?_
  exact hr5 M v0 v1 v2 v3 y1 hf
def G_V_leastCounted_44 (rec5 : ax_M → Option Nat → Option Nat → Int32 → Int32 → Int32 → Option (Int32 × ax_M)) (M : ax_M) (v0 : Option Nat) (v1 : Option Nat) (v2 : Int32) (v4 : Int32) : Option (Int32 × ax_M) := G_V_leastCounted_47 rec5 M v0 v1 v2 v4 v4
set_option maxRecDepth 100000 in
set_option maxHeartbeats 4000000 in
theorem K_V_leastCounted_44 {Z : ax_Z} {ad0 ad : Nat → Nat} {q : Int32 × ax_M} (B : ax_B Z "VoteAuctions" b_V_leastCounted (some .int)) (hn : Z.2.2.2.2.2.2.2.2.2.2.2.1 = 5) (hR : ax_R Z 1 0 0) (hE : ax_E Z ad0 [] 0 0 (some (ax_I q.1)) q.2) (hag : ∀ a, a ∉ ([] : List Nat) → ad a = ad0 a) {rec5 : ax_M → Option Nat → Option Nat → Int32 → Int32 → Int32 → Option (Int32 × ax_M)} (hr5 : ∀ (M : ax_M) (v0 : Option Nat) (v1 : Option Nat) (v2 : Int32) (v3 : Int32) (v4 : Int32), rec5 M v0 v1 v2 v3 v4 = some q → ax_W Z ad 0 0 5 [(0, ax_O v0), (1, ax_O v1), (2, ax_I v2), (3, ax_I v3), (4, ax_I v4)] [] M) : ∀ (M : ax_M) (v0 : Option Nat) (v1 : Option Nat) (v2 : Int32) (v4 : Int32), G_V_leastCounted_44 rec5 M v0 v1 v2 v4 = some q → ax_W Z ad 0 0 44 [(0, ax_O v0), (1, ax_O v1), (2, ax_I v2), (4, ax_I v4)] [] M := by
  intro M v0 v1 v2 v4 hf
  unfold G_V_leastCounted_44 at hf
  refine ax_iload B (j := 3) d_V_leastCounted_44 rfl ?_
  refine ax_istore_n B (lv' := [(3, ax_I v4), (0, ax_O v0), (1, ax_O v1), (2, ax_I v2), (4, ax_I v4)]) d_V_leastCounted_46 rfl (by rw [hn]; decide) rfl ?_
  refine ax_sub [1, 2, 3, 0, 4] rfl ?_
  exact K_V_leastCounted_47 B hn hR hE hag hr5 M v0 v1 v2 v4 v4 hf
def G_V_leastCounted_5 (rec5 : ax_M → Option Nat → Option Nat → Int32 → Int32 → Int32 → Option (Int32 × ax_M)) (M : ax_M) (v0 : Option Nat) (v1 : Option Nat) (v2 : Int32) (v3 : Int32) (v4 : Int32) : Option (Int32 × ax_M) := (ax_gi M 1 1 v1).bind (fun x1 => if x1 ≤ v4 then some (v3, M) else (f_V_hasChoice M v2 v4).bind (fun q2 => if q2.1 = 0 then G_V_leastCounted_47 rec5 q2.2 v0 v1 v2 v3 v4 else if v3 = (-1) then G_V_leastCounted_44 rec5 q2.2 v0 v1 v2 v4 else (ax_gr q2.2 0 12 v0).bind (fun x3 => (ax_ri q2.2 0 x3 v4).bind (fun x4 => (ax_gr q2.2 0 12 v0).bind (fun x5 => (ax_ri q2.2 0 x5 v3).bind (fun x6 => if x6 < x4 then G_V_leastCounted_47 rec5 q2.2 v0 v1 v2 v3 v4 else G_V_leastCounted_44 rec5 q2.2 v0 v1 v2 v4))))))
set_option maxRecDepth 100000 in
set_option maxHeartbeats 4000000 in
theorem K_V_leastCounted_5 {Z : ax_Z} {ad0 ad : Nat → Nat} {q : Int32 × ax_M} (B : ax_B Z "VoteAuctions" b_V_leastCounted (some .int)) (hn : Z.2.2.2.2.2.2.2.2.2.2.2.1 = 5) (hR : ax_R Z 1 0 0) (hE : ax_E Z ad0 [] 0 0 (some (ax_I q.1)) q.2) (hag : ∀ a, a ∉ ([] : List Nat) → ad a = ad0 a) {rec5 : ax_M → Option Nat → Option Nat → Int32 → Int32 → Int32 → Option (Int32 × ax_M)} (hr5 : ∀ (M : ax_M) (v0 : Option Nat) (v1 : Option Nat) (v2 : Int32) (v3 : Int32) (v4 : Int32), rec5 M v0 v1 v2 v3 v4 = some q → ax_W Z ad 0 0 5 [(0, ax_O v0), (1, ax_O v1), (2, ax_I v2), (3, ax_I v3), (4, ax_I v4)] [] M) : ∀ (M : ax_M) (v0 : Option Nat) (v1 : Option Nat) (v2 : Int32) (v3 : Int32) (v4 : Int32), G_V_leastCounted_5 rec5 M v0 v1 v2 v3 v4 = some q → ax_W Z ad 0 0 5 [(0, ax_O v0), (1, ax_O v1), (2, ax_I v2), (3, ax_I v3), (4, ax_I v4)] [] M := by
  intro M v0 v1 v2 v3 v4 hf
  unfold G_V_leastCounted_5 at hf
  refine ax_iload B (j := 4) d_V_leastCounted_5 rfl ?_
  refine ax_aload_n B d_V_leastCounted_7 rfl (j := 1) rfl ?_
  refine ax_getI B d_V_leastCounted_8 k_V_133 rfl hf (fun x1 hf => ?_)
  refine ax_icmp_ge B (tgt := 53) d_V_leastCounted_11 (by decide) hf (fun hf => ?_) (fun hf => ?_)
  · refine ax_iload_n B d_V_leastCounted_53 rfl (j := 3) rfl ?_
    exact ax_ireturn B hE d_V_leastCounted_54 hf rfl hag (by decide) (by decide)
  · refine ax_iload_n B d_V_leastCounted_14 rfl (j := 2) rfl ?_
    refine ax_iload B (j := 4) d_V_leastCounted_15 rfl ?_
    refine ax_cSV B hR (as := [ax_I v2, ax_I v4]) (V := fun q => ax_I q.1) (N := fun q => q.2) d_V_leastCounted_17 l_V_236 m_V_hasChoice hf (fun q h => c_V_hasChoice _ _ _ _ _ h) rfl rfl (by decide) (by decide) (by decide) (by decide) (Nat.le_of_ble_eq_true rfl) (fun q2 hf => ?_)
    refine ax_if_eq B (tgt := 47) d_V_leastCounted_20 (by decide) hf (fun hf => ?_) (fun hf => ?_)
    · exact K_V_leastCounted_47 B hn hR hE hag hr5 q2.2 v0 v1 v2 v3 v4 hf
    · refine ax_iload_n B d_V_leastCounted_23 rfl (j := 3) rfl ?_
      refine ax_iconst B (v := (-1)) (by decide) d_V_leastCounted_24 ?_
      refine ax_icmp_eq B (tgt := 44) d_V_leastCounted_25 (by decide) hf (fun hf => ?_) (fun hf => ?_)
      · refine ax_sub [0, 1, 2, 4] rfl ?_
        exact K_V_leastCounted_44 B hn hR hE hag hr5 q2.2 v0 v1 v2 v4 hf
      · refine ax_aload_n B d_V_leastCounted_28 rfl (j := 0) rfl ?_
        refine ax_getR B d_V_leastCounted_29 k_V_38 rfl hf (fun x3 hf => ?_)
        refine ax_iload B (j := 4) d_V_leastCounted_32 rfl ?_
        refine ax_iald B d_V_leastCounted_34 (t := 0) (by decide) rfl hf (fun x4 hf => ?_)
        refine ax_aload_n B d_V_leastCounted_35 rfl (j := 0) rfl ?_
        refine ax_getR B d_V_leastCounted_36 k_V_38 rfl hf (fun x5 hf => ?_)
        refine ax_iload_n B d_V_leastCounted_39 rfl (j := 3) rfl ?_
        refine ax_iald B d_V_leastCounted_40 (t := 0) (by decide) rfl hf (fun x6 hf => ?_)
        refine ax_icmp_gt B (tgt := 47) d_V_leastCounted_41 (by decide) hf (fun hf => ?_) (fun hf => ?_)
        · exact K_V_leastCounted_47 B hn hR hE hag hr5 q2.2 v0 v1 v2 v3 v4 hf
        · refine ax_sub [0, 1, 2, 4] rfl ?_
          exact K_V_leastCounted_44 B hn hR hE hag hr5 q2.2 v0 v1 v2 v4 hf
def F_V_leastCounted_5  : Nat → ax_M → Option Nat → Option Nat → Int32 → Int32 → Int32 → Option (Int32 × ax_M)
  | 0 => fun _ _ _ _ _ _ => none
  | n + 1 => G_V_leastCounted_5 (F_V_leastCounted_5  n)
set_option maxRecDepth 100000 in
set_option maxHeartbeats 4000000 in
theorem L_V_leastCounted_5 {Z : ax_Z} {ad0 ad : Nat → Nat} {q : Int32 × ax_M} (B : ax_B Z "VoteAuctions" b_V_leastCounted (some .int)) (hn : Z.2.2.2.2.2.2.2.2.2.2.2.1 = 5) (hR : ax_R Z 1 0 0) (hE : ax_E Z ad0 [] 0 0 (some (ax_I q.1)) q.2) (hag : ∀ a, a ∉ ([] : List Nat) → ad a = ad0 a)   : ∀ (n : Nat) (M : ax_M) (v0 : Option Nat) (v1 : Option Nat) (v2 : Int32) (v3 : Int32) (v4 : Int32), F_V_leastCounted_5  n M v0 v1 v2 v3 v4 = some q → ax_W Z ad 0 0 5 [(0, ax_O v0), (1, ax_O v1), (2, ax_I v2), (3, ax_I v3), (4, ax_I v4)] [] M := by
  intro n
  induction n with
  | zero => intro M v0 v1 v2 v3 v4 hf; cases hf
  | succ n ih => exact K_V_leastCounted_5 B hn hR hE hag ih
def f_V_leastCounted (M : ax_M) (x0 : Option Nat) (p0 : Option Nat) (p1 : Int32) : Option (Int32 × ax_M) := F_V_leastCounted_5 64 M x0 p0 p1 (-1) 0
set_option maxRecDepth 100000 in
set_option maxHeartbeats 4000000 in
theorem c_V_leastCounted (l : Launch) (G : ax_G) (M : ax_M) (x0 : Option Nat) (p0 : Option Nat) (p1 : Int32) {q : Int32 × ax_M} (hf : f_V_leastCounted M x0 p0 p1 = some q) : ax_C l G y_V_leastCounted b_V_leastCounted 5 (some .int) [] 1 0 0 [ax_O x0, ax_O p0, ax_I p1] M (some (ax_I q.1)) q.2 := by
  refine ax_ofW (by decide +kernel) (lv0 := [(0, ax_O x0), (1, ax_O p0), (2, ax_I p1)]) (Nat.le_of_ble_eq_true rfl) rfl ?_
  intro Z ad B hin _ _ hn hR hE
  have hag : ∀ a, a ∉ ([] : List Nat) → ad a = ad a := fun _ _ => rfl
  unfold f_V_leastCounted at hf
  refine ax_iconst B (v := (-1)) (by decide) d_V_leastCounted_0 ?_
  refine ax_istore_n B (lv' := [(3, ax_I (-1)), (0, ax_O x0), (1, ax_O p0), (2, ax_I p1)]) d_V_leastCounted_1 rfl (by rw [hn]; decide) rfl ?_
  refine ax_iconst B (v := 0) (by decide) d_V_leastCounted_2 ?_
  refine ax_istore B (lv' := [(4, ax_I 0), (3, ax_I (-1)), (0, ax_O x0), (1, ax_O p0), (2, ax_I p1)]) d_V_leastCounted_3 (by rw [hn]; decide) rfl ?_
  refine ax_sub [2, 3, 4, 1, 0] rfl ?_
  exact L_V_leastCounted_5 B hn hR hE hag 64 M x0 p0 p1 (-1) 0 hf
def G_V_countVotes_107  (M : ax_M)  : Option (ax_M) := some M
set_option maxRecDepth 100000 in
set_option maxHeartbeats 4000000 in
theorem K_V_countVotes_107 {Z : ax_Z} {ad0 ad : Nat → Nat} {q : ax_M} (B : ax_B Z "VoteAuctions" b_V_countVotes none) (hn : Z.2.2.2.2.2.2.2.2.2.2.2.1 = 6) (hR : ax_R Z 4 0 0) (hE : ax_E Z ad0 [] 0 0 none q) (hag : ∀ a, a ∉ ([] : List Nat) → ad a = ad0 a)   : ∀ (M : ax_M) , G_V_countVotes_107  M  = some q → ax_W Z ad 0 0 107 [] [] M := by
  intro M  hf
  unfold G_V_countVotes_107 at hf
  exact ax_vreturn B hE d_V_countVotes_107 hf hag (by decide) (by decide)
def G_V_countVotes_47 (rec47 : ax_M → Option Nat → Option Nat → Int32 → Int32 → Int32 → Option (ax_M)) (M : ax_M) (v0 : Option Nat) (v1 : Option Nat) (v2 : Int32) (v3 : Int32) (v4 : Int32) : Option (ax_M) := if v3 ≤ v4 then G_V_countVotes_107 M else (ax_ob M 0 v0).bind (fun _ => (f_V_hasMoreThanHalf M v0 v1).bind (fun q1 => if q1.1 = 0 then (ax_ob q1.2 0 v0).bind (fun _ => (f_V_leastCounted q1.2 v0 v1 v2).bind (fun q2 => (ax_gr q2.2 0 13 v0).bind (fun x3 => (ax_ti q2.2 0 x3 v4 q2.1).bind (fun M4 => (ax_pi M4 0 14 v0 (v4 + 1)).bind (fun M5 => (some (v2 &&& ((1 <<< (q2.1 &&& 31)) ^^^ (-1)))).bind (fun y6 => (ax_ob M5 0 v0).bind (fun _ => (f_V_countRound M5 v0 v1 y6).bind (fun q7 => (some (v4 + 1)).bind (fun y8 => rec47 q7 v0 v1 y6 v3 y8))))))))) else G_V_countVotes_107 q1.2))
set_option maxRecDepth 100000 in
set_option maxHeartbeats 4000000 in
theorem K_V_countVotes_47 {Z : ax_Z} {ad0 ad : Nat → Nat} {q : ax_M} (B : ax_B Z "VoteAuctions" b_V_countVotes none) (hn : Z.2.2.2.2.2.2.2.2.2.2.2.1 = 6) (hR : ax_R Z 4 0 0) (hE : ax_E Z ad0 [] 0 0 none q) (hag : ∀ a, a ∉ ([] : List Nat) → ad a = ad0 a) {rec47 : ax_M → Option Nat → Option Nat → Int32 → Int32 → Int32 → Option (ax_M)} (hr47 : ∀ (M : ax_M) (v0 : Option Nat) (v1 : Option Nat) (v2 : Int32) (v3 : Int32) (v4 : Int32), rec47 M v0 v1 v2 v3 v4 = some q → ax_W Z ad 0 0 47 [(0, ax_O v0), (1, ax_O v1), (2, ax_I v2), (3, ax_I v3), (4, ax_I v4)] [] M) : ∀ (M : ax_M) (v0 : Option Nat) (v1 : Option Nat) (v2 : Int32) (v3 : Int32) (v4 : Int32), G_V_countVotes_47 rec47 M v0 v1 v2 v3 v4 = some q → ax_W Z ad 0 0 47 [(0, ax_O v0), (1, ax_O v1), (2, ax_I v2), (3, ax_I v3), (4, ax_I v4)] [] M := by
  intro M v0 v1 v2 v3 v4 hf
  unfold G_V_countVotes_47 at hf
  refine ax_iload B (j := 4) d_V_countVotes_47 rfl ?_
  refine ax_iload_n B d_V_countVotes_49 rfl (j := 3) rfl ?_
  refine ax_icmp_ge B (tgt := 107) d_V_countVotes_50 (by decide) hf (fun hf => ?_) (fun hf => ?_)
  · refine ax_sub [] rfl ?_
    exact K_V_countVotes_107 B hn hR hE hag M hf
  · refine ax_aload_n B d_V_countVotes_53 rfl (j := 0) rfl ?_
    refine ax_aload_n B d_V_countVotes_54 rfl (j := 1) rfl ?_
    refine ax_cVV B hR (as := [ax_O v1]) (V := fun q => ax_I q.1) (N := fun q => q.2) d_V_countVotes_55 l_V_250 m_V_hasMoreThanHalf hf (fun q h => c_V_hasMoreThanHalf _ _ _ _ _ h) rfl rfl (by decide) (by decide) (by decide) (by decide) (Nat.le_of_ble_eq_true rfl) (fun q1 hf => ?_)
    refine ax_if_ne B (tgt := 107) d_V_countVotes_58 (by decide) hf (fun hf => ?_) (fun hf => ?_)
    · refine ax_aload_n B d_V_countVotes_61 rfl (j := 0) rfl ?_
      refine ax_aload_n B d_V_countVotes_62 rfl (j := 1) rfl ?_
      refine ax_iload_n B d_V_countVotes_63 rfl (j := 2) rfl ?_
      refine ax_cVV B hR (as := [ax_O v1, ax_I v2]) (V := fun q => ax_I q.1) (N := fun q => q.2) d_V_countVotes_64 l_V_253 m_V_leastCounted hf (fun q h => c_V_leastCounted _ _ _ _ _ _ h) rfl rfl (by decide) (by decide) (by decide) (by decide) (Nat.le_of_ble_eq_true rfl) (fun q2 hf => ?_)
      refine ax_istore B (lv' := [(5, ax_I q2.1), (0, ax_O v0), (1, ax_O v1), (2, ax_I v2), (3, ax_I v3), (4, ax_I v4)]) d_V_countVotes_67 (by rw [hn]; decide) rfl ?_
      refine ax_aload_n B d_V_countVotes_69 rfl (j := 1) rfl ?_
      refine ax_getR B d_V_countVotes_70 k_V_41 rfl hf (fun x3 hf => ?_)
      refine ax_iload B (j := 5) d_V_countVotes_73 rfl ?_
      refine ax_iload B (j := 0) d_V_countVotes_75 rfl ?_
      refine ax_iast B d_V_countVotes_77 (t := 0) (by decide) rfl hf (fun M4 hf => ?_)
      refine ax_aload_n B d_V_countVotes_78 rfl (j := 1) rfl ?_
      refine ax_iload B (j := 5) d_V_countVotes_79 rfl ?_
      refine ax_iconst B (v := 1) (by decide) d_V_countVotes_81 ?_
      refine ax_iadd B d_V_countVotes_82 ?_
      refine ax_putI B d_V_countVotes_83 k_V_143 rfl rfl rfl rfl hf (fun M5 hf => ?_)
      refine ax_iload_n B d_V_countVotes_86 rfl (j := 3) rfl ?_
      refine ax_iconst B (v := 1) (by decide) d_V_countVotes_87 ?_
      refine ax_iload B (j := 0) d_V_countVotes_88 rfl ?_
      refine ax_ishl B d_V_countVotes_90 ?_
      refine ax_iconst B (v := (-1)) (by decide) d_V_countVotes_91 ?_
      refine ax_ixor B d_V_countVotes_92 ?_
      refine ax_iand B d_V_countVotes_93 ?_
      refine ax_nmI hf (fun y6 hf => ?_)
      refine ax_istore_n B (lv' := [(2, ax_I y6), (5, ax_I q2.1), (0, ax_O v0), (1, ax_O v1), (3, ax_I v3), (4, ax_I v4)]) d_V_countVotes_94 rfl (by rw [hn]; decide) rfl ?_
      refine ax_aload_n B d_V_countVotes_95 rfl (j := 2) rfl ?_
      refine ax_aload_n B d_V_countVotes_96 rfl (j := 3) rfl ?_
      refine ax_iload_n B d_V_countVotes_97 rfl (j := 0) rfl ?_
      refine ax_cVN B hR (as := [ax_O v1, ax_I y6]) (N := fun q => q) d_V_countVotes_98 l_V_246 m_V_countRound hf (fun q h => c_V_countRound _ _ _ _ _ _ h) rfl rfl (by decide) (by decide) (by decide) (by decide) (Nat.le_of_ble_eq_true rfl) (fun q7 hf => ?_)
      refine ax_iincN B (j := 5) (lv' := fun y => [(4, ax_I y), (2, ax_I y6), (5, ax_I q2.1), (0, ax_O v0), (1, ax_O v1), (3, ax_I v3)]) d_V_countVotes_101 rfl hf rfl (by rw [hn]; decide) (fun _ => rfl) (fun y8 hf => ?_)
      refine ax_goto B (tgt := 47) d_V_countVotes_104 (by decide) ?_
      refine ax_sub [3, 4, 1, 5, 0] rfl ?_
      exact hr47 q7 v0 v1 y6 v3 y8 hf
    · refine ax_sub [] rfl ?_
      exact K_V_countVotes_107 B hn hR hE hag q1.2 hf
def F_V_countVotes_47  : Nat → ax_M → Option Nat → Option Nat → Int32 → Int32 → Int32 → Option (ax_M)
  | 0 => fun _ _ _ _ _ _ => none
  | n + 1 => G_V_countVotes_47 (F_V_countVotes_47  n)
set_option maxRecDepth 100000 in
set_option maxHeartbeats 4000000 in
theorem L_V_countVotes_47 {Z : ax_Z} {ad0 ad : Nat → Nat} {q : ax_M} (B : ax_B Z "VoteAuctions" b_V_countVotes none) (hn : Z.2.2.2.2.2.2.2.2.2.2.2.1 = 6) (hR : ax_R Z 4 0 0) (hE : ax_E Z ad0 [] 0 0 none q) (hag : ∀ a, a ∉ ([] : List Nat) → ad a = ad0 a)   : ∀ (n : Nat) (M : ax_M) (v0 : Option Nat) (v1 : Option Nat) (v2 : Int32) (v3 : Int32) (v4 : Int32), F_V_countVotes_47  n M v0 v1 v2 v3 v4 = some q → ax_W Z ad 0 0 47 [(0, ax_O v0), (1, ax_O v1), (2, ax_I v2), (3, ax_I v3), (4, ax_I v4)] [] M := by
  intro n
  induction n with
  | zero => intro M v0 v1 v2 v3 v4 hf; cases hf
  | succ n ih => exact K_V_countVotes_47 B hn hR hE hag ih
def G_V_countVotes_43  (M : ax_M) (v0 : Option Nat) (v1 : Option Nat) (v2 : Int32) (s0 : Int32) : Option (ax_M) := F_V_countVotes_47 64 M v0 v1 v2 s0 0
set_option maxRecDepth 100000 in
set_option maxHeartbeats 4000000 in
theorem K_V_countVotes_43 {Z : ax_Z} {ad0 ad : Nat → Nat} {q : ax_M} (B : ax_B Z "VoteAuctions" b_V_countVotes none) (hn : Z.2.2.2.2.2.2.2.2.2.2.2.1 = 6) (hR : ax_R Z 4 0 0) (hE : ax_E Z ad0 [] 0 0 none q) (hag : ∀ a, a ∉ ([] : List Nat) → ad a = ad0 a)   : ∀ (M : ax_M) (v0 : Option Nat) (v1 : Option Nat) (v2 : Int32) (s0 : Int32), G_V_countVotes_43  M v0 v1 v2 s0 = some q → ax_W Z ad 0 0 43 [(0, ax_O v0), (1, ax_O v1), (2, ax_I v2)] [ax_I s0] M := by
  intro M v0 v1 v2 s0 hf
  unfold G_V_countVotes_43 at hf
  refine ax_istore_n B (lv' := [(3, ax_I s0), (0, ax_O v0), (1, ax_O v1), (2, ax_I v2)]) d_V_countVotes_43 rfl (by rw [hn]; decide) rfl ?_
  refine ax_iconst B (v := 0) (by decide) d_V_countVotes_44 ?_
  refine ax_istore B (lv' := [(4, ax_I 0), (3, ax_I s0), (0, ax_O v0), (1, ax_O v1), (2, ax_I v2)]) d_V_countVotes_45 (by rw [hn]; decide) rfl ?_
  refine ax_sub [2, 3, 4, 1, 0] rfl ?_
  exact L_V_countVotes_47 B hn hR hE hag 64 M v0 v1 v2 s0 0 hf
def f_V_countVotes (M : ax_M) (x0 : Option Nat) (p0 : Option Nat) : Option (ax_M) := (ax_ob M 0 x0).bind (fun _ => (f_V_findVoices M x0 p0).bind (fun q1 => (ax_gi q1 1 1 p0).bind (fun x2 => (some ((1 <<< (x2 &&& 31)) - 1)).bind (fun y3 => (ax_ob q1 0 x0).bind (fun _ => (f_V_countRound q1 x0 p0 y3).bind (fun q4 => (ax_pi q4 0 14 x0 0).bind (fun M5 => (ax_gi M5 1 0 p0).bind (fun x6 => if x6 = 2 then (ax_gi M5 1 1 p0).bind (fun x7 => G_V_countVotes_43 M5 x0 p0 y3 (x7 - 1)) else G_V_countVotes_43 M5 x0 p0 y3 0))))))))
set_option maxRecDepth 100000 in
set_option maxHeartbeats 4000000 in
theorem c_V_countVotes (l : Launch) (G : ax_G) (M : ax_M) (x0 : Option Nat) (p0 : Option Nat) {q : ax_M} (hf : f_V_countVotes M x0 p0 = some q) : ax_C l G y_V_countVotes b_V_countVotes 6 none [] 4 0 0 [ax_O x0, ax_O p0] M none q := by
  refine ax_ofW (by decide +kernel) (lv0 := [(0, ax_O x0), (1, ax_O p0)]) (Nat.le_of_ble_eq_true rfl) rfl ?_
  intro Z ad B hin _ _ hn hR hE
  have hag : ∀ a, a ∉ ([] : List Nat) → ad a = ad a := fun _ _ => rfl
  unfold f_V_countVotes at hf
  refine ax_aload_n B d_V_countVotes_0 rfl (j := 0) rfl ?_
  refine ax_aload_n B d_V_countVotes_1 rfl (j := 1) rfl ?_
  refine ax_cVN B hR (as := [ax_O p0]) (N := fun q => q) d_V_countVotes_2 l_V_243 m_V_findVoices hf (fun q h => c_V_findVoices _ _ _ _ _ h) rfl rfl (by decide) (by decide) (by decide) (by decide) (Nat.le_of_ble_eq_true rfl) (fun q1 hf => ?_)
  refine ax_iconst B (v := 1) (by decide) d_V_countVotes_5 ?_
  refine ax_aload_n B d_V_countVotes_6 rfl (j := 1) rfl ?_
  refine ax_getI B d_V_countVotes_7 k_V_133 rfl hf (fun x2 hf => ?_)
  refine ax_ishl B d_V_countVotes_10 ?_
  refine ax_iconst B (v := 1) (by decide) d_V_countVotes_11 ?_
  refine ax_isub B d_V_countVotes_12 ?_
  refine ax_nmI hf (fun y3 hf => ?_)
  refine ax_istore_n B (lv' := [(2, ax_I y3), (0, ax_O x0), (1, ax_O p0)]) d_V_countVotes_13 rfl (by rw [hn]; decide) rfl ?_
  refine ax_aload_n B d_V_countVotes_14 rfl (j := 1) rfl ?_
  refine ax_aload_n B d_V_countVotes_15 rfl (j := 2) rfl ?_
  refine ax_iload_n B d_V_countVotes_16 rfl (j := 0) rfl ?_
  refine ax_cVN B hR (as := [ax_O p0, ax_I y3]) (N := fun q => q) d_V_countVotes_17 l_V_246 m_V_countRound hf (fun q h => c_V_countRound _ _ _ _ _ _ h) rfl rfl (by decide) (by decide) (by decide) (by decide) (Nat.le_of_ble_eq_true rfl) (fun q4 hf => ?_)
  refine ax_aload_n B d_V_countVotes_20 rfl (j := 1) rfl ?_
  refine ax_iconst B (v := 0) (by decide) d_V_countVotes_21 ?_
  refine ax_putI B d_V_countVotes_22 k_V_143 rfl rfl rfl rfl hf (fun M5 hf => ?_)
  refine ax_aload_n B d_V_countVotes_25 rfl (j := 2) rfl ?_
  refine ax_getI B d_V_countVotes_26 k_V_140 rfl hf (fun x6 hf => ?_)
  refine ax_iconst B (v := 2) (by decide) d_V_countVotes_29 ?_
  refine ax_icmp_ne B (tgt := 42) d_V_countVotes_30 (by decide) hf (fun hf => ?_) (fun hf => ?_)
  · refine ax_aload_n B d_V_countVotes_33 rfl (j := 2) rfl ?_
    refine ax_getI B d_V_countVotes_34 k_V_133 rfl hf (fun x7 hf => ?_)
    refine ax_iconst B (v := 1) (by decide) d_V_countVotes_37 ?_
    refine ax_isub B d_V_countVotes_38 ?_
    refine ax_goto B (tgt := 43) d_V_countVotes_39 (by decide) ?_
    refine ax_sub [1, 2, 0] rfl ?_
    exact K_V_countVotes_43 B hn hR hE hag M5 x0 p0 y3 (x7 - 1) hf
  · refine ax_iconst B (v := 0) (by decide) d_V_countVotes_42 ?_
    refine ax_sub [1, 2, 0] rfl ?_
    exact K_V_countVotes_43 B hn hR hE hag M5 x0 p0 y3 0 hf
