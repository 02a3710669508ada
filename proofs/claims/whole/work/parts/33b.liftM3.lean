def f_M_weightOf (M : ax_M) (x0 : Option Nat) (p0 : Int32) (p1 : Int32) : Option (Int32 × ax_M) := (ax_gr M 3 19 x0).bind (fun x1 => (ax_ri M 0 x1 ((8 * p0) + p1)).bind (fun x2 => some (x2, M)))
set_option maxRecDepth 100000 in
set_option maxHeartbeats 4000000 in
theorem c_M_weightOf (l : Launch) (G : ax_G) (M : ax_M) (x0 : Option Nat) (p0 : Int32) (p1 : Int32) {q : Int32 × ax_M} (hf : f_M_weightOf M x0 p0 p1 = some q) : ax_C l G y_M_weightOf b_M_weightOf 3 (some .int) [] 0 0 0 [ax_O x0, ax_I p0, ax_I p1] M (some (ax_I q.1)) q.2 := by
  refine ax_ofW (by decide +kernel) (lv0 := [(0, ax_O x0), (1, ax_I p0), (2, ax_I p1)]) (Nat.le_of_ble_eq_true rfl) rfl ?_
  intro Z ad B hin _ _ hn hR hE
  have hag : ∀ a, a ∉ ([] : List Nat) → ad a = ad a := fun _ _ => rfl
  unfold f_M_weightOf at hf
  refine ax_aload_n B d_M_weightOf_0 rfl (j := 0) rfl ?_
  refine ax_getR B d_M_weightOf_1 k_M_54 rfl hf (fun x1 hf => ?_)
  refine ax_bipush B (v := 8) (by decide) d_M_weightOf_4 ?_
  refine ax_iload_n B d_M_weightOf_6 rfl (j := 1) rfl ?_
  refine ax_imul B d_M_weightOf_7 ?_
  refine ax_iload_n B d_M_weightOf_8 rfl (j := 2) rfl ?_
  refine ax_iadd B d_M_weightOf_9 ?_
  refine ax_iald B d_M_weightOf_10 (t := 0) (by decide) rfl hf (fun x2 hf => ?_)
  exact ax_ireturn B hE d_M_weightOf_11 hf rfl hag (by decide) (by decide)
def G_M_rankOf_2 (rec2 : ax_M → Option Nat → Int32 → Option (Int32 × ax_M)) (M : ax_M) (v0 : Option Nat) (v2 : Int32) : Option (Int32 × ax_M) := if v2 ≤ 0 then some ((-1), M) else (ax_gr M 3 45 v0).bind (fun x1 => (ax_ri M 2 x1 ((v2 - v2 / 8 * 8) - 1)).bind (fun x2 => if x2 = 0 then (some (v2 / 8)).bind (fun y3 => rec2 M v0 y3) else some (((v2 - v2 / 8 * 8) - 1), M)))
set_option maxRecDepth 100000 in
set_option maxHeartbeats 4000000 in
theorem K_M_rankOf_2 {Z : ax_Z} {ad0 ad : Nat → Nat} {q : Int32 × ax_M} (B : ax_B Z "VoteAuctionsModel" b_M_rankOf (some .int)) (hn : Z.2.2.2.2.2.2.2.2.2.2.2.1 = 3) (hR : ax_R Z 0 0 0) (hE : ax_E Z ad0 [] 0 0 (some (ax_I q.1)) q.2) (hag : ∀ a, a ∉ ([] : List Nat) → ad a = ad0 a) {rec2 : ax_M → Option Nat → Int32 → Option (Int32 × ax_M)} (hr2 : ∀ (M : ax_M) (v0 : Option Nat) (v2 : Int32), rec2 M v0 v2 = some q → ax_W Z ad 0 0 2 [(0, ax_O v0), (2, ax_I v2)] [] M) : ∀ (M : ax_M) (v0 : Option Nat) (v2 : Int32), G_M_rankOf_2 rec2 M v0 v2 = some q → ax_W Z ad 0 0 2 [(0, ax_O v0), (2, ax_I v2)] [] M := by
  intro M v0 v2 hf
  unfold G_M_rankOf_2 at hf
  refine ax_iload_n B d_M_rankOf_2 rfl (j := 1) rfl ?_
  refine ax_if_le B (tgt := 35) d_M_rankOf_3 (by decide) hf (fun hf => ?_) (fun hf => ?_)
  · refine ax_iconst B (v := (-1)) (by decide) d_M_rankOf_35 ?_
    exact ax_ireturn B hE d_M_rankOf_36 hf rfl hag (by decide) (by decide)
  · refine ax_aload_n B d_M_rankOf_6 rfl (j := 0) rfl ?_
    refine ax_getR B d_M_rankOf_7 k_M_126 rfl hf (fun x1 hf => ?_)
    refine ax_iload_n B d_M_rankOf_10 rfl (j := 1) rfl ?_
    refine ax_bipush B (v := 8) (by decide) d_M_rankOf_11 ?_
    refine ax_irem B (by decide) d_M_rankOf_13 ?_
    refine ax_iconst B (v := 1) (by decide) d_M_rankOf_14 ?_
    refine ax_isub B d_M_rankOf_15 ?_
    refine ax_zald B d_M_rankOf_16 (t := 2) (by decide) rfl hf (fun x2 hf => ?_)
    refine ax_if_eq B (tgt := 27) d_M_rankOf_17 (by decide) hf (fun hf => ?_) (fun hf => ?_)
    · refine ax_iload_n B d_M_rankOf_27 rfl (j := 1) rfl ?_
      refine ax_bipush B (v := 8) (by decide) d_M_rankOf_28 ?_
      refine ax_idiv B (by decide) d_M_rankOf_30 ?_
      refine ax_nmI hf (fun y3 hf => ?_)
      refine ax_istore_n B (lv' := [(2, ax_I y3), (0, ax_O v0)]) d_M_rankOf_31 rfl (by rw [hn]; decide) rfl ?_
      refine ax_goto B (tgt := 2) d_M_rankOf_32 (by decide) ?_
      refine ax_sub [1, 0] rfl ?_
      exact hr2 M v0 y3 hf
    · refine ax_iload_n B d_M_rankOf_20 rfl (j := 1) rfl ?_
      refine ax_bipush B (v := 8) (by decide) d_M_rankOf_21 ?_
      refine ax_irem B (by decide) d_M_rankOf_23 ?_
      refine ax_iconst B (v := 1) (by decide) d_M_rankOf_24 ?_
      refine ax_isub B d_M_rankOf_25 ?_
      exact ax_ireturn B hE d_M_rankOf_26 hf rfl hag (by decide) (by decide)
def F_M_rankOf_2  : Nat → ax_M → Option Nat → Int32 → Option (Int32 × ax_M)
  | 0 => fun _ _ _ => none
  | n + 1 => G_M_rankOf_2 (F_M_rankOf_2  n)
set_option maxRecDepth 100000 in
set_option maxHeartbeats 4000000 in
theorem L_M_rankOf_2 {Z : ax_Z} {ad0 ad : Nat → Nat} {q : Int32 × ax_M} (B : ax_B Z "VoteAuctionsModel" b_M_rankOf (some .int)) (hn : Z.2.2.2.2.2.2.2.2.2.2.2.1 = 3) (hR : ax_R Z 0 0 0) (hE : ax_E Z ad0 [] 0 0 (some (ax_I q.1)) q.2) (hag : ∀ a, a ∉ ([] : List Nat) → ad a = ad0 a)   : ∀ (n : Nat) (M : ax_M) (v0 : Option Nat) (v2 : Int32), F_M_rankOf_2  n M v0 v2 = some q → ax_W Z ad 0 0 2 [(0, ax_O v0), (2, ax_I v2)] [] M := by
  intro n
  induction n with
  | zero => intro M v0 v2 hf; cases hf
  | succ n ih => exact K_M_rankOf_2 B hn hR hE hag ih
def f_M_rankOf (M : ax_M) (x0 : Option Nat) (p0 : Int32) : Option (Int32 × ax_M) := F_M_rankOf_2 64 M x0 p0
set_option maxRecDepth 100000 in
set_option maxHeartbeats 4000000 in
theorem c_M_rankOf (l : Launch) (G : ax_G) (M : ax_M) (x0 : Option Nat) (p0 : Int32) {q : Int32 × ax_M} (hf : f_M_rankOf M x0 p0 = some q) : ax_C l G y_M_rankOf b_M_rankOf 3 (some .int) [] 0 0 0 [ax_O x0, ax_I p0] M (some (ax_I q.1)) q.2 := by
  refine ax_ofW (by decide +kernel) (lv0 := [(0, ax_O x0), (1, ax_I p0)]) (Nat.le_of_ble_eq_true rfl) rfl ?_
  intro Z ad B hin _ _ hn hR hE
  have hag : ∀ a, a ∉ ([] : List Nat) → ad a = ad a := fun _ _ => rfl
  unfold f_M_rankOf at hf
  refine ax_iload_n B d_M_rankOf_0 rfl (j := 1) rfl ?_
  refine ax_istore_n B (lv' := [(2, ax_I p0), (0, ax_O x0), (1, ax_I p0)]) d_M_rankOf_1 rfl (by rw [hn]; decide) rfl ?_
  refine ax_sub [1, 0] rfl ?_
  exact L_M_rankOf_2 B hn hR hE hag 64 M x0 p0 hf
def G_M_runOff_329 (rec38 : ax_M → Option Nat → Int32 → Int32 → Int32 → Option (ax_M)) (M : ax_M) (v0 : Option Nat) (v1 : Int32) (v2 : Int32) (v3 : Int32) : Option (ax_M) := rec38 M v0 v1 v2 v3
set_option maxRecDepth 100000 in
set_option maxHeartbeats 4000000 in
theorem K_M_runOff_329 {Z : ax_Z} {ad0 ad : Nat → Nat} {q : ax_M} (B : ax_B Z "VoteAuctionsModel" b_M_runOff none) (hn : Z.2.2.2.2.2.2.2.2.2.2.2.1 = 7) (hR : ax_R Z 1 0 0) (hE : ax_E Z ad0 [] 0 0 none q) (hag : ∀ a, a ∉ ([] : List Nat) → ad a = ad0 a) {rec38 : ax_M → Option Nat → Int32 → Int32 → Int32 → Option (ax_M)} (hr38 : ∀ (M : ax_M) (v0 : Option Nat) (v1 : Int32) (v2 : Int32) (v3 : Int32), rec38 M v0 v1 v2 v3 = some q → ax_W Z ad 0 0 38 [(0, ax_O v0), (1, ax_I v1), (2, ax_I v2), (3, ax_I v3)] [] M) : ∀ (M : ax_M) (v0 : Option Nat) (v1 : Int32) (v2 : Int32) (v3 : Int32), G_M_runOff_329 rec38 M v0 v1 v2 v3 = some q → ax_W Z ad 0 0 329 [(0, ax_O v0), (1, ax_I v1), (2, ax_I v2), (3, ax_I v3)] [] M := by
  intro M v0 v1 v2 v3 hf
  unfold G_M_runOff_329 at hf
  refine ax_goto B (tgt := 38) d_M_runOff_329 (by decide) ?_
  exact hr38 M v0 v1 v2 v3 hf
def G_M_runOff_292 (rec38 : ax_M → Option Nat → Int32 → Int32 → Int32 → Option (ax_M)) (M : ax_M) (v0 : Option Nat) (v1 : Int32) (v2 : Int32) (v5 : Int32) (s0 : Int32) : Option (ax_M) := if s0 = 0 then (ax_gr M 3 45 v0).bind (fun x1 => (ax_ti M 2 x1 v5 0).bind (fun M2 => (ax_gr M2 3 46 v0).bind (fun x3 => (ax_gi M2 3 47 v0).bind (fun x4 => (ax_ti M2 0 x3 x4 v5).bind (fun M5 => (ax_gi M5 3 47 v0).bind (fun x6 => (ax_pi M5 3 47 v0 (x6 + 1)).bind (fun M7 => (some (v2 + (-1))).bind (fun y8 => G_M_runOff_329 rec38 M7 v0 v1 y8 s0)))))))) else G_M_runOff_329 rec38 M v0 v1 v2 s0
set_option maxRecDepth 100000 in
set_option maxHeartbeats 4000000 in
theorem K_M_runOff_292 {Z : ax_Z} {ad0 ad : Nat → Nat} {q : ax_M} (B : ax_B Z "VoteAuctionsModel" b_M_runOff none) (hn : Z.2.2.2.2.2.2.2.2.2.2.2.1 = 7) (hR : ax_R Z 1 0 0) (hE : ax_E Z ad0 [] 0 0 none q) (hag : ∀ a, a ∉ ([] : List Nat) → ad a = ad0 a) {rec38 : ax_M → Option Nat → Int32 → Int32 → Int32 → Option (ax_M)} (hr38 : ∀ (M : ax_M) (v0 : Option Nat) (v1 : Int32) (v2 : Int32) (v3 : Int32), rec38 M v0 v1 v2 v3 = some q → ax_W Z ad 0 0 38 [(0, ax_O v0), (1, ax_I v1), (2, ax_I v2), (3, ax_I v3)] [] M) : ∀ (M : ax_M) (v0 : Option Nat) (v1 : Int32) (v2 : Int32) (v5 : Int32) (s0 : Int32), G_M_runOff_292 rec38 M v0 v1 v2 v5 s0 = some q → ax_W Z ad 0 0 292 [(0, ax_O v0), (1, ax_I v1), (2, ax_I v2), (5, ax_I v5)] [ax_I s0] M := by
  intro M v0 v1 v2 v5 s0 hf
  unfold G_M_runOff_292 at hf
  refine ax_istore_n B (lv' := [(3, ax_I s0), (0, ax_O v0), (1, ax_I v1), (2, ax_I v2), (5, ax_I v5)]) d_M_runOff_292 rfl (by rw [hn]; decide) rfl ?_
  refine ax_iload_n B d_M_runOff_293 rfl (j := 0) rfl ?_
  refine ax_if_ne B (tgt := 329) d_M_runOff_294 (by decide) hf (fun hf => ?_) (fun hf => ?_)
  · refine ax_aload_n B d_M_runOff_297 rfl (j := 1) rfl ?_
    refine ax_getR B d_M_runOff_298 k_M_126 rfl hf (fun x1 hf => ?_)
    refine ax_iload B (j := 4) d_M_runOff_301 rfl ?_
    refine ax_iconst B (v := 0) (by decide) d_M_runOff_303 ?_
    refine ax_zast B d_M_runOff_304 (t := 2) (by decide) rfl (by decide) hf (fun M2 hf => ?_)
    refine ax_aload_n B d_M_runOff_305 rfl (j := 1) rfl ?_
    refine ax_getR B d_M_runOff_306 k_M_129 rfl hf (fun x3 hf => ?_)
    refine ax_aload_n B d_M_runOff_309 rfl (j := 1) rfl ?_
    refine ax_getI B d_M_runOff_310 k_M_200 rfl hf (fun x4 hf => ?_)
    refine ax_iload B (j := 4) d_M_runOff_313 rfl ?_
    refine ax_iast B d_M_runOff_315 (t := 0) (by decide) rfl hf (fun M5 hf => ?_)
    refine ax_aload_n B d_M_runOff_316 rfl (j := 1) rfl ?_
    refine ax_dup B rfl d_M_runOff_317 ?_
    refine ax_getI B d_M_runOff_318 k_M_200 rfl hf (fun x6 hf => ?_)
    refine ax_iconst B (v := 1) (by decide) d_M_runOff_321 ?_
    refine ax_iadd B d_M_runOff_322 ?_
    refine ax_putI B d_M_runOff_323 k_M_200 rfl rfl rfl rfl hf (fun M7 hf => ?_)
    refine ax_iincN B (j := 3) (lv' := fun y => [(2, ax_I y), (3, ax_I s0), (0, ax_O v0), (1, ax_I v1), (5, ax_I v5)]) d_M_runOff_326 rfl hf rfl (by rw [hn]; decide) (fun _ => rfl) (fun y8 hf => ?_)
    refine ax_sub [2, 3, 0, 1] rfl ?_
    exact K_M_runOff_329 B hn hR hE hag hr38 M7 v0 v1 y8 s0 hf
  · refine ax_sub [1, 2, 3, 0] rfl ?_
    exact K_M_runOff_329 B hn hR hE hag hr38 M v0 v1 v2 s0 hf
def G_M_runOff_287 (rec38 : ax_M → Option Nat → Int32 → Int32 → Int32 → Option (ax_M)) (M : ax_M) (v0 : Option Nat) (v1 : Int32) (v2 : Int32) (v5 : Int32) : Option (ax_M) := G_M_runOff_292 rec38 M v0 v1 v2 v5 1
set_option maxRecDepth 100000 in
set_option maxHeartbeats 4000000 in
theorem K_M_runOff_287 {Z : ax_Z} {ad0 ad : Nat → Nat} {q : ax_M} (B : ax_B Z "VoteAuctionsModel" b_M_runOff none) (hn : Z.2.2.2.2.2.2.2.2.2.2.2.1 = 7) (hR : ax_R Z 1 0 0) (hE : ax_E Z ad0 [] 0 0 none q) (hag : ∀ a, a ∉ ([] : List Nat) → ad a = ad0 a) {rec38 : ax_M → Option Nat → Int32 → Int32 → Int32 → Option (ax_M)} (hr38 : ∀ (M : ax_M) (v0 : Option Nat) (v1 : Int32) (v2 : Int32) (v3 : Int32), rec38 M v0 v1 v2 v3 = some q → ax_W Z ad 0 0 38 [(0, ax_O v0), (1, ax_I v1), (2, ax_I v2), (3, ax_I v3)] [] M) : ∀ (M : ax_M) (v0 : Option Nat) (v1 : Int32) (v2 : Int32) (v5 : Int32), G_M_runOff_287 rec38 M v0 v1 v2 v5 = some q → ax_W Z ad 0 0 287 [(0, ax_O v0), (1, ax_I v1), (2, ax_I v2), (5, ax_I v5)] [] M := by
  intro M v0 v1 v2 v5 hf
  unfold G_M_runOff_287 at hf
  refine ax_iconst B (v := 1) (by decide) d_M_runOff_287 ?_
  refine ax_goto B (tgt := 292) d_M_runOff_288 (by decide) ?_
  exact K_M_runOff_292 B hn hR hE hag hr38 M v0 v1 v2 v5 1 hf
def G_M_runOff_270 (rec38 : ax_M → Option Nat → Int32 → Int32 → Int32 → Option (ax_M)) (rec191 : ax_M → Option Nat → Int32 → Int32 → Int32 → Int32 → Int32 → Int32 → Option (ax_M)) (M : ax_M) (v0 : Option Nat) (v1 : Int32) (v2 : Int32) (v3 : Int32) (v4 : Int32) (v6 : Int32) (s0 : Int32) : Option (ax_M) := (some (v6 + 1)).bind (fun y1 => rec191 M v0 v1 v2 v3 v4 s0 y1)
set_option maxRecDepth 100000 in
set_option maxHeartbeats 4000000 in
theorem K_M_runOff_270 {Z : ax_Z} {ad0 ad : Nat → Nat} {q : ax_M} (B : ax_B Z "VoteAuctionsModel" b_M_runOff none) (hn : Z.2.2.2.2.2.2.2.2.2.2.2.1 = 7) (hR : ax_R Z 1 0 0) (hE : ax_E Z ad0 [] 0 0 none q) (hag : ∀ a, a ∉ ([] : List Nat) → ad a = ad0 a) {rec38 : ax_M → Option Nat → Int32 → Int32 → Int32 → Option (ax_M)} {rec191 : ax_M → Option Nat → Int32 → Int32 → Int32 → Int32 → Int32 → Int32 → Option (ax_M)} (hr38 : ∀ (M : ax_M) (v0 : Option Nat) (v1 : Int32) (v2 : Int32) (v3 : Int32), rec38 M v0 v1 v2 v3 = some q → ax_W Z ad 0 0 38 [(0, ax_O v0), (1, ax_I v1), (2, ax_I v2), (3, ax_I v3)] [] M) (hr191 : ∀ (M : ax_M) (v0 : Option Nat) (v1 : Int32) (v2 : Int32) (v3 : Int32) (v4 : Int32) (v5 : Int32) (v6 : Int32), rec191 M v0 v1 v2 v3 v4 v5 v6 = some q → ax_W Z ad 0 0 191 [(0, ax_O v0), (1, ax_I v1), (2, ax_I v2), (3, ax_I v3), (4, ax_I v4), (5, ax_I v5), (6, ax_I v6)] [] M) : ∀ (M : ax_M) (v0 : Option Nat) (v1 : Int32) (v2 : Int32) (v3 : Int32) (v4 : Int32) (v6 : Int32) (s0 : Int32), G_M_runOff_270 rec38 rec191 M v0 v1 v2 v3 v4 v6 s0 = some q → ax_W Z ad 0 0 270 [(0, ax_O v0), (1, ax_I v1), (2, ax_I v2), (3, ax_I v3), (4, ax_I v4), (6, ax_I v6)] [ax_I s0] M := by
  intro M v0 v1 v2 v3 v4 v6 s0 hf
  unfold G_M_runOff_270 at hf
  refine ax_istore B (lv' := [(5, ax_I s0), (0, ax_O v0), (1, ax_I v1), (2, ax_I v2), (3, ax_I v3), (4, ax_I v4), (6, ax_I v6)]) d_M_runOff_270 (by rw [hn]; decide) rfl ?_
  refine ax_iincN B (j := 6) (lv' := fun y => [(6, ax_I y), (5, ax_I s0), (0, ax_O v0), (1, ax_I v1), (2, ax_I v2), (3, ax_I v3), (4, ax_I v4)]) d_M_runOff_272 rfl hf rfl (by rw [hn]; decide) (fun _ => rfl) (fun y1 hf => ?_)
  refine ax_goto B (tgt := 191) d_M_runOff_275 (by decide) ?_
  refine ax_sub [2, 3, 4, 5, 6, 1, 0] rfl ?_
  exact hr191 M v0 v1 v2 v3 v4 s0 y1 hf
def G_M_runOff_268 (rec38 : ax_M → Option Nat → Int32 → Int32 → Int32 → Option (ax_M)) (rec191 : ax_M → Option Nat → Int32 → Int32 → Int32 → Int32 → Int32 → Int32 → Option (ax_M)) (M : ax_M) (v0 : Option Nat) (v1 : Int32) (v2 : Int32) (v3 : Int32) (v4 : Int32) (v5 : Int32) (v6 : Int32) : Option (ax_M) := G_M_runOff_270 rec38 rec191 M v0 v1 v2 v3 v4 v6 v5
set_option maxRecDepth 100000 in
set_option maxHeartbeats 4000000 in
theorem K_M_runOff_268 {Z : ax_Z} {ad0 ad : Nat → Nat} {q : ax_M} (B : ax_B Z "VoteAuctionsModel" b_M_runOff none) (hn : Z.2.2.2.2.2.2.2.2.2.2.2.1 = 7) (hR : ax_R Z 1 0 0) (hE : ax_E Z ad0 [] 0 0 none q) (hag : ∀ a, a ∉ ([] : List Nat) → ad a = ad0 a) {rec38 : ax_M → Option Nat → Int32 → Int32 → Int32 → Option (ax_M)} {rec191 : ax_M → Option Nat → Int32 → Int32 → Int32 → Int32 → Int32 → Int32 → Option (ax_M)} (hr38 : ∀ (M : ax_M) (v0 : Option Nat) (v1 : Int32) (v2 : Int32) (v3 : Int32), rec38 M v0 v1 v2 v3 = some q → ax_W Z ad 0 0 38 [(0, ax_O v0), (1, ax_I v1), (2, ax_I v2), (3, ax_I v3)] [] M) (hr191 : ∀ (M : ax_M) (v0 : Option Nat) (v1 : Int32) (v2 : Int32) (v3 : Int32) (v4 : Int32) (v5 : Int32) (v6 : Int32), rec191 M v0 v1 v2 v3 v4 v5 v6 = some q → ax_W Z ad 0 0 191 [(0, ax_O v0), (1, ax_I v1), (2, ax_I v2), (3, ax_I v3), (4, ax_I v4), (5, ax_I v5), (6, ax_I v6)] [] M) : ∀ (M : ax_M) (v0 : Option Nat) (v1 : Int32) (v2 : Int32) (v3 : Int32) (v4 : Int32) (v5 : Int32) (v6 : Int32), G_M_runOff_268 rec38 rec191 M v0 v1 v2 v3 v4 v5 v6 = some q → ax_W Z ad 0 0 268 [(0, ax_O v0), (1, ax_I v1), (2, ax_I v2), (3, ax_I v3), (4, ax_I v4), (5, ax_I v5), (6, ax_I v6)] [] M := by
  intro M v0 v1 v2 v3 v4 v5 v6 hf
  unfold G_M_runOff_268 at hf
  refine ax_iload B (j := 5) d_M_runOff_268 rfl ?_
  refine ax_sub [0, 1, 2, 3, 4, 6] rfl ?_
  exact K_M_runOff_270 B hn hR hE hag hr38 hr191 M v0 v1 v2 v3 v4 v6 v5 hf
def G_M_runOff_263 (rec38 : ax_M → Option Nat → Int32 → Int32 → Int32 → Option (ax_M)) (rec191 : ax_M → Option Nat → Int32 → Int32 → Int32 → Int32 → Int32 → Int32 → Option (ax_M)) (M : ax_M) (v0 : Option Nat) (v1 : Int32) (v2 : Int32) (v3 : Int32) (v4 : Int32) (v6 : Int32) : Option (ax_M) := G_M_runOff_270 rec38 rec191 M v0 v1 v2 v3 v4 v6 v6
set_option maxRecDepth 100000 in
set_option maxHeartbeats 4000000 in
theorem K_M_runOff_263 {Z : ax_Z} {ad0 ad : Nat → Nat} {q : ax_M} (B : ax_B Z "VoteAuctionsModel" b_M_runOff none) (hn : Z.2.2.2.2.2.2.2.2.2.2.2.1 = 7) (hR : ax_R Z 1 0 0) (hE : ax_E Z ad0 [] 0 0 none q) (hag : ∀ a, a ∉ ([] : List Nat) → ad a = ad0 a) {rec38 : ax_M → Option Nat → Int32 → Int32 → Int32 → Option (ax_M)} {rec191 : ax_M → Option Nat → Int32 → Int32 → Int32 → Int32 → Int32 → Int32 → Option (ax_M)} (hr38 : ∀ (M : ax_M) (v0 : Option Nat) (v1 : Int32) (v2 : Int32) (v3 : Int32), rec38 M v0 v1 v2 v3 = some q → ax_W Z ad 0 0 38 [(0, ax_O v0), (1, ax_I v1), (2, ax_I v2), (3, ax_I v3)] [] M) (hr191 : ∀ (M : ax_M) (v0 : Option Nat) (v1 : Int32) (v2 : Int32) (v3 : Int32) (v4 : Int32) (v5 : Int32) (v6 : Int32), rec191 M v0 v1 v2 v3 v4 v5 v6 = some q → ax_W Z ad 0 0 191 [(0, ax_O v0), (1, ax_I v1), (2, ax_I v2), (3, ax_I v3), (4, ax_I v4), (5, ax_I v5), (6, ax_I v6)] [] M) : ∀ (M : ax_M) (v0 : Option Nat) (v1 : Int32) (v2 : Int32) (v3 : Int32) (v4 : Int32) (v6 : Int32), G_M_runOff_263 rec38 rec191 M v0 v1 v2 v3 v4 v6 = some q → ax_W Z ad 0 0 263 [(0, ax_O v0), (1, ax_I v1), (2, ax_I v2), (3, ax_I v3), (4, ax_I v4), (6, ax_I v6)] [] M := by
  intro M v0 v1 v2 v3 v4 v6 hf
  unfold G_M_runOff_263 at hf
  refine ax_iload B (j := 5) d_M_runOff_263 rfl ?_
  refine ax_goto B (tgt := 270) d_M_runOff_265 (by decide) ?_
  exact K_M_runOff_270 B hn hR hE hag hr38 hr191 M v0 v1 v2 v3 v4 v6 v6 hf
def G_M_runOff_230 (rec38 : ax_M → Option Nat → Int32 → Int32 → Int32 → Option (ax_M)) (rec191 : ax_M → Option Nat → Int32 → Int32 → Int32 → Int32 → Int32 → Int32 → Option (ax_M)) (M : ax_M) (v0 : Option Nat) (v1 : Int32) (v2 : Int32) (v4 : Int32) (v5 : Int32) (v6 : Int32) (s0 : Int32) : Option (ax_M) := (ax_gr M 3 45 v0).bind (fun x1 => (ax_ri M 2 x1 v6).bind (fun x2 => if x2 = 0 then G_M_runOff_268 rec38 rec191 M v0 v1 v2 s0 v4 v5 v6 else if v5 < 0 then G_M_runOff_263 rec38 rec191 M v0 v1 v2 s0 v4 v6 else (ax_gr M 3 44 v0).bind (fun x3 => (ax_ri M 0 x3 v6).bind (fun x4 => (ax_gr M 3 44 v0).bind (fun x5 => (ax_ri M 0 x5 v5).bind (fun x6 => if x6 < x4 then G_M_runOff_268 rec38 rec191 M v0 v1 v2 s0 v4 v5 v6 else G_M_runOff_263 rec38 rec191 M v0 v1 v2 s0 v4 v6))))))
set_option maxRecDepth 100000 in
set_option maxHeartbeats 4000000 in
theorem K_M_runOff_230 {Z : ax_Z} {ad0 ad : Nat → Nat} {q : ax_M} (B : ax_B Z "VoteAuctionsModel" b_M_runOff none) (hn : Z.2.2.2.2.2.2.2.2.2.2.2.1 = 7) (hR : ax_R Z 1 0 0) (hE : ax_E Z ad0 [] 0 0 none q) (hag : ∀ a, a ∉ ([] : List Nat) → ad a = ad0 a) {rec38 : ax_M → Option Nat → Int32 → Int32 → Int32 → Option (ax_M)} {rec191 : ax_M → Option Nat → Int32 → Int32 → Int32 → Int32 → Int32 → Int32 → Option (ax_M)} (hr38 : ∀ (M : ax_M) (v0 : Option Nat) (v1 : Int32) (v2 : Int32) (v3 : Int32), rec38 M v0 v1 v2 v3 = some q → ax_W Z ad 0 0 38 [(0, ax_O v0), (1, ax_I v1), (2, ax_I v2), (3, ax_I v3)] [] M) (hr191 : ∀ (M : ax_M) (v0 : Option Nat) (v1 : Int32) (v2 : Int32) (v3 : Int32) (v4 : Int32) (v5 : Int32) (v6 : Int32), rec191 M v0 v1 v2 v3 v4 v5 v6 = some q → ax_W Z ad 0 0 191 [(0, ax_O v0), (1, ax_I v1), (2, ax_I v2), (3, ax_I v3), (4, ax_I v4), (5, ax_I v5), (6, ax_I v6)] [] M) : ∀ (M : ax_M) (v0 : Option Nat) (v1 : Int32) (v2 : Int32) (v4 : Int32) (v5 : Int32) (v6 : Int32) (s0 : Int32), G_M_runOff_230 rec38 rec191 M v0 v1 v2 v4 v5 v6 s0 = some q → ax_W Z ad 0 0 230 [(0, ax_O v0), (1, ax_I v1), (2, ax_I v2), (4, ax_I v4), (5, ax_I v5), (6, ax_I v6)] [ax_I s0] M := by
  intro M v0 v1 v2 v4 v5 v6 s0 hf
  unfold G_M_runOff_230 at hf
  refine ax_istore_n B (lv' := [(3, ax_I s0), (0, ax_O v0), (1, ax_I v1), (2, ax_I v2), (4, ax_I v4), (5, ax_I v5), (6, ax_I v6)]) d_M_runOff_230 rfl (by rw [hn]; decide) rfl ?_
  refine ax_aload_n B d_M_runOff_231 rfl (j := 1) rfl ?_
  refine ax_getR B d_M_runOff_232 k_M_126 rfl hf (fun x1 hf => ?_)
  refine ax_iload B (j := 6) d_M_runOff_235 rfl ?_
  refine ax_zald B d_M_runOff_237 (t := 2) (by decide) rfl hf (fun x2 hf => ?_)
  refine ax_if_eq B (tgt := 268) d_M_runOff_238 (by decide) hf (fun hf => ?_) (fun hf => ?_)
  · refine ax_sub [1, 2, 3, 0, 4, 5, 6] rfl ?_
    exact K_M_runOff_268 B hn hR hE hag hr38 hr191 M v0 v1 v2 s0 v4 v5 v6 hf
  · refine ax_iload B (j := 5) d_M_runOff_241 rfl ?_
    refine ax_if_lt B (tgt := 263) d_M_runOff_243 (by decide) hf (fun hf => ?_) (fun hf => ?_)
    · refine ax_sub [1, 2, 3, 0, 4, 6] rfl ?_
      exact K_M_runOff_263 B hn hR hE hag hr38 hr191 M v0 v1 v2 s0 v4 v6 hf
    · refine ax_aload_n B d_M_runOff_246 rfl (j := 1) rfl ?_
      refine ax_getR B d_M_runOff_247 k_M_123 rfl hf (fun x3 hf => ?_)
      refine ax_iload B (j := 6) d_M_runOff_250 rfl ?_
      refine ax_iald B d_M_runOff_252 (t := 0) (by decide) rfl hf (fun x4 hf => ?_)
      refine ax_aload_n B d_M_runOff_253 rfl (j := 1) rfl ?_
      refine ax_getR B d_M_runOff_254 k_M_123 rfl hf (fun x5 hf => ?_)
      refine ax_iload B (j := 5) d_M_runOff_257 rfl ?_
      refine ax_iald B d_M_runOff_259 (t := 0) (by decide) rfl hf (fun x6 hf => ?_)
      refine ax_icmp_gt B (tgt := 268) d_M_runOff_260 (by decide) hf (fun hf => ?_) (fun hf => ?_)
      · refine ax_sub [1, 2, 3, 0, 4, 5, 6] rfl ?_
        exact K_M_runOff_268 B hn hR hE hag hr38 hr191 M v0 v1 v2 s0 v4 v5 v6 hf
      · refine ax_sub [1, 2, 3, 0, 4, 6] rfl ?_
        exact K_M_runOff_263 B hn hR hE hag hr38 hr191 M v0 v1 v2 s0 v4 v6 hf
def G_M_runOff_225 (rec38 : ax_M → Option Nat → Int32 → Int32 → Int32 → Option (ax_M)) (rec191 : ax_M → Option Nat → Int32 → Int32 → Int32 → Int32 → Int32 → Int32 → Option (ax_M)) (M : ax_M) (v0 : Option Nat) (v1 : Int32) (v2 : Int32) (v4 : Int32) (v5 : Int32) (v6 : Int32) : Option (ax_M) := G_M_runOff_230 rec38 rec191 M v0 v1 v2 v4 v5 v6 1
set_option maxRecDepth 100000 in
set_option maxHeartbeats 4000000 in
theorem K_M_runOff_225 {Z : ax_Z} {ad0 ad : Nat → Nat} {q : ax_M} (B : ax_B Z "VoteAuctionsModel" b_M_runOff none) (hn : Z.2.2.2.2.2.2.2.2.2.2.2.1 = 7) (hR : ax_R Z 1 0 0) (hE : ax_E Z ad0 [] 0 0 none q) (hag : ∀ a, a ∉ ([] : List Nat) → ad a = ad0 a) {rec38 : ax_M → Option Nat → Int32 → Int32 → Int32 → Option (ax_M)} {rec191 : ax_M → Option Nat → Int32 → Int32 → Int32 → Int32 → Int32 → Int32 → Option (ax_M)} (hr38 : ∀ (M : ax_M) (v0 : Option Nat) (v1 : Int32) (v2 : Int32) (v3 : Int32), rec38 M v0 v1 v2 v3 = some q → ax_W Z ad 0 0 38 [(0, ax_O v0), (1, ax_I v1), (2, ax_I v2), (3, ax_I v3)] [] M) (hr191 : ∀ (M : ax_M) (v0 : Option Nat) (v1 : Int32) (v2 : Int32) (v3 : Int32) (v4 : Int32) (v5 : Int32) (v6 : Int32), rec191 M v0 v1 v2 v3 v4 v5 v6 = some q → ax_W Z ad 0 0 191 [(0, ax_O v0), (1, ax_I v1), (2, ax_I v2), (3, ax_I v3), (4, ax_I v4), (5, ax_I v5), (6, ax_I v6)] [] M) : ∀ (M : ax_M) (v0 : Option Nat) (v1 : Int32) (v2 : Int32) (v4 : Int32) (v5 : Int32) (v6 : Int32), G_M_runOff_225 rec38 rec191 M v0 v1 v2 v4 v5 v6 = some q → ax_W Z ad 0 0 225 [(0, ax_O v0), (1, ax_I v1), (2, ax_I v2), (4, ax_I v4), (5, ax_I v5), (6, ax_I v6)] [] M := by
  intro M v0 v1 v2 v4 v5 v6 hf
  unfold G_M_runOff_225 at hf
  refine ax_iconst B (v := 1) (by decide) d_M_runOff_225 ?_
  refine ax_goto B (tgt := 230) d_M_runOff_226 (by decide) ?_
  exact K_M_runOff_230 B hn hR hE hag hr38 hr191 M v0 v1 v2 v4 v5 v6 1 hf
def G_M_runOff_229 (rec38 : ax_M → Option Nat → Int32 → Int32 → Int32 → Option (ax_M)) (rec191 : ax_M → Option Nat → Int32 → Int32 → Int32 → Int32 → Int32 → Int32 → Option (ax_M)) (M : ax_M) (v0 : Option Nat) (v1 : Int32) (v2 : Int32) (v4 : Int32) (v5 : Int32) (v6 : Int32) : Option (ax_M) := G_M_runOff_230 rec38 rec191 M v0 v1 v2 v4 v5 v6 0
set_option maxRecDepth 100000 in
set_option maxHeartbeats 4000000 in
theorem K_M_runOff_229 {Z : ax_Z} {ad0 ad : Nat → Nat} {q : ax_M} (B : ax_B Z "VoteAuctionsModel" b_M_runOff none) (hn : Z.2.2.2.2.2.2.2.2.2.2.2.1 = 7) (hR : ax_R Z 1 0 0) (hE : ax_E Z ad0 [] 0 0 none q) (hag : ∀ a, a ∉ ([] : List Nat) → ad a = ad0 a) {rec38 : ax_M → Option Nat → Int32 → Int32 → Int32 → Option (ax_M)} {rec191 : ax_M → Option Nat → Int32 → Int32 → Int32 → Int32 → Int32 → Int32 → Option (ax_M)} (hr38 : ∀ (M : ax_M) (v0 : Option Nat) (v1 : Int32) (v2 : Int32) (v3 : Int32), rec38 M v0 v1 v2 v3 = some q → ax_W Z ad 0 0 38 [(0, ax_O v0), (1, ax_I v1), (2, ax_I v2), (3, ax_I v3)] [] M) (hr191 : ∀ (M : ax_M) (v0 : Option Nat) (v1 : Int32) (v2 : Int32) (v3 : Int32) (v4 : Int32) (v5 : Int32) (v6 : Int32), rec191 M v0 v1 v2 v3 v4 v5 v6 = some q → ax_W Z ad 0 0 191 [(0, ax_O v0), (1, ax_I v1), (2, ax_I v2), (3, ax_I v3), (4, ax_I v4), (5, ax_I v5), (6, ax_I v6)] [] M) : ∀ (M : ax_M) (v0 : Option Nat) (v1 : Int32) (v2 : Int32) (v4 : Int32) (v5 : Int32) (v6 : Int32), G_M_runOff_229 rec38 rec191 M v0 v1 v2 v4 v5 v6 = some q → ax_W Z ad 0 0 229 [(0, ax_O v0), (1, ax_I v1), (2, ax_I v2), (4, ax_I v4), (5, ax_I v5), (6, ax_I v6)] [] M := by
  intro M v0 v1 v2 v4 v5 v6 hf
  unfold G_M_runOff_229 at hf
  refine ax_iconst B (v := 0) (by decide) d_M_runOff_229 ?_
  exact K_M_runOff_230 B hn hR hE hag hr38 hr191 M v0 v1 v2 v4 v5 v6 0 hf
def G_M_runOff_191 (rec38 : ax_M → Option Nat → Int32 → Int32 → Int32 → Option (ax_M)) (rec191 : ax_M → Option Nat → Int32 → Int32 → Int32 → Int32 → Int32 → Int32 → Option (ax_M)) (M : ax_M) (v0 : Option Nat) (v1 : Int32) (v2 : Int32) (v3 : Int32) (v4 : Int32) (v5 : Int32) (v6 : Int32) : Option (ax_M) := if 4 ≤ v6 then if v3 = 0 then if v2 = 1 then G_M_runOff_287 rec38 M v0 v1 v2 v5 else G_M_runOff_292 rec38 M v0 v1 v2 v5 0 else G_M_runOff_287 rec38 M v0 v1 v2 v5 else if v3 = 0 then (ax_gr M 3 45 v0).bind (fun x1 => (ax_ri M 2 x1 v6).bind (fun x2 => if x2 = 0 then G_M_runOff_229 rec38 rec191 M v0 v1 v2 v4 v5 v6 else (ax_gr M 3 44 v0).bind (fun x3 => (ax_ri M 0 x3 v6).bind (fun x4 => if (2 * x4) ≤ v4 then G_M_runOff_229 rec38 rec191 M v0 v1 v2 v4 v5 v6 else G_M_runOff_225 rec38 rec191 M v0 v1 v2 v4 v5 v6)))) else G_M_runOff_225 rec38 rec191 M v0 v1 v2 v4 v5 v6
set_option maxRecDepth 100000 in
set_option maxHeartbeats 4000000 in
theorem K_M_runOff_191 {Z : ax_Z} {ad0 ad : Nat → Nat} {q : ax_M} (B : ax_B Z "VoteAuctionsModel" b_M_runOff none) (hn : Z.2.2.2.2.2.2.2.2.2.2.2.1 = 7) (hR : ax_R Z 1 0 0) (hE : ax_E Z ad0 [] 0 0 none q) (hag : ∀ a, a ∉ ([] : List Nat) → ad a = ad0 a) {rec38 : ax_M → Option Nat → Int32 → Int32 → Int32 → Option (ax_M)} {rec191 : ax_M → Option Nat → Int32 → Int32 → Int32 → Int32 → Int32 → Int32 → Option (ax_M)} (hr38 : ∀ (M : ax_M) (v0 : Option Nat) (v1 : Int32) (v2 : Int32) (v3 : Int32), rec38 M v0 v1 v2 v3 = some q → ax_W Z ad 0 0 38 [(0, ax_O v0), (1, ax_I v1), (2, ax_I v2), (3, ax_I v3)] [] M) (hr191 : ∀ (M : ax_M) (v0 : Option Nat) (v1 : Int32) (v2 : Int32) (v3 : Int32) (v4 : Int32) (v5 : Int32) (v6 : Int32), rec191 M v0 v1 v2 v3 v4 v5 v6 = some q → ax_W Z ad 0 0 191 [(0, ax_O v0), (1, ax_I v1), (2, ax_I v2), (3, ax_I v3), (4, ax_I v4), (5, ax_I v5), (6, ax_I v6)] [] M) : ∀ (M : ax_M) (v0 : Option Nat) (v1 : Int32) (v2 : Int32) (v3 : Int32) (v4 : Int32) (v5 : Int32) (v6 : Int32), G_M_runOff_191 rec38 rec191 M v0 v1 v2 v3 v4 v5 v6 = some q → ax_W Z ad 0 0 191 [(0, ax_O v0), (1, ax_I v1), (2, ax_I v2), (3, ax_I v3), (4, ax_I v4), (5, ax_I v5), (6, ax_I v6)] [] M := by
  intro M v0 v1 v2 v3 v4 v5 v6 hf
  unfold G_M_runOff_191 at hf
  refine ax_iload B (j := 6) d_M_runOff_191 rfl ?_
  refine ax_iconst B (v := 4) (by decide) d_M_runOff_193 ?_
  refine ax_icmp_ge B (tgt := 278) d_M_runOff_194 (by decide) hf (fun hf => ?_) (fun hf => ?_)
  · refine ax_iload_n B d_M_runOff_278 rfl (j := 3) rfl ?_
    refine ax_if_ne B (tgt := 287) d_M_runOff_279 (by decide) hf (fun hf => ?_) (fun hf => ?_)
    · refine ax_iload_n B d_M_runOff_282 rfl (j := 2) rfl ?_
      refine ax_iconst B (v := 1) (by decide) d_M_runOff_283 ?_
      refine ax_icmp_ne B (tgt := 291) d_M_runOff_284 (by decide) hf (fun hf => ?_) (fun hf => ?_)
      · refine ax_sub [0, 1, 2, 5] rfl ?_
        exact K_M_runOff_287 B hn hR hE hag hr38 M v0 v1 v2 v5 hf
      · refine ax_iconst B (v := 0) (by decide) d_M_runOff_291 ?_
        refine ax_sub [0, 1, 2, 5] rfl ?_
        exact K_M_runOff_292 B hn hR hE hag hr38 M v0 v1 v2 v5 0 hf
    · refine ax_sub [0, 1, 2, 5] rfl ?_
      exact K_M_runOff_287 B hn hR hE hag hr38 M v0 v1 v2 v5 hf
  · refine ax_iload_n B d_M_runOff_197 rfl (j := 3) rfl ?_
    refine ax_if_ne B (tgt := 225) d_M_runOff_198 (by decide) hf (fun hf => ?_) (fun hf => ?_)
    · refine ax_aload_n B d_M_runOff_201 rfl (j := 0) rfl ?_
      refine ax_getR B d_M_runOff_202 k_M_126 rfl hf (fun x1 hf => ?_)
      refine ax_iload B (j := 6) d_M_runOff_205 rfl ?_
      refine ax_zald B d_M_runOff_207 (t := 2) (by decide) rfl hf (fun x2 hf => ?_)
      refine ax_if_eq B (tgt := 229) d_M_runOff_208 (by decide) hf (fun hf => ?_) (fun hf => ?_)
      · refine ax_sub [0, 1, 2, 4, 5, 6] rfl ?_
        exact K_M_runOff_229 B hn hR hE hag hr38 hr191 M v0 v1 v2 v4 v5 v6 hf
      · refine ax_iconst B (v := 2) (by decide) d_M_runOff_211 ?_
        refine ax_aload_n B d_M_runOff_212 rfl (j := 0) rfl ?_
        refine ax_getR B d_M_runOff_213 k_M_123 rfl hf (fun x3 hf => ?_)
        refine ax_iload B (j := 6) d_M_runOff_216 rfl ?_
        refine ax_iald B d_M_runOff_218 (t := 0) (by decide) rfl hf (fun x4 hf => ?_)
        refine ax_imul B d_M_runOff_219 ?_
        refine ax_iload B (j := 4) d_M_runOff_220 rfl ?_
        refine ax_icmp_le B (tgt := 229) d_M_runOff_222 (by decide) hf (fun hf => ?_) (fun hf => ?_)
        · refine ax_sub [0, 1, 2, 4, 5, 6] rfl ?_
          exact K_M_runOff_229 B hn hR hE hag hr38 hr191 M v0 v1 v2 v4 v5 v6 hf
        · refine ax_sub [0, 1, 2, 4, 5, 6] rfl ?_
          exact K_M_runOff_225 B hn hR hE hag hr38 hr191 M v0 v1 v2 v4 v5 v6 hf
    · refine ax_sub [0, 1, 2, 4, 5, 6] rfl ?_
      exact K_M_runOff_225 B hn hR hE hag hr38 hr191 M v0 v1 v2 v4 v5 v6 hf
def F_M_runOff_191 (rec38 : ax_M → Option Nat → Int32 → Int32 → Int32 → Option (ax_M)) : Nat → ax_M → Option Nat → Int32 → Int32 → Int32 → Int32 → Int32 → Int32 → Option (ax_M)
  | 0 => fun _ _ _ _ _ _ _ _ => none
  | n + 1 => G_M_runOff_191 rec38 (F_M_runOff_191 rec38 n)
set_option maxRecDepth 100000 in
set_option maxHeartbeats 4000000 in
theorem L_M_runOff_191 {Z : ax_Z} {ad0 ad : Nat → Nat} {q : ax_M} (B : ax_B Z "VoteAuctionsModel" b_M_runOff none) (hn : Z.2.2.2.2.2.2.2.2.2.2.2.1 = 7) (hR : ax_R Z 1 0 0) (hE : ax_E Z ad0 [] 0 0 none q) (hag : ∀ a, a ∉ ([] : List Nat) → ad a = ad0 a) {rec38 : ax_M → Option Nat → Int32 → Int32 → Int32 → Option (ax_M)} (hr38 : ∀ (M : ax_M) (v0 : Option Nat) (v1 : Int32) (v2 : Int32) (v3 : Int32), rec38 M v0 v1 v2 v3 = some q → ax_W Z ad 0 0 38 [(0, ax_O v0), (1, ax_I v1), (2, ax_I v2), (3, ax_I v3)] [] M) : ∀ (n : Nat) (M : ax_M) (v0 : Option Nat) (v1 : Int32) (v2 : Int32) (v3 : Int32) (v4 : Int32) (v5 : Int32) (v6 : Int32), F_M_runOff_191 rec38 n M v0 v1 v2 v3 v4 v5 v6 = some q → ax_W Z ad 0 0 191 [(0, ax_O v0), (1, ax_I v1), (2, ax_I v2), (3, ax_I v3), (4, ax_I v4), (5, ax_I v5), (6, ax_I v6)] [] M := by
  intro n
  induction n with
  | zero => intro M v0 v1 v2 v3 v4 v5 v6 hf; cases hf
  | succ n ih => exact K_M_runOff_191 B hn hR hE hag hr38 ih
def G_M_runOff_182 (rec38 : ax_M → Option Nat → Int32 → Int32 → Int32 → Option (ax_M)) (M : ax_M) (v0 : Option Nat) (v1 : Int32) (v2 : Int32) (v3 : Int32) (v4 : Int32) (s0 : Int32) (s1 : Option Nat) : Option (ax_M) := (ax_bo s0).bind (fun _ => (ax_pi M 3 49 s1 s0).bind (fun M1 => F_M_runOff_191 rec38 64 M1 v0 v1 v2 v3 v4 (-1) 0))
set_option maxRecDepth 100000 in
set_option maxHeartbeats 4000000 in
theorem K_M_runOff_182 {Z : ax_Z} {ad0 ad : Nat → Nat} {q : ax_M} (B : ax_B Z "VoteAuctionsModel" b_M_runOff none) (hn : Z.2.2.2.2.2.2.2.2.2.2.2.1 = 7) (hR : ax_R Z 1 0 0) (hE : ax_E Z ad0 [] 0 0 none q) (hag : ∀ a, a ∉ ([] : List Nat) → ad a = ad0 a) {rec38 : ax_M → Option Nat → Int32 → Int32 → Int32 → Option (ax_M)} (hr38 : ∀ (M : ax_M) (v0 : Option Nat) (v1 : Int32) (v2 : Int32) (v3 : Int32), rec38 M v0 v1 v2 v3 = some q → ax_W Z ad 0 0 38 [(0, ax_O v0), (1, ax_I v1), (2, ax_I v2), (3, ax_I v3)] [] M) : ∀ (M : ax_M) (v0 : Option Nat) (v1 : Int32) (v2 : Int32) (v3 : Int32) (v4 : Int32) (s0 : Int32) (s1 : Option Nat), G_M_runOff_182 rec38 M v0 v1 v2 v3 v4 s0 s1 = some q → ax_W Z ad 0 0 182 [(0, ax_O v0), (1, ax_I v1), (2, ax_I v2), (3, ax_I v3), (4, ax_I v4)] [ax_I s0, ax_O s1] M := by
  intro M v0 v1 v2 v3 v4 s0 s1 hf
  unfold G_M_runOff_182 at hf
  obtain ⟨_, hb, hf⟩ := ax_bd hf
  refine ax_putI B d_M_runOff_182 k_M_209 rfl rfl (ax_bo_n hb) (ax_bo_f hb) hf (fun M1 hf => ?_)
  refine ax_iconst B (v := (-1)) (by decide) d_M_runOff_185 ?_
  refine ax_istore B (lv' := [(5, ax_I (-1)), (0, ax_O v0), (1, ax_I v1), (2, ax_I v2), (3, ax_I v3), (4, ax_I v4)]) d_M_runOff_186 (by rw [hn]; decide) rfl ?_
  refine ax_iconst B (v := 0) (by decide) d_M_runOff_188 ?_
  refine ax_istore B (lv' := [(6, ax_I 0), (5, ax_I (-1)), (0, ax_O v0), (1, ax_I v1), (2, ax_I v2), (3, ax_I v3), (4, ax_I v4)]) d_M_runOff_189 (by rw [hn]; decide) rfl ?_
  refine ax_sub [2, 3, 4, 5, 6, 1, 0] rfl ?_
  exact L_M_runOff_191 B hn hR hE hag hr38 64 M1 v0 v1 v2 v3 v4 (-1) 0 hf
def G_M_runOff_151 (rec38 : ax_M → Option Nat → Int32 → Int32 → Int32 → Option (ax_M)) (rec71 : ax_M → Option Nat → Int32 → Int32 → Int32 → Int32 → Int32 → Option (ax_M)) (M : ax_M) (v0 : Option Nat) (v1 : Int32) (v2 : Int32) (v3 : Int32) (v4 : Int32) (v5 : Int32) : Option (ax_M) := (some (v5 + 1)).bind (fun y1 => rec71 M v0 v1 v2 v3 v4 y1)
set_option maxRecDepth 100000 in
set_option maxHeartbeats 4000000 in
theorem K_M_runOff_151 {Z : ax_Z} {ad0 ad : Nat → Nat} {q : ax_M} (B : ax_B Z "VoteAuctionsModel" b_M_runOff none) (hn : Z.2.2.2.2.2.2.2.2.2.2.2.1 = 7) (hR : ax_R Z 1 0 0) (hE : ax_E Z ad0 [] 0 0 none q) (hag : ∀ a, a ∉ ([] : List Nat) → ad a = ad0 a) {rec38 : ax_M → Option Nat → Int32 → Int32 → Int32 → Option (ax_M)} {rec71 : ax_M → Option Nat → Int32 → Int32 → Int32 → Int32 → Int32 → Option (ax_M)} (hr38 : ∀ (M : ax_M) (v0 : Option Nat) (v1 : Int32) (v2 : Int32) (v3 : Int32), rec38 M v0 v1 v2 v3 = some q → ax_W Z ad 0 0 38 [(0, ax_O v0), (1, ax_I v1), (2, ax_I v2), (3, ax_I v3)] [] M) (hr71 : ∀ (M : ax_M) (v0 : Option Nat) (v1 : Int32) (v2 : Int32) (v3 : Int32) (v4 : Int32) (v5 : Int32), rec71 M v0 v1 v2 v3 v4 v5 = some q → ax_W Z ad 0 0 71 [(0, ax_O v0), (1, ax_I v1), (2, ax_I v2), (3, ax_I v3), (4, ax_I v4), (5, ax_I v5)] [] M) : ∀ (M : ax_M) (v0 : Option Nat) (v1 : Int32) (v2 : Int32) (v3 : Int32) (v4 : Int32) (v5 : Int32), G_M_runOff_151 rec38 rec71 M v0 v1 v2 v3 v4 v5 = some q → ax_W Z ad 0 0 151 [(0, ax_O v0), (1, ax_I v1), (2, ax_I v2), (3, ax_I v3), (4, ax_I v4), (5, ax_I v5)] [] M := by
  intro M v0 v1 v2 v3 v4 v5 hf
  unfold G_M_runOff_151 at hf
  refine ax_iincN B (j := 5) (lv' := fun y => [(5, ax_I y), (0, ax_O v0), (1, ax_I v1), (2, ax_I v2), (3, ax_I v3), (4, ax_I v4)]) d_M_runOff_151 rfl hf rfl (by rw [hn]; decide) (fun _ => rfl) (fun y1 hf => ?_)
  refine ax_goto B (tgt := 71) d_M_runOff_154 (by decide) ?_
  refine ax_sub [1, 2, 3, 4, 5, 0] rfl ?_
  exact hr71 M v0 v1 v2 v3 v4 y1 hf
def G_M_runOff_115 (rec38 : ax_M → Option Nat → Int32 → Int32 → Int32 → Option (ax_M)) (rec71 : ax_M → Option Nat → Int32 → Int32 → Int32 → Int32 → Int32 → Option (ax_M)) (M : ax_M) (v0 : Option Nat) (v1 : Int32) (v2 : Int32) (v3 : Int32) (v4 : Int32) (v5 : Int32) (s0 : Int32) : Option (ax_M) := if s0 < 0 then G_M_runOff_151 rec38 rec71 M v0 v1 v2 v3 v4 v5 else (ax_gr M 3 44 v0).bind (fun x1 => (ax_ri M 0 x1 s0).bind (fun x2 => (ax_ob M 3 v0).bind (fun _ => (f_M_weightOf M v0 v1 v5).bind (fun q3 => (ax_ti q3.2 0 x1 s0 (x2 + q3.1)).bind (fun M4 => (ax_ob M4 3 v0).bind (fun _ => (f_M_weightOf M4 v0 v1 v5).bind (fun q5 => (some (v4 + q5.1)).bind (fun y6 => G_M_runOff_151 rec38 rec71 q5.2 v0 v1 v2 v3 y6 v5))))))))
set_option maxRecDepth 100000 in
set_option maxHeartbeats 4000000 in
theorem K_M_runOff_115 {Z : ax_Z} {ad0 ad : Nat → Nat} {q : ax_M} (B : ax_B Z "VoteAuctionsModel" b_M_runOff none) (hn : Z.2.2.2.2.2.2.2.2.2.2.2.1 = 7) (hR : ax_R Z 1 0 0) (hE : ax_E Z ad0 [] 0 0 none q) (hag : ∀ a, a ∉ ([] : List Nat) → ad a = ad0 a) {rec38 : ax_M → Option Nat → Int32 → Int32 → Int32 → Option (ax_M)} {rec71 : ax_M → Option Nat → Int32 → Int32 → Int32 → Int32 → Int32 → Option (ax_M)} (hr38 : ∀ (M : ax_M) (v0 : Option Nat) (v1 : Int32) (v2 : Int32) (v3 : Int32), rec38 M v0 v1 v2 v3 = some q → ax_W Z ad 0 0 38 [(0, ax_O v0), (1, ax_I v1), (2, ax_I v2), (3, ax_I v3)] [] M) (hr71 : ∀ (M : ax_M) (v0 : Option Nat) (v1 : Int32) (v2 : Int32) (v3 : Int32) (v4 : Int32) (v5 : Int32), rec71 M v0 v1 v2 v3 v4 v5 = some q → ax_W Z ad 0 0 71 [(0, ax_O v0), (1, ax_I v1), (2, ax_I v2), (3, ax_I v3), (4, ax_I v4), (5, ax_I v5)] [] M) : ∀ (M : ax_M) (v0 : Option Nat) (v1 : Int32) (v2 : Int32) (v3 : Int32) (v4 : Int32) (v5 : Int32) (s0 : Int32), G_M_runOff_115 rec38 rec71 M v0 v1 v2 v3 v4 v5 s0 = some q → ax_W Z ad 0 0 115 [(0, ax_O v0), (1, ax_I v1), (2, ax_I v2), (3, ax_I v3), (4, ax_I v4), (5, ax_I v5)] [ax_I s0] M := by
  intro M v0 v1 v2 v3 v4 v5 s0 hf
  unfold G_M_runOff_115 at hf
  refine ax_istore B (lv' := [(6, ax_I s0), (0, ax_O v0), (1, ax_I v1), (2, ax_I v2), (3, ax_I v3), (4, ax_I v4), (5, ax_I v5)]) d_M_runOff_115 (by rw [hn]; decide) rfl ?_
  refine ax_iload B (j := 0) d_M_runOff_117 rfl ?_
  refine ax_if_lt B (tgt := 151) d_M_runOff_119 (by decide) hf (fun hf => ?_) (fun hf => ?_)
  · refine ax_sub [1, 2, 3, 4, 5, 6] rfl ?_
    exact K_M_runOff_151 B hn hR hE hag hr38 hr71 M v0 v1 v2 v3 v4 v5 hf
  · refine ax_aload_n B d_M_runOff_122 rfl (j := 1) rfl ?_
    refine ax_getR B d_M_runOff_123 k_M_123 rfl hf (fun x1 hf => ?_)
    refine ax_iload B (j := 0) d_M_runOff_126 rfl ?_
    refine ax_dup2_11 B rfl rfl d_M_runOff_128 ?_
    refine ax_iald B d_M_runOff_129 (t := 0) (by decide) rfl hf (fun x2 hf => ?_)
    refine ax_aload_n B d_M_runOff_130 rfl (j := 1) rfl ?_
    refine ax_iload_n B d_M_runOff_131 rfl (j := 2) rfl ?_
    refine ax_iload B (j := 6) d_M_runOff_132 rfl ?_
    refine ax_cVV B hR (as := [ax_I v1, ax_I v5]) (V := fun q => ax_I q.1) (N := fun q => q.2) d_M_runOff_134 l_M_203 m_M_weightOf hf (fun q h => c_M_weightOf _ _ _ _ _ _ h) rfl rfl (by decide) (by decide) (by decide) (by decide) (Nat.le_of_ble_eq_true rfl) (fun q3 hf => ?_)
    refine ax_iadd B d_M_runOff_137 ?_
    refine ax_iast B d_M_runOff_138 (t := 0) (by decide) rfl hf (fun M4 hf => ?_)
    refine ax_iload B (j := 5) d_M_runOff_139 rfl ?_
    refine ax_aload_n B d_M_runOff_141 rfl (j := 1) rfl ?_
    refine ax_iload_n B d_M_runOff_142 rfl (j := 2) rfl ?_
    refine ax_iload B (j := 6) d_M_runOff_143 rfl ?_
    refine ax_cVV B hR (as := [ax_I v1, ax_I v5]) (V := fun q => ax_I q.1) (N := fun q => q.2) d_M_runOff_145 l_M_203 m_M_weightOf hf (fun q h => c_M_weightOf _ _ _ _ _ _ h) rfl rfl (by decide) (by decide) (by decide) (by decide) (Nat.le_of_ble_eq_true rfl) (fun q5 hf => ?_)
    refine ax_iadd B d_M_runOff_148 ?_
    refine ax_nmI hf (fun y6 hf => ?_)
    refine ax_istore B (lv' := [(4, ax_I y6), (6, ax_I s0), (0, ax_O v0), (1, ax_I v1), (2, ax_I v2), (3, ax_I v3), (5, ax_I v5)]) d_M_runOff_149 (by rw [hn]; decide) rfl ?_
    refine ax_sub [2, 3, 4, 5, 0, 6] rfl ?_
    exact K_M_runOff_151 B hn hR hE hag hr38 hr71 q5.2 v0 v1 v2 v3 y6 v5 hf
def G_M_runOff_71 (rec38 : ax_M → Option Nat → Int32 → Int32 → Int32 → Option (ax_M)) (rec71 : ax_M → Option Nat → Int32 → Int32 → Int32 → Int32 → Int32 → Option (ax_M)) (M : ax_M) (v0 : Option Nat) (v1 : Int32) (v2 : Int32) (v3 : Int32) (v4 : Int32) (v5 : Int32) : Option (ax_M) := (ax_gi M 3 3 v0).bind (fun x1 => if x1 ≤ v5 then (ax_gi M 3 47 v0).bind (fun x2 => if x2 = 0 then if v4 ≤ 0 then G_M_runOff_182 rec38 M v0 v1 v2 v3 v4 0 v0 else G_M_runOff_182 rec38 M v0 v1 v2 v3 v4 1 v0 else (ax_gi M 3 49 v0).bind (fun x3 => G_M_runOff_182 rec38 M v0 v1 v2 v3 v4 x3 v0)) else (ax_gr M 3 42 v0).bind (fun x4 => (ax_ri M 0 x4 v5).bind (fun x5 => if 0 ≤ x5 then (ax_gr M 3 21 v0).bind (fun x6 => (ax_gr M 3 42 v0).bind (fun x7 => (ax_ri M 0 x7 v5).bind (fun x8 => (ax_ri M 0 x6 ((8 * v1) + x8)).bind (fun x9 => (ax_ob M 3 v0).bind (fun _ => (f_M_rankOf M v0 x9).bind (fun q10 => G_M_runOff_115 rec38 rec71 q10.2 v0 v1 v2 v3 v4 v5 q10.1)))))) else G_M_runOff_115 rec38 rec71 M v0 v1 v2 v3 v4 v5 (-1))))
set_option maxRecDepth 100000 in
set_option maxHeartbeats 4000000 in
theorem K_M_runOff_71 {Z : ax_Z} {ad0 ad : Nat → Nat} {q : ax_M} (B : ax_B Z "VoteAuctionsModel" b_M_runOff none) (hn : Z.2.2.2.2.2.2.2.2.2.2.2.1 = 7) (hR : ax_R Z 1 0 0) (hE : ax_E Z ad0 [] 0 0 none q) (hag : ∀ a, a ∉ ([] : List Nat) → ad a = ad0 a) {rec38 : ax_M → Option Nat → Int32 → Int32 → Int32 → Option (ax_M)} {rec71 : ax_M → Option Nat → Int32 → Int32 → Int32 → Int32 → Int32 → Option (ax_M)} (hr38 : ∀ (M : ax_M) (v0 : Option Nat) (v1 : Int32) (v2 : Int32) (v3 : Int32), rec38 M v0 v1 v2 v3 = some q → ax_W Z ad 0 0 38 [(0, ax_O v0), (1, ax_I v1), (2, ax_I v2), (3, ax_I v3)] [] M) (hr71 : ∀ (M : ax_M) (v0 : Option Nat) (v1 : Int32) (v2 : Int32) (v3 : Int32) (v4 : Int32) (v5 : Int32), rec71 M v0 v1 v2 v3 v4 v5 = some q → ax_W Z ad 0 0 71 [(0, ax_O v0), (1, ax_I v1), (2, ax_I v2), (3, ax_I v3), (4, ax_I v4), (5, ax_I v5)] [] M) : ∀ (M : ax_M) (v0 : Option Nat) (v1 : Int32) (v2 : Int32) (v3 : Int32) (v4 : Int32) (v5 : Int32), G_M_runOff_71 rec38 rec71 M v0 v1 v2 v3 v4 v5 = some q → ax_W Z ad 0 0 71 [(0, ax_O v0), (1, ax_I v1), (2, ax_I v2), (3, ax_I v3), (4, ax_I v4), (5, ax_I v5)] [] M := by
  intro M v0 v1 v2 v3 v4 v5 hf
  unfold G_M_runOff_71 at hf
  refine ax_iload B (j := 5) d_M_runOff_71 rfl ?_
  refine ax_aload_n B d_M_runOff_73 rfl (j := 0) rfl ?_
  refine ax_getI B d_M_runOff_74 k_M_136 rfl hf (fun x1 hf => ?_)
  refine ax_icmp_ge B (tgt := 157) d_M_runOff_77 (by decide) hf (fun hf => ?_) (fun hf => ?_)
  · refine ax_aload_n B d_M_runOff_157 rfl (j := 0) rfl ?_
    refine ax_aload_n B d_M_runOff_158 rfl (j := 0) rfl ?_
    refine ax_getI B d_M_runOff_159 k_M_200 rfl hf (fun x2 hf => ?_)
    refine ax_if_ne B (tgt := 178) d_M_runOff_162 (by decide) hf (fun hf => ?_) (fun hf => ?_)
    · refine ax_iload B (j := 4) d_M_runOff_165 rfl ?_
      refine ax_if_le B (tgt := 174) d_M_runOff_167 (by decide) hf (fun hf => ?_) (fun hf => ?_)
      · refine ax_iconst B (v := 0) (by decide) d_M_runOff_174 ?_
        refine ax_goto B (tgt := 182) d_M_runOff_175 (by decide) ?_
        refine ax_sub [0, 1, 2, 3, 4] rfl ?_
        exact K_M_runOff_182 B hn hR hE hag hr38 M v0 v1 v2 v3 v4 0 v0 hf
      · refine ax_iconst B (v := 1) (by decide) d_M_runOff_170 ?_
        refine ax_goto B (tgt := 182) d_M_runOff_171 (by decide) ?_
        refine ax_sub [0, 1, 2, 3, 4] rfl ?_
        exact K_M_runOff_182 B hn hR hE hag hr38 M v0 v1 v2 v3 v4 1 v0 hf
    · refine ax_aload_n B d_M_runOff_178 rfl (j := 0) rfl ?_
      refine ax_getI B d_M_runOff_179 k_M_209 rfl hf (fun x3 hf => ?_)
      refine ax_sub [0, 1, 2, 3, 4] rfl ?_
      exact K_M_runOff_182 B hn hR hE hag hr38 M v0 v1 v2 v3 v4 x3 v0 hf
  · refine ax_aload_n B d_M_runOff_80 rfl (j := 0) rfl ?_
    refine ax_getR B d_M_runOff_81 k_M_117 rfl hf (fun x4 hf => ?_)
    refine ax_iload B (j := 5) d_M_runOff_84 rfl ?_
    refine ax_iald B d_M_runOff_86 (t := 0) (by decide) rfl hf (fun x5 hf => ?_)
    refine ax_if_ge B (tgt := 94) d_M_runOff_87 (by decide) hf (fun hf => ?_) (fun hf => ?_)
    · refine ax_aload_n B d_M_runOff_94 rfl (j := 0) rfl ?_
      refine ax_aload_n B d_M_runOff_95 rfl (j := 0) rfl ?_
      refine ax_getR B d_M_runOff_96 k_M_60 rfl hf (fun x6 hf => ?_)
      refine ax_bipush B (v := 8) (by decide) d_M_runOff_99 ?_
      refine ax_iload_n B d_M_runOff_101 rfl (j := 1) rfl ?_
      refine ax_imul B d_M_runOff_102 ?_
      refine ax_aload_n B d_M_runOff_103 rfl (j := 0) rfl ?_
      refine ax_getR B d_M_runOff_104 k_M_117 rfl hf (fun x7 hf => ?_)
      refine ax_iload B (j := 5) d_M_runOff_107 rfl ?_
      refine ax_iald B d_M_runOff_109 (t := 0) (by decide) rfl hf (fun x8 hf => ?_)
      refine ax_iadd B d_M_runOff_110 ?_
      refine ax_iald B d_M_runOff_111 (t := 0) (by decide) rfl hf (fun x9 hf => ?_)
      refine ax_cVV B hR (as := [ax_I x9]) (V := fun q => ax_I q.1) (N := fun q => q.2) d_M_runOff_112 l_M_213 m_M_rankOf hf (fun q h => c_M_rankOf _ _ _ _ _ h) rfl rfl (by decide) (by decide) (by decide) (by decide) (Nat.le_of_ble_eq_true rfl) (fun q10 hf => ?_)
      exact K_M_runOff_115 B hn hR hE hag hr38 hr71 q10.2 v0 v1 v2 v3 v4 v5 q10.1 hf
    · refine ax_iconst B (v := (-1)) (by decide) d_M_runOff_90 ?_
      refine ax_goto B (tgt := 115) d_M_runOff_91 (by decide) ?_
      exact K_M_runOff_115 B hn hR hE hag hr38 hr71 M v0 v1 v2 v3 v4 v5 (-1) hf
def F_M_runOff_71 (rec38 : ax_M → Option Nat → Int32 → Int32 → Int32 → Option (ax_M)) : Nat → ax_M → Option Nat → Int32 → Int32 → Int32 → Int32 → Int32 → Option (ax_M)
  | 0 => fun _ _ _ _ _ _ _ => none
  | n + 1 => G_M_runOff_71 rec38 (F_M_runOff_71 rec38 n)
set_option maxRecDepth 100000 in
set_option maxHeartbeats 4000000 in
theorem L_M_runOff_71 {Z : ax_Z} {ad0 ad : Nat → Nat} {q : ax_M} (B : ax_B Z "VoteAuctionsModel" b_M_runOff none) (hn : Z.2.2.2.2.2.2.2.2.2.2.2.1 = 7) (hR : ax_R Z 1 0 0) (hE : ax_E Z ad0 [] 0 0 none q) (hag : ∀ a, a ∉ ([] : List Nat) → ad a = ad0 a) {rec38 : ax_M → Option Nat → Int32 → Int32 → Int32 → Option (ax_M)} (hr38 : ∀ (M : ax_M) (v0 : Option Nat) (v1 : Int32) (v2 : Int32) (v3 : Int32), rec38 M v0 v1 v2 v3 = some q → ax_W Z ad 0 0 38 [(0, ax_O v0), (1, ax_I v1), (2, ax_I v2), (3, ax_I v3)] [] M) : ∀ (n : Nat) (M : ax_M) (v0 : Option Nat) (v1 : Int32) (v2 : Int32) (v3 : Int32) (v4 : Int32) (v5 : Int32), F_M_runOff_71 rec38 n M v0 v1 v2 v3 v4 v5 = some q → ax_W Z ad 0 0 71 [(0, ax_O v0), (1, ax_I v1), (2, ax_I v2), (3, ax_I v3), (4, ax_I v4), (5, ax_I v5)] [] M := by
  intro n
  induction n with
  | zero => intro M v0 v1 v2 v3 v4 v5 hf; cases hf
  | succ n ih => exact K_M_runOff_71 B hn hR hE hag hr38 ih
def G_M_runOff_48 (rec38 : ax_M → Option Nat → Int32 → Int32 → Int32 → Option (ax_M)) (rec48 : ax_M → Option Nat → Int32 → Int32 → Int32 → Int32 → Int32 → Option (ax_M)) (M : ax_M) (v0 : Option Nat) (v1 : Int32) (v2 : Int32) (v3 : Int32) (v4 : Int32) (v5 : Int32) : Option (ax_M) := if 4 ≤ v5 then F_M_runOff_71 rec38 64 M v0 v1 v2 v3 v4 0 else (ax_gr M 3 44 v0).bind (fun x1 => (ax_ti M 0 x1 v5 0).bind (fun M2 => (some (v5 + 1)).bind (fun y3 => rec48 M2 v0 v1 v2 v3 v4 y3)))
set_option maxRecDepth 100000 in
set_option maxHeartbeats 4000000 in
theorem K_M_runOff_48 {Z : ax_Z} {ad0 ad : Nat → Nat} {q : ax_M} (B : ax_B Z "VoteAuctionsModel" b_M_runOff none) (hn : Z.2.2.2.2.2.2.2.2.2.2.2.1 = 7) (hR : ax_R Z 1 0 0) (hE : ax_E Z ad0 [] 0 0 none q) (hag : ∀ a, a ∉ ([] : List Nat) → ad a = ad0 a) {rec38 : ax_M → Option Nat → Int32 → Int32 → Int32 → Option (ax_M)} {rec48 : ax_M → Option Nat → Int32 → Int32 → Int32 → Int32 → Int32 → Option (ax_M)} (hr38 : ∀ (M : ax_M) (v0 : Option Nat) (v1 : Int32) (v2 : Int32) (v3 : Int32), rec38 M v0 v1 v2 v3 = some q → ax_W Z ad 0 0 38 [(0, ax_O v0), (1, ax_I v1), (2, ax_I v2), (3, ax_I v3)] [] M) (hr48 : ∀ (M : ax_M) (v0 : Option Nat) (v1 : Int32) (v2 : Int32) (v3 : Int32) (v4 : Int32) (v5 : Int32), rec48 M v0 v1 v2 v3 v4 v5 = some q → ax_W Z ad 0 0 48 [(0, ax_O v0), (1, ax_I v1), (2, ax_I v2), (3, ax_I v3), (4, ax_I v4), (5, ax_I v5)] [] M) : ∀ (M : ax_M) (v0 : Option Nat) (v1 : Int32) (v2 : Int32) (v3 : Int32) (v4 : Int32) (v5 : Int32), G_M_runOff_48 rec38 rec48 M v0 v1 v2 v3 v4 v5 = some q → ax_W Z ad 0 0 48 [(0, ax_O v0), (1, ax_I v1), (2, ax_I v2), (3, ax_I v3), (4, ax_I v4), (5, ax_I v5)] [] M := by
  intro M v0 v1 v2 v3 v4 v5 hf
  unfold G_M_runOff_48 at hf
  refine ax_iload B (j := 5) d_M_runOff_48 rfl ?_
  refine ax_iconst B (v := 4) (by decide) d_M_runOff_50 ?_
  refine ax_icmp_ge B (tgt := 68) d_M_runOff_51 (by decide) hf (fun hf => ?_) (fun hf => ?_)
  · refine ax_iconst B (v := 0) (by decide) d_M_runOff_68 ?_
    refine ax_istore B (lv' := [(5, ax_I 0), (0, ax_O v0), (1, ax_I v1), (2, ax_I v2), (3, ax_I v3), (4, ax_I v4)]) d_M_runOff_69 (by rw [hn]; decide) rfl ?_
    refine ax_sub [1, 2, 3, 4, 5, 0] rfl ?_
    exact L_M_runOff_71 B hn hR hE hag hr38 64 M v0 v1 v2 v3 v4 0 hf
  · refine ax_aload_n B d_M_runOff_54 rfl (j := 0) rfl ?_
    refine ax_getR B d_M_runOff_55 k_M_123 rfl hf (fun x1 hf => ?_)
    refine ax_iload B (j := 5) d_M_runOff_58 rfl ?_
    refine ax_iconst B (v := 0) (by decide) d_M_runOff_60 ?_
    refine ax_iast B d_M_runOff_61 (t := 0) (by decide) rfl hf (fun M2 hf => ?_)
    refine ax_iincN B (j := 5) (lv' := fun y => [(5, ax_I y), (0, ax_O v0), (1, ax_I v1), (2, ax_I v2), (3, ax_I v3), (4, ax_I v4)]) d_M_runOff_62 rfl hf rfl (by rw [hn]; decide) (fun _ => rfl) (fun y3 hf => ?_)
    refine ax_goto B (tgt := 48) d_M_runOff_65 (by decide) ?_
    refine ax_sub [1, 2, 3, 4, 5, 0] rfl ?_
    exact hr48 M2 v0 v1 v2 v3 v4 y3 hf
def F_M_runOff_48 (rec38 : ax_M → Option Nat → Int32 → Int32 → Int32 → Option (ax_M)) : Nat → ax_M → Option Nat → Int32 → Int32 → Int32 → Int32 → Int32 → Option (ax_M)
  | 0 => fun _ _ _ _ _ _ _ => none
  | n + 1 => G_M_runOff_48 rec38 (F_M_runOff_48 rec38 n)
set_option maxRecDepth 100000 in
set_option maxHeartbeats 4000000 in
theorem L_M_runOff_48 {Z : ax_Z} {ad0 ad : Nat → Nat} {q : ax_M} (B : ax_B Z "VoteAuctionsModel" b_M_runOff none) (hn : Z.2.2.2.2.2.2.2.2.2.2.2.1 = 7) (hR : ax_R Z 1 0 0) (hE : ax_E Z ad0 [] 0 0 none q) (hag : ∀ a, a ∉ ([] : List Nat) → ad a = ad0 a) {rec38 : ax_M → Option Nat → Int32 → Int32 → Int32 → Option (ax_M)} (hr38 : ∀ (M : ax_M) (v0 : Option Nat) (v1 : Int32) (v2 : Int32) (v3 : Int32), rec38 M v0 v1 v2 v3 = some q → ax_W Z ad 0 0 38 [(0, ax_O v0), (1, ax_I v1), (2, ax_I v2), (3, ax_I v3)] [] M) : ∀ (n : Nat) (M : ax_M) (v0 : Option Nat) (v1 : Int32) (v2 : Int32) (v3 : Int32) (v4 : Int32) (v5 : Int32), F_M_runOff_48 rec38 n M v0 v1 v2 v3 v4 v5 = some q → ax_W Z ad 0 0 48 [(0, ax_O v0), (1, ax_I v1), (2, ax_I v2), (3, ax_I v3), (4, ax_I v4), (5, ax_I v5)] [] M := by
  intro n
  induction n with
  | zero => intro M v0 v1 v2 v3 v4 v5 hf; cases hf
  | succ n ih => exact K_M_runOff_48 B hn hR hE hag hr38 ih
def G_M_runOff_38 (rec38 : ax_M → Option Nat → Int32 → Int32 → Int32 → Option (ax_M)) (M : ax_M) (v0 : Option Nat) (v1 : Int32) (v2 : Int32) (v3 : Int32) : Option (ax_M) := if v3 = 0 then F_M_runOff_48 rec38 64 M v0 v1 v2 v3 0 0 else some M
set_option maxRecDepth 100000 in
set_option maxHeartbeats 4000000 in
theorem K_M_runOff_38 {Z : ax_Z} {ad0 ad : Nat → Nat} {q : ax_M} (B : ax_B Z "VoteAuctionsModel" b_M_runOff none) (hn : Z.2.2.2.2.2.2.2.2.2.2.2.1 = 7) (hR : ax_R Z 1 0 0) (hE : ax_E Z ad0 [] 0 0 none q) (hag : ∀ a, a ∉ ([] : List Nat) → ad a = ad0 a) {rec38 : ax_M → Option Nat → Int32 → Int32 → Int32 → Option (ax_M)} (hr38 : ∀ (M : ax_M) (v0 : Option Nat) (v1 : Int32) (v2 : Int32) (v3 : Int32), rec38 M v0 v1 v2 v3 = some q → ax_W Z ad 0 0 38 [(0, ax_O v0), (1, ax_I v1), (2, ax_I v2), (3, ax_I v3)] [] M) : ∀ (M : ax_M) (v0 : Option Nat) (v1 : Int32) (v2 : Int32) (v3 : Int32), G_M_runOff_38 rec38 M v0 v1 v2 v3 = some q → ax_W Z ad 0 0 38 [(0, ax_O v0), (1, ax_I v1), (2, ax_I v2), (3, ax_I v3)] [] M := by
  intro M v0 v1 v2 v3 hf
  unfold G_M_runOff_38 at hf
  refine ax_iload_n B d_M_runOff_38 rfl (j := 3) rfl ?_
  refine ax_if_ne B (tgt := 332) d_M_runOff_39 (by decide) hf (fun hf => ?_) (fun hf => ?_)
  · refine ax_iconst B (v := 0) (by decide) d_M_runOff_42 ?_
    refine ax_istore B (lv' := [(4, ax_I 0), (0, ax_O v0), (1, ax_I v1), (2, ax_I v2), (3, ax_I v3)]) d_M_runOff_43 (by rw [hn]; decide) rfl ?_
    refine ax_iconst B (v := 0) (by decide) d_M_runOff_45 ?_
    refine ax_istore B (lv' := [(5, ax_I 0), (4, ax_I 0), (0, ax_O v0), (1, ax_I v1), (2, ax_I v2), (3, ax_I v3)]) d_M_runOff_46 (by rw [hn]; decide) rfl ?_
    refine ax_sub [2, 3, 4, 5, 1, 0] rfl ?_
    exact L_M_runOff_48 B hn hR hE hag hr38 64 M v0 v1 v2 v3 0 0 hf
  · exact ax_vreturn B hE d_M_runOff_332 hf hag (by decide) (by decide)
def F_M_runOff_38  : Nat → ax_M → Option Nat → Int32 → Int32 → Int32 → Option (ax_M)
  | 0 => fun _ _ _ _ _ => none
  | n + 1 => G_M_runOff_38 (F_M_runOff_38  n)
set_option maxRecDepth 100000 in
set_option maxHeartbeats 4000000 in
theorem L_M_runOff_38 {Z : ax_Z} {ad0 ad : Nat → Nat} {q : ax_M} (B : ax_B Z "VoteAuctionsModel" b_M_runOff none) (hn : Z.2.2.2.2.2.2.2.2.2.2.2.1 = 7) (hR : ax_R Z 1 0 0) (hE : ax_E Z ad0 [] 0 0 none q) (hag : ∀ a, a ∉ ([] : List Nat) → ad a = ad0 a)   : ∀ (n : Nat) (M : ax_M) (v0 : Option Nat) (v1 : Int32) (v2 : Int32) (v3 : Int32), F_M_runOff_38  n M v0 v1 v2 v3 = some q → ax_W Z ad 0 0 38 [(0, ax_O v0), (1, ax_I v1), (2, ax_I v2), (3, ax_I v3)] [] M := by
  intro n
  induction n with
  | zero => intro M v0 v1 v2 v3 hf; cases hf
  | succ n ih => exact K_M_runOff_38 B hn hR hE hag ih
def G_M_runOff_29 (rec9 : ax_M → Option Nat → Int32 → Int32 → Int32 → Option (ax_M)) (M : ax_M) (v0 : Option Nat) (v1 : Int32) (v2 : Int32) (v3 : Int32) (s0 : Int32) (s1 : Int32) (s2 : Option Nat) : Option (ax_M) := (ax_bo s0).bind (fun _ => (ax_ti M 2 s2 s1 s0).bind (fun M1 => (some (v3 + 1)).bind (fun y2 => rec9 M1 v0 v1 v2 y2)))
set_option maxRecDepth 100000 in
set_option maxHeartbeats 4000000 in
theorem K_M_runOff_29 {Z : ax_Z} {ad0 ad : Nat → Nat} {q : ax_M} (B : ax_B Z "VoteAuctionsModel" b_M_runOff none) (hn : Z.2.2.2.2.2.2.2.2.2.2.2.1 = 7) (hR : ax_R Z 1 0 0) (hE : ax_E Z ad0 [] 0 0 none q) (hag : ∀ a, a ∉ ([] : List Nat) → ad a = ad0 a) {rec9 : ax_M → Option Nat → Int32 → Int32 → Int32 → Option (ax_M)} (hr9 : ∀ (M : ax_M) (v0 : Option Nat) (v1 : Int32) (v2 : Int32) (v3 : Int32), rec9 M v0 v1 v2 v3 = some q → ax_W Z ad 0 0 9 [(0, ax_O v0), (1, ax_I v1), (2, ax_I v2), (3, ax_I v3)] [] M) : ∀ (M : ax_M) (v0 : Option Nat) (v1 : Int32) (v2 : Int32) (v3 : Int32) (s0 : Int32) (s1 : Int32) (s2 : Option Nat), G_M_runOff_29 rec9 M v0 v1 v2 v3 s0 s1 s2 = some q → ax_W Z ad 0 0 29 [(0, ax_O v0), (1, ax_I v1), (2, ax_I v2), (3, ax_I v3)] [ax_I s0, ax_I s1, ax_O s2] M := by
  intro M v0 v1 v2 v3 s0 s1 s2 hf
  unfold G_M_runOff_29 at hf
  obtain ⟨_, hb, hf⟩ := ax_bd hf
  refine ax_zast B d_M_runOff_29 (t := 2) (by decide) rfl (ax_bo_v hb) hf (fun M1 hf => ?_)
  refine ax_iincN B (j := 3) (lv' := fun y => [(3, ax_I y), (0, ax_O v0), (1, ax_I v1), (2, ax_I v2)]) d_M_runOff_30 rfl hf rfl (by rw [hn]; decide) (fun _ => rfl) (fun y2 hf => ?_)
  refine ax_goto B (tgt := 9) d_M_runOff_33 (by decide) ?_
  refine ax_sub [1, 2, 3, 0] rfl ?_
  exact hr9 M1 v0 v1 v2 y2 hf
def G_M_runOff_9 (rec9 : ax_M → Option Nat → Int32 → Int32 → Int32 → Option (ax_M)) (M : ax_M) (v0 : Option Nat) (v1 : Int32) (v2 : Int32) (v3 : Int32) : Option (ax_M) := if 4 ≤ v3 then F_M_runOff_38 64 M v0 v1 v2 0 else (ax_gr M 3 45 v0).bind (fun x1 => if v2 ≤ v3 then G_M_runOff_29 rec9 M v0 v1 v2 v3 0 v3 x1 else G_M_runOff_29 rec9 M v0 v1 v2 v3 1 v3 x1)
set_option maxRecDepth 100000 in
set_option maxHeartbeats 4000000 in
theorem K_M_runOff_9 {Z : ax_Z} {ad0 ad : Nat → Nat} {q : ax_M} (B : ax_B Z "VoteAuctionsModel" b_M_runOff none) (hn : Z.2.2.2.2.2.2.2.2.2.2.2.1 = 7) (hR : ax_R Z 1 0 0) (hE : ax_E Z ad0 [] 0 0 none q) (hag : ∀ a, a ∉ ([] : List Nat) → ad a = ad0 a) {rec9 : ax_M → Option Nat → Int32 → Int32 → Int32 → Option (ax_M)} (hr9 : ∀ (M : ax_M) (v0 : Option Nat) (v1 : Int32) (v2 : Int32) (v3 : Int32), rec9 M v0 v1 v2 v3 = some q → ax_W Z ad 0 0 9 [(0, ax_O v0), (1, ax_I v1), (2, ax_I v2), (3, ax_I v3)] [] M) : ∀ (M : ax_M) (v0 : Option Nat) (v1 : Int32) (v2 : Int32) (v3 : Int32), G_M_runOff_9 rec9 M v0 v1 v2 v3 = some q → ax_W Z ad 0 0 9 [(0, ax_O v0), (1, ax_I v1), (2, ax_I v2), (3, ax_I v3)] [] M := by
  intro M v0 v1 v2 v3 hf
  unfold G_M_runOff_9 at hf
  refine ax_iload_n B d_M_runOff_9 rfl (j := 3) rfl ?_
  refine ax_iconst B (v := 4) (by decide) d_M_runOff_10 ?_
  refine ax_icmp_ge B (tgt := 36) d_M_runOff_11 (by decide) hf (fun hf => ?_) (fun hf => ?_)
  · refine ax_iconst B (v := 0) (by decide) d_M_runOff_36 ?_
    refine ax_istore_n B (lv' := [(3, ax_I 0), (0, ax_O v0), (1, ax_I v1), (2, ax_I v2)]) d_M_runOff_37 rfl (by rw [hn]; decide) rfl ?_
    refine ax_sub [1, 2, 3, 0] rfl ?_
    exact L_M_runOff_38 B hn hR hE hag 64 M v0 v1 v2 0 hf
  · refine ax_aload_n B d_M_runOff_14 rfl (j := 0) rfl ?_
    refine ax_getR B d_M_runOff_15 k_M_126 rfl hf (fun x1 hf => ?_)
    refine ax_iload_n B d_M_runOff_18 rfl (j := 3) rfl ?_
    refine ax_iload_n B d_M_runOff_19 rfl (j := 3) rfl ?_
    refine ax_iload_n B d_M_runOff_20 rfl (j := 2) rfl ?_
    refine ax_icmp_ge B (tgt := 28) d_M_runOff_21 (by decide) hf (fun hf => ?_) (fun hf => ?_)
    · refine ax_iconst B (v := 0) (by decide) d_M_runOff_28 ?_
      exact K_M_runOff_29 B hn hR hE hag hr9 M v0 v1 v2 v3 0 v3 x1 hf
    · refine ax_iconst B (v := 1) (by decide) d_M_runOff_24 ?_
      refine ax_goto B (tgt := 29) d_M_runOff_25 (by decide) ?_
      exact K_M_runOff_29 B hn hR hE hag hr9 M v0 v1 v2 v3 1 v3 x1 hf
def F_M_runOff_9  : Nat → ax_M → Option Nat → Int32 → Int32 → Int32 → Option (ax_M)
  | 0 => fun _ _ _ _ _ => none
  | n + 1 => G_M_runOff_9 (F_M_runOff_9  n)
set_option maxRecDepth 100000 in
set_option maxHeartbeats 4000000 in
theorem L_M_runOff_9 {Z : ax_Z} {ad0 ad : Nat → Nat} {q : ax_M} (B : ax_B Z "VoteAuctionsModel" b_M_runOff none) (hn : Z.2.2.2.2.2.2.2.2.2.2.2.1 = 7) (hR : ax_R Z 1 0 0) (hE : ax_E Z ad0 [] 0 0 none q) (hag : ∀ a, a ∉ ([] : List Nat) → ad a = ad0 a)   : ∀ (n : Nat) (M : ax_M) (v0 : Option Nat) (v1 : Int32) (v2 : Int32) (v3 : Int32), F_M_runOff_9  n M v0 v1 v2 v3 = some q → ax_W Z ad 0 0 9 [(0, ax_O v0), (1, ax_I v1), (2, ax_I v2), (3, ax_I v3)] [] M := by
  intro n
  induction n with
  | zero => intro M v0 v1 v2 v3 hf; cases hf
  | succ n ih => exact K_M_runOff_9 B hn hR hE hag ih
def f_M_runOff (M : ax_M) (x0 : Option Nat) (p0 : Int32) : Option (ax_M) := (ax_gr M 3 10 x0).bind (fun x1 => (ax_ri M 0 x1 p0).bind (fun x2 => F_M_runOff_9 64 M x0 p0 x2 0))
set_option maxRecDepth 100000 in
set_option maxHeartbeats 4000000 in
theorem c_M_runOff (l : Launch) (G : ax_G) (M : ax_M) (x0 : Option Nat) (p0 : Int32) {q : ax_M} (hf : f_M_runOff M x0 p0 = some q) : ax_C l G y_M_runOff b_M_runOff 7 none [] 1 0 0 [ax_O x0, ax_I p0] M none q := by
  refine ax_ofW (by decide +kernel) (lv0 := [(0, ax_O x0), (1, ax_I p0)]) (Nat.le_of_ble_eq_true rfl) rfl ?_
  intro Z ad B hin _ _ hn hR hE
  have hag : ∀ a, a ∉ ([] : List Nat) → ad a = ad a := fun _ _ => rfl
  unfold f_M_runOff at hf
  refine ax_aload_n B d_M_runOff_0 rfl (j := 0) rfl ?_
  refine ax_getR B d_M_runOff_1 k_M_26 rfl hf (fun x1 hf => ?_)
  refine ax_iload_n B d_M_runOff_4 rfl (j := 1) rfl ?_
  refine ax_iald B d_M_runOff_5 (t := 0) (by decide) rfl hf (fun x2 hf => ?_)
  refine ax_istore_n B (lv' := [(2, ax_I x2), (0, ax_O x0), (1, ax_I p0)]) d_M_runOff_6 rfl (by rw [hn]; decide) rfl ?_
  refine ax_iconst B (v := 0) (by decide) d_M_runOff_7 ?_
  refine ax_istore_n B (lv' := [(3, ax_I 0), (2, ax_I x2), (0, ax_O x0), (1, ax_I p0)]) d_M_runOff_8 rfl (by rw [hn]; decide) rfl ?_
  refine ax_sub [2, 3, 1, 0] rfl ?_
  exact L_M_runOff_9 B hn hR hE hag 64 M x0 p0 x2 0 hf
def G_M_findCounts_249 (rec102 : ax_M → Option Nat → Int32 → Int32 → Option (ax_M)) (M : ax_M) (v0 : Option Nat) (v1 : Int32) (v2 : Int32) (s0 : Int32) (s1 : Option Nat) : Option (ax_M) := (ax_bo s0).bind (fun _ => (ax_pi M 3 49 s1 s0).bind (fun M1 => (some (v2 + 1)).bind (fun y2 => rec102 M1 v0 v1 y2)))
set_option maxRecDepth 100000 in
set_option maxHeartbeats 4000000 in
theorem K_M_findCounts_249 {Z : ax_Z} {ad0 ad : Nat → Nat} {q : ax_M} (B : ax_B Z "VoteAuctionsModel" b_M_findCounts none) (hn : Z.2.2.2.2.2.2.2.2.2.2.2.1 = 5) (hR : ax_R Z 2 0 0) (hE : ax_E Z ad0 [] 0 0 none q) (hag : ∀ a, a ∉ ([] : List Nat) → ad a = ad0 a) {rec102 : ax_M → Option Nat → Int32 → Int32 → Option (ax_M)} (hr102 : ∀ (M : ax_M) (v0 : Option Nat) (v1 : Int32) (v2 : Int32), rec102 M v0 v1 v2 = some q → ax_W Z ad 0 0 102 [(0, ax_O v0), (1, ax_I v1), (2, ax_I v2)] [] M) : ∀ (M : ax_M) (v0 : Option Nat) (v1 : Int32) (v2 : Int32) (s0 : Int32) (s1 : Option Nat), G_M_findCounts_249 rec102 M v0 v1 v2 s0 s1 = some q → ax_W Z ad 0 0 249 [(0, ax_O v0), (1, ax_I v1), (2, ax_I v2)] [ax_I s0, ax_O s1] M := by
  intro M v0 v1 v2 s0 s1 hf
  unfold G_M_findCounts_249 at hf
  obtain ⟨_, hb, hf⟩ := ax_bd hf
  refine ax_putI B d_M_findCounts_249 k_M_209 rfl rfl (ax_bo_n hb) (ax_bo_f hb) hf (fun M1 hf => ?_)
  refine ax_iincN B (j := 2) (lv' := fun y => [(2, ax_I y), (0, ax_O v0), (1, ax_I v1)]) d_M_findCounts_252 rfl hf rfl (by rw [hn]; decide) (fun _ => rfl) (fun y2 hf => ?_)
  refine ax_goto B (tgt := 102) d_M_findCounts_255 (by decide) ?_
  refine ax_sub [1, 2, 0] rfl ?_
  exact hr102 M1 v0 v1 y2 hf
def G_M_findCounts_244 (rec102 : ax_M → Option Nat → Int32 → Int32 → Option (ax_M)) (M : ax_M) (v0 : Option Nat) (v1 : Int32) (v2 : Int32) (s0 : Option Nat) : Option (ax_M) := G_M_findCounts_249 rec102 M v0 v1 v2 1 s0
set_option maxRecDepth 100000 in
set_option maxHeartbeats 4000000 in
theorem K_M_findCounts_244 {Z : ax_Z} {ad0 ad : Nat → Nat} {q : ax_M} (B : ax_B Z "VoteAuctionsModel" b_M_findCounts none) (hn : Z.2.2.2.2.2.2.2.2.2.2.2.1 = 5) (hR : ax_R Z 2 0 0) (hE : ax_E Z ad0 [] 0 0 none q) (hag : ∀ a, a ∉ ([] : List Nat) → ad a = ad0 a) {rec102 : ax_M → Option Nat → Int32 → Int32 → Option (ax_M)} (hr102 : ∀ (M : ax_M) (v0 : Option Nat) (v1 : Int32) (v2 : Int32), rec102 M v0 v1 v2 = some q → ax_W Z ad 0 0 102 [(0, ax_O v0), (1, ax_I v1), (2, ax_I v2)] [] M) : ∀ (M : ax_M) (v0 : Option Nat) (v1 : Int32) (v2 : Int32) (s0 : Option Nat), G_M_findCounts_244 rec102 M v0 v1 v2 s0 = some q → ax_W Z ad 0 0 244 [(0, ax_O v0), (1, ax_I v1), (2, ax_I v2)] [ax_O s0] M := by
  intro M v0 v1 v2 s0 hf
  unfold G_M_findCounts_244 at hf
  refine ax_iconst B (v := 1) (by decide) d_M_findCounts_244 ?_
  refine ax_goto B (tgt := 249) d_M_findCounts_245 (by decide) ?_
  exact K_M_findCounts_249 B hn hR hE hag hr102 M v0 v1 v2 1 s0 hf
def G_M_findCounts_221 (rec102 : ax_M → Option Nat → Int32 → Int32 → Option (ax_M)) (rec114 : ax_M → Option Nat → Int32 → Int32 → Int32 → Option (ax_M)) (M : ax_M) (v0 : Option Nat) (v1 : Int32) (v2 : Int32) (v3 : Int32) : Option (ax_M) := (some (v3 + 1)).bind (fun y1 => rec114 M v0 v1 v2 y1)
set_option maxRecDepth 100000 in
set_option maxHeartbeats 4000000 in
theorem K_M_findCounts_221 {Z : ax_Z} {ad0 ad : Nat → Nat} {q : ax_M} (B : ax_B Z "VoteAuctionsModel" b_M_findCounts none) (hn : Z.2.2.2.2.2.2.2.2.2.2.2.1 = 5) (hR : ax_R Z 2 0 0) (hE : ax_E Z ad0 [] 0 0 none q) (hag : ∀ a, a ∉ ([] : List Nat) → ad a = ad0 a) {rec102 : ax_M → Option Nat → Int32 → Int32 → Option (ax_M)} {rec114 : ax_M → Option Nat → Int32 → Int32 → Int32 → Option (ax_M)} (hr102 : ∀ (M : ax_M) (v0 : Option Nat) (v1 : Int32) (v2 : Int32), rec102 M v0 v1 v2 = some q → ax_W Z ad 0 0 102 [(0, ax_O v0), (1, ax_I v1), (2, ax_I v2)] [] M) (hr114 : ∀ (M : ax_M) (v0 : Option Nat) (v1 : Int32) (v2 : Int32) (v3 : Int32), rec114 M v0 v1 v2 v3 = some q → ax_W Z ad 0 0 114 [(0, ax_O v0), (1, ax_I v1), (2, ax_I v2), (3, ax_I v3)] [] M) : ∀ (M : ax_M) (v0 : Option Nat) (v1 : Int32) (v2 : Int32) (v3 : Int32), G_M_findCounts_221 rec102 rec114 M v0 v1 v2 v3 = some q → ax_W Z ad 0 0 221 [(0, ax_O v0), (1, ax_I v1), (2, ax_I v2), (3, ax_I v3)] [] M := by
  intro M v0 v1 v2 v3 hf
  unfold G_M_findCounts_221 at hf
  refine ax_iincN B (j := 3) (lv' := fun y => [(3, ax_I y), (0, ax_O v0), (1, ax_I v1), (2, ax_I v2)]) d_M_findCounts_221 rfl hf rfl (by rw [hn]; decide) (fun _ => rfl) (fun y1 hf => ?_)
  refine ax_goto B (tgt := 114) d_M_findCounts_224 (by decide) ?_
  refine ax_sub [1, 2, 3, 0] rfl ?_
  exact hr114 M v0 v1 v2 y1 hf
def G_M_findCounts_219 (rec102 : ax_M → Option Nat → Int32 → Int32 → Option (ax_M)) (rec114 : ax_M → Option Nat → Int32 → Int32 → Int32 → Option (ax_M)) (M : ax_M) (v0 : Option Nat) (v1 : Int32) (v2 : Int32) (v3 : Int32) (s0 : Int32) (s1 : Int32) (s2 : Int32) (s3 : Option Nat) : Option (ax_M) := (ax_ti M 0 s3 s2 (s1 + s0)).bind (fun M1 => G_M_findCounts_221 rec102 rec114 M1 v0 v1 v2 v3)
set_option maxRecDepth 100000 in
set_option maxHeartbeats 4000000 in
theorem K_M_findCounts_219 {Z : ax_Z} {ad0 ad : Nat → Nat} {q : ax_M} (B : ax_B Z "VoteAuctionsModel" b_M_findCounts none) (hn : Z.2.2.2.2.2.2.2.2.2.2.2.1 = 5) (hR : ax_R Z 2 0 0) (hE : ax_E Z ad0 [] 0 0 none q) (hag : ∀ a, a ∉ ([] : List Nat) → ad a = ad0 a) {rec102 : ax_M → Option Nat → Int32 → Int32 → Option (ax_M)} {rec114 : ax_M → Option Nat → Int32 → Int32 → Int32 → Option (ax_M)} (hr102 : ∀ (M : ax_M) (v0 : Option Nat) (v1 : Int32) (v2 : Int32), rec102 M v0 v1 v2 = some q → ax_W Z ad 0 0 102 [(0, ax_O v0), (1, ax_I v1), (2, ax_I v2)] [] M) (hr114 : ∀ (M : ax_M) (v0 : Option Nat) (v1 : Int32) (v2 : Int32) (v3 : Int32), rec114 M v0 v1 v2 v3 = some q → ax_W Z ad 0 0 114 [(0, ax_O v0), (1, ax_I v1), (2, ax_I v2), (3, ax_I v3)] [] M) : ∀ (M : ax_M) (v0 : Option Nat) (v1 : Int32) (v2 : Int32) (v3 : Int32) (s0 : Int32) (s1 : Int32) (s2 : Int32) (s3 : Option Nat), G_M_findCounts_219 rec102 rec114 M v0 v1 v2 v3 s0 s1 s2 s3 = some q → ax_W Z ad 0 0 219 [(0, ax_O v0), (1, ax_I v1), (2, ax_I v2), (3, ax_I v3)] [ax_I s0, ax_I s1, ax_I s2, ax_O s3] M := by
  intro M v0 v1 v2 v3 s0 s1 s2 s3 hf
  unfold G_M_findCounts_219 at hf
  refine ax_iadd B d_M_findCounts_219 ?_
  refine ax_iast B d_M_findCounts_220 (t := 0) (by decide) rfl hf (fun M1 hf => ?_)
  exact K_M_findCounts_221 B hn hR hE hag hr102 hr114 M1 v0 v1 v2 v3 hf
def G_M_findCounts_114 (rec102 : ax_M → Option Nat → Int32 → Int32 → Option (ax_M)) (rec114 : ax_M → Option Nat → Int32 → Int32 → Int32 → Option (ax_M)) (M : ax_M) (v0 : Option Nat) (v1 : Int32) (v2 : Int32) (v3 : Int32) : Option (ax_M) := (ax_gi M 3 3 v0).bind (fun x1 => if x1 ≤ v3 then (ax_gi M 3 49 v0).bind (fun x2 => if x2 = 0 then (ax_gr M 3 44 v0).bind (fun x3 => (ax_ri M 0 x3 v2).bind (fun x4 => if x4 ≤ 0 then G_M_findCounts_249 rec102 M v0 v1 v2 0 v0 else G_M_findCounts_244 rec102 M v0 v1 v2 v0)) else G_M_findCounts_244 rec102 M v0 v1 v2 v0) else (ax_gr M 3 42 v0).bind (fun x5 => (ax_ri M 0 x5 v3).bind (fun x6 => if x6 < 0 then G_M_findCounts_221 rec102 rec114 M v0 v1 v2 v3 else (ax_gr M 3 21 v0).bind (fun x7 => (ax_gr M 3 42 v0).bind (fun x8 => (ax_ri M 0 x8 v3).bind (fun x9 => (ax_ri M 0 x7 ((8 * v1) + x9)).bind (fun x10 => (ax_gr M 3 44 v0).bind (fun x11 => (ax_ri M 0 x11 v2).bind (fun x12 => (ax_gr M 3 9 v0).bind (fun x13 => (ax_ri M 0 x13 v1).bind (fun x14 => if x14 = 0 then if x10 = v2 then (ax_ob M 3 v0).bind (fun _ => (f_M_weightOf M v0 v1 v3).bind (fun q15 => G_M_findCounts_219 rec102 rec114 q15.2 v0 v1 v2 v3 q15.1 x12 v2 x11)) else G_M_findCounts_219 rec102 rec114 M v0 v1 v2 v3 0 x12 v2 x11 else (ax_gr M 3 9 v0).bind (fun x16 => (ax_ri M 0 x16 v1).bind (fun x17 => if x17 = 1 then (ax_ob M 3 v0).bind (fun _ => (f_M_weightOf M v0 v1 v3).bind (fun q18 => G_M_findCounts_219 rec102 rec114 q18.2 v0 v1 v2 v3 (((x10 >>> (v2 &&& 31)) &&& 1) * q18.1) x12 v2 x11)) else G_M_findCounts_219 rec102 rec114 M v0 v1 v2 v3 ((x10 >>> ((5 * v2) &&& 31)) &&& 31) x12 v2 x11)))))))))))))
set_option maxRecDepth 100000 in
set_option maxHeartbeats 4000000 in
theorem K_M_findCounts_114 {Z : ax_Z} {ad0 ad : Nat → Nat} {q : ax_M} (B : ax_B Z "VoteAuctionsModel" b_M_findCounts none) (hn : Z.2.2.2.2.2.2.2.2.2.2.2.1 = 5) (hR : ax_R Z 2 0 0) (hE : ax_E Z ad0 [] 0 0 none q) (hag : ∀ a, a ∉ ([] : List Nat) → ad a = ad0 a) {rec102 : ax_M → Option Nat → Int32 → Int32 → Option (ax_M)} {rec114 : ax_M → Option Nat → Int32 → Int32 → Int32 → Option (ax_M)} (hr102 : ∀ (M : ax_M) (v0 : Option Nat) (v1 : Int32) (v2 : Int32), rec102 M v0 v1 v2 = some q → ax_W Z ad 0 0 102 [(0, ax_O v0), (1, ax_I v1), (2, ax_I v2)] [] M) (hr114 : ∀ (M : ax_M) (v0 : Option Nat) (v1 : Int32) (v2 : Int32) (v3 : Int32), rec114 M v0 v1 v2 v3 = some q → ax_W Z ad 0 0 114 [(0, ax_O v0), (1, ax_I v1), (2, ax_I v2), (3, ax_I v3)] [] M) : ∀ (M : ax_M) (v0 : Option Nat) (v1 : Int32) (v2 : Int32) (v3 : Int32), G_M_findCounts_114 rec102 rec114 M v0 v1 v2 v3 = some q → ax_W Z ad 0 0 114 [(0, ax_O v0), (1, ax_I v1), (2, ax_I v2), (3, ax_I v3)] [] M := by
  intro M v0 v1 v2 v3 hf
  unfold G_M_findCounts_114 at hf
  refine ax_iload_n B d_M_findCounts_114 rfl (j := 3) rfl ?_
  refine ax_aload_n B d_M_findCounts_115 rfl (j := 0) rfl ?_
  refine ax_getI B d_M_findCounts_116 k_M_136 rfl hf (fun x1 hf => ?_)
  refine ax_icmp_ge B (tgt := 227) d_M_findCounts_119 (by decide) hf (fun hf => ?_) (fun hf => ?_)
  · refine ax_aload_n B d_M_findCounts_227 rfl (j := 0) rfl ?_
    refine ax_aload_n B d_M_findCounts_228 rfl (j := 0) rfl ?_
    refine ax_getI B d_M_findCounts_229 k_M_209 rfl hf (fun x2 hf => ?_)
    refine ax_if_ne B (tgt := 244) d_M_findCounts_232 (by decide) hf (fun hf => ?_) (fun hf => ?_)
    · refine ax_aload_n B d_M_findCounts_235 rfl (j := 0) rfl ?_
      refine ax_getR B d_M_findCounts_236 k_M_123 rfl hf (fun x3 hf => ?_)
      refine ax_iload_n B d_M_findCounts_239 rfl (j := 2) rfl ?_
      refine ax_iald B d_M_findCounts_240 (t := 0) (by decide) rfl hf (fun x4 hf => ?_)
      refine ax_if_le B (tgt := 248) d_M_findCounts_241 (by decide) hf (fun hf => ?_) (fun hf => ?_)
      · refine ax_iconst B (v := 0) (by decide) d_M_findCounts_248 ?_
        refine ax_sub [0, 1, 2] rfl ?_
        exact K_M_findCounts_249 B hn hR hE hag hr102 M v0 v1 v2 0 v0 hf
      · refine ax_sub [0, 1, 2] rfl ?_
        exact K_M_findCounts_244 B hn hR hE hag hr102 M v0 v1 v2 v0 hf
    · refine ax_sub [0, 1, 2] rfl ?_
      exact K_M_findCounts_244 B hn hR hE hag hr102 M v0 v1 v2 v0 hf
  · refine ax_aload_n B d_M_findCounts_122 rfl (j := 0) rfl ?_
    refine ax_getR B d_M_findCounts_123 k_M_117 rfl hf (fun x5 hf => ?_)
    refine ax_iload_n B d_M_findCounts_126 rfl (j := 3) rfl ?_
    refine ax_iald B d_M_findCounts_127 (t := 0) (by decide) rfl hf (fun x6 hf => ?_)
    refine ax_if_lt B (tgt := 221) d_M_findCounts_128 (by decide) hf (fun hf => ?_) (fun hf => ?_)
    · exact K_M_findCounts_221 B hn hR hE hag hr102 hr114 M v0 v1 v2 v3 hf
    · refine ax_aload_n B d_M_findCounts_131 rfl (j := 0) rfl ?_
      refine ax_getR B d_M_findCounts_132 k_M_60 rfl hf (fun x7 hf => ?_)
      refine ax_bipush B (v := 8) (by decide) d_M_findCounts_135 ?_
      refine ax_iload_n B d_M_findCounts_137 rfl (j := 1) rfl ?_
      refine ax_imul B d_M_findCounts_138 ?_
      refine ax_aload_n B d_M_findCounts_139 rfl (j := 0) rfl ?_
      refine ax_getR B d_M_findCounts_140 k_M_117 rfl hf (fun x8 hf => ?_)
      refine ax_iload_n B d_M_findCounts_143 rfl (j := 3) rfl ?_
      refine ax_iald B d_M_findCounts_144 (t := 0) (by decide) rfl hf (fun x9 hf => ?_)
      refine ax_iadd B d_M_findCounts_145 ?_
      refine ax_iald B d_M_findCounts_146 (t := 0) (by decide) rfl hf (fun x10 hf => ?_)
      refine ax_istore B (lv' := [(4, ax_I x10), (0, ax_O v0), (1, ax_I v1), (2, ax_I v2), (3, ax_I v3)]) d_M_findCounts_147 (by rw [hn]; decide) rfl ?_
      refine ax_aload_n B d_M_findCounts_149 rfl (j := 1) rfl ?_
      refine ax_getR B d_M_findCounts_150 k_M_123 rfl hf (fun x11 hf => ?_)
      refine ax_iload_n B d_M_findCounts_153 rfl (j := 3) rfl ?_
      refine ax_dup2_11 B rfl rfl d_M_findCounts_154 ?_
      refine ax_iald B d_M_findCounts_155 (t := 0) (by decide) rfl hf (fun x12 hf => ?_)
      refine ax_aload_n B d_M_findCounts_156 rfl (j := 1) rfl ?_
      refine ax_getR B d_M_findCounts_157 k_M_23 rfl hf (fun x13 hf => ?_)
      refine ax_iload_n B d_M_findCounts_160 rfl (j := 2) rfl ?_
      refine ax_iald B d_M_findCounts_161 (t := 0) (by decide) rfl hf (fun x14 hf => ?_)
      refine ax_if_ne B (tgt := 184) d_M_findCounts_162 (by decide) hf (fun hf => ?_) (fun hf => ?_)
      · refine ax_iload B (j := 0) d_M_findCounts_165 rfl ?_
        refine ax_iload_n B d_M_findCounts_167 rfl (j := 3) rfl ?_
        refine ax_icmp_ne B (tgt := 180) d_M_findCounts_168 (by decide) hf (fun hf => ?_) (fun hf => ?_)
        · refine ax_aload_n B d_M_findCounts_171 rfl (j := 1) rfl ?_
          refine ax_iload_n B d_M_findCounts_172 rfl (j := 2) rfl ?_
          refine ax_iload_n B d_M_findCounts_173 rfl (j := 4) rfl ?_
          refine ax_cVV B hR (as := [ax_I v1, ax_I v3]) (V := fun q => ax_I q.1) (N := fun q => q.2) d_M_findCounts_174 l_M_203 m_M_weightOf hf (fun q h => c_M_weightOf _ _ _ _ _ _ h) rfl rfl (by decide) (by decide) (by decide) (by decide) (Nat.le_of_ble_eq_true rfl) (fun q15 hf => ?_)
          refine ax_goto B (tgt := 219) d_M_findCounts_177 (by decide) ?_
          refine ax_sub [1, 2, 3, 4] rfl ?_
          exact K_M_findCounts_219 B hn hR hE hag hr102 hr114 q15.2 v0 v1 v2 v3 q15.1 x12 v2 x11 hf
        · refine ax_iconst B (v := 0) (by decide) d_M_findCounts_180 ?_
          refine ax_goto B (tgt := 219) d_M_findCounts_181 (by decide) ?_
          refine ax_sub [1, 2, 3, 4] rfl ?_
          exact K_M_findCounts_219 B hn hR hE hag hr102 hr114 M v0 v1 v2 v3 0 x12 v2 x11 hf
      · refine ax_aload_n B d_M_findCounts_184 rfl (j := 1) rfl ?_
        refine ax_getR B d_M_findCounts_185 k_M_23 rfl hf (fun x16 hf => ?_)
        refine ax_iload_n B d_M_findCounts_188 rfl (j := 2) rfl ?_
        refine ax_iald B d_M_findCounts_189 (t := 0) (by decide) rfl hf (fun x17 hf => ?_)
        refine ax_iconst B (v := 1) (by decide) d_M_findCounts_190 ?_
        refine ax_icmp_ne B (tgt := 210) d_M_findCounts_191 (by decide) hf (fun hf => ?_) (fun hf => ?_)
        · refine ax_iload B (j := 0) d_M_findCounts_194 rfl ?_
          refine ax_iload_n B d_M_findCounts_196 rfl (j := 3) rfl ?_
          refine ax_ishr B d_M_findCounts_197 ?_
          refine ax_iconst B (v := 1) (by decide) d_M_findCounts_198 ?_
          refine ax_iand B d_M_findCounts_199 ?_
          refine ax_aload_n B d_M_findCounts_200 rfl (j := 1) rfl ?_
          refine ax_iload_n B d_M_findCounts_201 rfl (j := 2) rfl ?_
          refine ax_iload_n B d_M_findCounts_202 rfl (j := 4) rfl ?_
          refine ax_cVV B hR (as := [ax_I v1, ax_I v3]) (V := fun q => ax_I q.1) (N := fun q => q.2) d_M_findCounts_203 l_M_203 m_M_weightOf hf (fun q h => c_M_weightOf _ _ _ _ _ _ h) rfl rfl (by decide) (by decide) (by decide) (by decide) (Nat.le_of_ble_eq_true rfl) (fun q18 hf => ?_)
          refine ax_imul B d_M_findCounts_206 ?_
          refine ax_goto B (tgt := 219) d_M_findCounts_207 (by decide) ?_
          refine ax_sub [1, 2, 3, 4] rfl ?_
          exact K_M_findCounts_219 B hn hR hE hag hr102 hr114 q18.2 v0 v1 v2 v3 (((x10 >>> (v2 &&& 31)) &&& 1) * q18.1) x12 v2 x11 hf
        · refine ax_iload B (j := 0) d_M_findCounts_210 rfl ?_
          refine ax_iconst B (v := 5) (by decide) d_M_findCounts_212 ?_
          refine ax_iload_n B d_M_findCounts_213 rfl (j := 3) rfl ?_
          refine ax_imul B d_M_findCounts_214 ?_
          refine ax_ishr B d_M_findCounts_215 ?_
          refine ax_bipush B (v := 31) (by decide) d_M_findCounts_216 ?_
          refine ax_iand B d_M_findCounts_218 ?_
          refine ax_sub [1, 2, 3, 4] rfl ?_
          exact K_M_findCounts_219 B hn hR hE hag hr102 hr114 M v0 v1 v2 v3 ((x10 >>> ((5 * v2) &&& 31)) &&& 31) x12 v2 x11 hf
def F_M_findCounts_114 (rec102 : ax_M → Option Nat → Int32 → Int32 → Option (ax_M)) : Nat → ax_M → Option Nat → Int32 → Int32 → Int32 → Option (ax_M)
  | 0 => fun _ _ _ _ _ => none
  | n + 1 => G_M_findCounts_114 rec102 (F_M_findCounts_114 rec102 n)
set_option maxRecDepth 100000 in
set_option maxHeartbeats 4000000 in
theorem L_M_findCounts_114 {Z : ax_Z} {ad0 ad : Nat → Nat} {q : ax_M} (B : ax_B Z "VoteAuctionsModel" b_M_findCounts none) (hn : Z.2.2.2.2.2.2.2.2.2.2.2.1 = 5) (hR : ax_R Z 2 0 0) (hE : ax_E Z ad0 [] 0 0 none q) (hag : ∀ a, a ∉ ([] : List Nat) → ad a = ad0 a) {rec102 : ax_M → Option Nat → Int32 → Int32 → Option (ax_M)} (hr102 : ∀ (M : ax_M) (v0 : Option Nat) (v1 : Int32) (v2 : Int32), rec102 M v0 v1 v2 = some q → ax_W Z ad 0 0 102 [(0, ax_O v0), (1, ax_I v1), (2, ax_I v2)] [] M) : ∀ (n : Nat) (M : ax_M) (v0 : Option Nat) (v1 : Int32) (v2 : Int32) (v3 : Int32), F_M_findCounts_114 rec102 n M v0 v1 v2 v3 = some q → ax_W Z ad 0 0 114 [(0, ax_O v0), (1, ax_I v1), (2, ax_I v2), (3, ax_I v3)] [] M := by
  intro n
  induction n with
  | zero => intro M v0 v1 v2 v3 hf; cases hf
  | succ n ih => exact K_M_findCounts_114 B hn hR hE hag hr102 ih
def G_M_findCounts_102 (rec102 : ax_M → Option Nat → Int32 → Int32 → Option (ax_M)) (M : ax_M) (v0 : Option Nat) (v1 : Int32) (v2 : Int32) : Option (ax_M) := (ax_gr M 3 10 v0).bind (fun x1 => (ax_ri M 0 x1 v1).bind (fun x2 => if x2 ≤ v2 then some M else F_M_findCounts_114 rec102 64 M v0 v1 v2 0))
set_option maxRecDepth 100000 in
set_option maxHeartbeats 4000000 in
theorem K_M_findCounts_102 {Z : ax_Z} {ad0 ad : Nat → Nat} {q : ax_M} (B : ax_B Z "VoteAuctionsModel" b_M_findCounts none) (hn : Z.2.2.2.2.2.2.2.2.2.2.2.1 = 5) (hR : ax_R Z 2 0 0) (hE : ax_E Z ad0 [] 0 0 none q) (hag : ∀ a, a ∉ ([] : List Nat) → ad a = ad0 a) {rec102 : ax_M → Option Nat → Int32 → Int32 → Option (ax_M)} (hr102 : ∀ (M : ax_M) (v0 : Option Nat) (v1 : Int32) (v2 : Int32), rec102 M v0 v1 v2 = some q → ax_W Z ad 0 0 102 [(0, ax_O v0), (1, ax_I v1), (2, ax_I v2)] [] M) : ∀ (M : ax_M) (v0 : Option Nat) (v1 : Int32) (v2 : Int32), G_M_findCounts_102 rec102 M v0 v1 v2 = some q → ax_W Z ad 0 0 102 [(0, ax_O v0), (1, ax_I v1), (2, ax_I v2)] [] M := by
  intro M v0 v1 v2 hf
  unfold G_M_findCounts_102 at hf
  refine ax_iload_n B d_M_findCounts_102 rfl (j := 2) rfl ?_
  refine ax_aload_n B d_M_findCounts_103 rfl (j := 0) rfl ?_
  refine ax_getR B d_M_findCounts_104 k_M_26 rfl hf (fun x1 hf => ?_)
  refine ax_iload_n B d_M_findCounts_107 rfl (j := 1) rfl ?_
  refine ax_iald B d_M_findCounts_108 (t := 0) (by decide) rfl hf (fun x2 hf => ?_)
  refine ax_icmp_ge B (tgt := 258) d_M_findCounts_109 (by decide) hf (fun hf => ?_) (fun hf => ?_)
  · exact ax_vreturn B hE d_M_findCounts_258 hf hag (by decide) (by decide)
  · refine ax_iconst B (v := 0) (by decide) d_M_findCounts_112 ?_
    refine ax_istore_n B (lv' := [(3, ax_I 0), (0, ax_O v0), (1, ax_I v1), (2, ax_I v2)]) d_M_findCounts_113 rfl (by rw [hn]; decide) rfl ?_
    refine ax_sub [1, 2, 3, 0] rfl ?_
    exact L_M_findCounts_114 B hn hR hE hag hr102 64 M v0 v1 v2 0 hf
def F_M_findCounts_102  : Nat → ax_M → Option Nat → Int32 → Int32 → Option (ax_M)
  | 0 => fun _ _ _ _ => none
  | n + 1 => G_M_findCounts_102 (F_M_findCounts_102  n)
set_option maxRecDepth 100000 in
set_option maxHeartbeats 4000000 in
theorem L_M_findCounts_102 {Z : ax_Z} {ad0 ad : Nat → Nat} {q : ax_M} (B : ax_B Z "VoteAuctionsModel" b_M_findCounts none) (hn : Z.2.2.2.2.2.2.2.2.2.2.2.1 = 5) (hR : ax_R Z 2 0 0) (hE : ax_E Z ad0 [] 0 0 none q) (hag : ∀ a, a ∉ ([] : List Nat) → ad a = ad0 a)   : ∀ (n : Nat) (M : ax_M) (v0 : Option Nat) (v1 : Int32) (v2 : Int32), F_M_findCounts_102  n M v0 v1 v2 = some q → ax_W Z ad 0 0 102 [(0, ax_O v0), (1, ax_I v1), (2, ax_I v2)] [] M := by
  intro n
  induction n with
  | zero => intro M v0 v1 v2 hf; cases hf
  | succ n ih => exact K_M_findCounts_102 B hn hR hE hag ih
def G_M_findCounts_69 (rec37 : ax_M → Option Nat → Int32 → Int32 → Option (ax_M)) (M : ax_M) (v0 : Option Nat) (v1 : Int32) (v2 : Int32) (s0 : Int32) (s1 : Int32) (s2 : Option Nat) : Option (ax_M) := (ax_pi M 3 48 s2 (s1 + s0)).bind (fun M1 => (some (v2 + 1)).bind (fun y2 => rec37 M1 v0 v1 y2))
set_option maxRecDepth 100000 in
set_option maxHeartbeats 4000000 in
theorem K_M_findCounts_69 {Z : ax_Z} {ad0 ad : Nat → Nat} {q : ax_M} (B : ax_B Z "VoteAuctionsModel" b_M_findCounts none) (hn : Z.2.2.2.2.2.2.2.2.2.2.2.1 = 5) (hR : ax_R Z 2 0 0) (hE : ax_E Z ad0 [] 0 0 none q) (hag : ∀ a, a ∉ ([] : List Nat) → ad a = ad0 a) {rec37 : ax_M → Option Nat → Int32 → Int32 → Option (ax_M)} (hr37 : ∀ (M : ax_M) (v0 : Option Nat) (v1 : Int32) (v2 : Int32), rec37 M v0 v1 v2 = some q → ax_W Z ad 0 0 37 [(0, ax_O v0), (1, ax_I v1), (2, ax_I v2)] [] M) : ∀ (M : ax_M) (v0 : Option Nat) (v1 : Int32) (v2 : Int32) (s0 : Int32) (s1 : Int32) (s2 : Option Nat), G_M_findCounts_69 rec37 M v0 v1 v2 s0 s1 s2 = some q → ax_W Z ad 0 0 69 [(0, ax_O v0), (1, ax_I v1), (2, ax_I v2)] [ax_I s0, ax_I s1, ax_O s2] M := by
  intro M v0 v1 v2 s0 s1 s2 hf
  unfold G_M_findCounts_69 at hf
  refine ax_iadd B d_M_findCounts_69 ?_
  refine ax_putI B d_M_findCounts_70 k_M_197 rfl rfl rfl rfl hf (fun M1 hf => ?_)
  refine ax_iincN B (j := 2) (lv' := fun y => [(2, ax_I y), (0, ax_O v0), (1, ax_I v1)]) d_M_findCounts_73 rfl hf rfl (by rw [hn]; decide) (fun _ => rfl) (fun y2 hf => ?_)
  refine ax_goto B (tgt := 37) d_M_findCounts_76 (by decide) ?_
  refine ax_sub [1, 2, 0] rfl ?_
  exact hr37 M1 v0 v1 y2 hf
def G_M_findCounts_37 (rec37 : ax_M → Option Nat → Int32 → Int32 → Option (ax_M)) (M : ax_M) (v0 : Option Nat) (v1 : Int32) (v2 : Int32) : Option (ax_M) := (ax_gi M 3 3 v0).bind (fun x1 => if x1 ≤ v2 then (ax_gr M 3 9 v0).bind (fun x2 => (ax_ri M 0 x2 v1).bind (fun x3 => if x3 = 2 then (ax_ob M 3 v0).bind (fun _ => (f_M_runOff M v0 v1).bind (fun q4 => some q4)) else (ax_pi M 3 49 v0 0).bind (fun M5 => F_M_findCounts_102 64 M5 v0 v1 0))) else (ax_gi M 3 48 v0).bind (fun x6 => (ax_gr M 3 42 v0).bind (fun x7 => (ax_ri M 0 x7 v2).bind (fun x8 => if x8 < 0 then G_M_findCounts_69 rec37 M v0 v1 v2 0 x6 v0 else (ax_ob M 3 v0).bind (fun _ => (f_M_weightOf M v0 v1 v2).bind (fun q9 => G_M_findCounts_69 rec37 q9.2 v0 v1 v2 q9.1 x6 v0))))))
set_option maxRecDepth 100000 in
set_option maxHeartbeats 4000000 in
theorem K_M_findCounts_37 {Z : ax_Z} {ad0 ad : Nat → Nat} {q : ax_M} (B : ax_B Z "VoteAuctionsModel" b_M_findCounts none) (hn : Z.2.2.2.2.2.2.2.2.2.2.2.1 = 5) (hR : ax_R Z 2 0 0) (hE : ax_E Z ad0 [] 0 0 none q) (hag : ∀ a, a ∉ ([] : List Nat) → ad a = ad0 a) {rec37 : ax_M → Option Nat → Int32 → Int32 → Option (ax_M)} (hr37 : ∀ (M : ax_M) (v0 : Option Nat) (v1 : Int32) (v2 : Int32), rec37 M v0 v1 v2 = some q → ax_W Z ad 0 0 37 [(0, ax_O v0), (1, ax_I v1), (2, ax_I v2)] [] M) : ∀ (M : ax_M) (v0 : Option Nat) (v1 : Int32) (v2 : Int32), G_M_findCounts_37 rec37 M v0 v1 v2 = some q → ax_W Z ad 0 0 37 [(0, ax_O v0), (1, ax_I v1), (2, ax_I v2)] [] M := by
  intro M v0 v1 v2 hf
  unfold G_M_findCounts_37 at hf
  refine ax_iload_n B d_M_findCounts_37 rfl (j := 2) rfl ?_
  refine ax_aload_n B d_M_findCounts_38 rfl (j := 0) rfl ?_
  refine ax_getI B d_M_findCounts_39 k_M_136 rfl hf (fun x1 hf => ?_)
  refine ax_icmp_ge B (tgt := 79) d_M_findCounts_42 (by decide) hf (fun hf => ?_) (fun hf => ?_)
  · refine ax_aload_n B d_M_findCounts_79 rfl (j := 0) rfl ?_
    refine ax_getR B d_M_findCounts_80 k_M_23 rfl hf (fun x2 hf => ?_)
    refine ax_iload_n B d_M_findCounts_83 rfl (j := 1) rfl ?_
    refine ax_iald B d_M_findCounts_84 (t := 0) (by decide) rfl hf (fun x3 hf => ?_)
    refine ax_iconst B (v := 2) (by decide) d_M_findCounts_85 ?_
    refine ax_icmp_ne B (tgt := 95) d_M_findCounts_86 (by decide) hf (fun hf => ?_) (fun hf => ?_)
    · refine ax_aload_n B d_M_findCounts_89 rfl (j := 0) rfl ?_
      refine ax_iload_n B d_M_findCounts_90 rfl (j := 1) rfl ?_
      refine ax_cVN B hR (as := [ax_I v1]) (N := fun q => q) d_M_findCounts_91 l_M_206 m_M_runOff hf (fun q h => c_M_runOff _ _ _ _ _ h) rfl rfl (by decide) (by decide) (by decide) (by decide) (Nat.le_of_ble_eq_true rfl) (fun q4 hf => ?_)
      exact ax_vreturn B hE d_M_findCounts_94 hf hag (by decide) (by decide)
    · refine ax_aload_n B d_M_findCounts_95 rfl (j := 0) rfl ?_
      refine ax_iconst B (v := 0) (by decide) d_M_findCounts_96 ?_
      refine ax_putI B d_M_findCounts_97 k_M_209 rfl rfl rfl rfl hf (fun M5 hf => ?_)
      refine ax_iconst B (v := 0) (by decide) d_M_findCounts_100 ?_
      refine ax_istore_n B (lv' := [(2, ax_I 0), (0, ax_O v0), (1, ax_I v1)]) d_M_findCounts_101 rfl (by rw [hn]; decide) rfl ?_
      refine ax_sub [1, 2, 0] rfl ?_
      exact L_M_findCounts_102 B hn hR hE hag 64 M5 v0 v1 0 hf
  · refine ax_aload_n B d_M_findCounts_45 rfl (j := 0) rfl ?_
    refine ax_dup B rfl d_M_findCounts_46 ?_
    refine ax_getI B d_M_findCounts_47 k_M_197 rfl hf (fun x6 hf => ?_)
    refine ax_aload_n B d_M_findCounts_50 rfl (j := 0) rfl ?_
    refine ax_getR B d_M_findCounts_51 k_M_117 rfl hf (fun x7 hf => ?_)
    refine ax_iload_n B d_M_findCounts_54 rfl (j := 2) rfl ?_
    refine ax_iald B d_M_findCounts_55 (t := 0) (by decide) rfl hf (fun x8 hf => ?_)
    refine ax_if_lt B (tgt := 68) d_M_findCounts_56 (by decide) hf (fun hf => ?_) (fun hf => ?_)
    · refine ax_iconst B (v := 0) (by decide) d_M_findCounts_68 ?_
      exact K_M_findCounts_69 B hn hR hE hag hr37 M v0 v1 v2 0 x6 v0 hf
    · refine ax_aload_n B d_M_findCounts_59 rfl (j := 0) rfl ?_
      refine ax_iload_n B d_M_findCounts_60 rfl (j := 1) rfl ?_
      refine ax_iload_n B d_M_findCounts_61 rfl (j := 2) rfl ?_
      refine ax_cVV B hR (as := [ax_I v1, ax_I v2]) (V := fun q => ax_I q.1) (N := fun q => q.2) d_M_findCounts_62 l_M_203 m_M_weightOf hf (fun q h => c_M_weightOf _ _ _ _ _ _ h) rfl rfl (by decide) (by decide) (by decide) (by decide) (Nat.le_of_ble_eq_true rfl) (fun q9 hf => ?_)
      refine ax_goto B (tgt := 69) d_M_findCounts_65 (by decide) ?_
      exact K_M_findCounts_69 B hn hR hE hag hr37 q9.2 v0 v1 v2 q9.1 x6 v0 hf
def F_M_findCounts_37  : Nat → ax_M → Option Nat → Int32 → Int32 → Option (ax_M)
  | 0 => fun _ _ _ _ => none
  | n + 1 => G_M_findCounts_37 (F_M_findCounts_37  n)
set_option maxRecDepth 100000 in
set_option maxHeartbeats 4000000 in
theorem L_M_findCounts_37 {Z : ax_Z} {ad0 ad : Nat → Nat} {q : ax_M} (B : ax_B Z "VoteAuctionsModel" b_M_findCounts none) (hn : Z.2.2.2.2.2.2.2.2.2.2.2.1 = 5) (hR : ax_R Z 2 0 0) (hE : ax_E Z ad0 [] 0 0 none q) (hag : ∀ a, a ∉ ([] : List Nat) → ad a = ad0 a)   : ∀ (n : Nat) (M : ax_M) (v0 : Option Nat) (v1 : Int32) (v2 : Int32), F_M_findCounts_37  n M v0 v1 v2 = some q → ax_W Z ad 0 0 37 [(0, ax_O v0), (1, ax_I v1), (2, ax_I v2)] [] M := by
  intro n
  induction n with
  | zero => intro M v0 v1 v2 hf; cases hf
  | succ n ih => exact K_M_findCounts_37 B hn hR hE hag ih
def G_M_findCounts_17 (rec17 : ax_M → Option Nat → Int32 → Int32 → Option (ax_M)) (M : ax_M) (v0 : Option Nat) (v1 : Int32) (v2 : Int32) : Option (ax_M) := if 4 ≤ v2 then F_M_findCounts_37 64 M v0 v1 0 else (ax_gr M 3 44 v0).bind (fun x1 => (ax_ti M 0 x1 v2 0).bind (fun M2 => (some (v2 + 1)).bind (fun y3 => rec17 M2 v0 v1 y3)))
set_option maxRecDepth 100000 in
set_option maxHeartbeats 4000000 in
theorem K_M_findCounts_17 {Z : ax_Z} {ad0 ad : Nat → Nat} {q : ax_M} (B : ax_B Z "VoteAuctionsModel" b_M_findCounts none) (hn : Z.2.2.2.2.2.2.2.2.2.2.2.1 = 5) (hR : ax_R Z 2 0 0) (hE : ax_E Z ad0 [] 0 0 none q) (hag : ∀ a, a ∉ ([] : List Nat) → ad a = ad0 a) {rec17 : ax_M → Option Nat → Int32 → Int32 → Option (ax_M)} (hr17 : ∀ (M : ax_M) (v0 : Option Nat) (v1 : Int32) (v2 : Int32), rec17 M v0 v1 v2 = some q → ax_W Z ad 0 0 17 [(0, ax_O v0), (1, ax_I v1), (2, ax_I v2)] [] M) : ∀ (M : ax_M) (v0 : Option Nat) (v1 : Int32) (v2 : Int32), G_M_findCounts_17 rec17 M v0 v1 v2 = some q → ax_W Z ad 0 0 17 [(0, ax_O v0), (1, ax_I v1), (2, ax_I v2)] [] M := by
  intro M v0 v1 v2 hf
  unfold G_M_findCounts_17 at hf
  refine ax_iload_n B d_M_findCounts_17 rfl (j := 2) rfl ?_
  refine ax_iconst B (v := 4) (by decide) d_M_findCounts_18 ?_
  refine ax_icmp_ge B (tgt := 35) d_M_findCounts_19 (by decide) hf (fun hf => ?_) (fun hf => ?_)
  · refine ax_iconst B (v := 0) (by decide) d_M_findCounts_35 ?_
    refine ax_istore_n B (lv' := [(2, ax_I 0), (0, ax_O v0), (1, ax_I v1)]) d_M_findCounts_36 rfl (by rw [hn]; decide) rfl ?_
    refine ax_sub [1, 2, 0] rfl ?_
    exact L_M_findCounts_37 B hn hR hE hag 64 M v0 v1 0 hf
  · refine ax_aload_n B d_M_findCounts_22 rfl (j := 0) rfl ?_
    refine ax_getR B d_M_findCounts_23 k_M_123 rfl hf (fun x1 hf => ?_)
    refine ax_iload_n B d_M_findCounts_26 rfl (j := 2) rfl ?_
    refine ax_iconst B (v := 0) (by decide) d_M_findCounts_27 ?_
    refine ax_iast B d_M_findCounts_28 (t := 0) (by decide) rfl hf (fun M2 hf => ?_)
    refine ax_iincN B (j := 2) (lv' := fun y => [(2, ax_I y), (0, ax_O v0), (1, ax_I v1)]) d_M_findCounts_29 rfl hf rfl (by rw [hn]; decide) (fun _ => rfl) (fun y3 hf => ?_)
    refine ax_goto B (tgt := 17) d_M_findCounts_32 (by decide) ?_
    refine ax_sub [1, 2, 0] rfl ?_
    exact hr17 M2 v0 v1 y3 hf
def F_M_findCounts_17  : Nat → ax_M → Option Nat → Int32 → Int32 → Option (ax_M)
  | 0 => fun _ _ _ _ => none
  | n + 1 => G_M_findCounts_17 (F_M_findCounts_17  n)
set_option maxRecDepth 100000 in
set_option maxHeartbeats 4000000 in
theorem L_M_findCounts_17 {Z : ax_Z} {ad0 ad : Nat → Nat} {q : ax_M} (B : ax_B Z "VoteAuctionsModel" b_M_findCounts none) (hn : Z.2.2.2.2.2.2.2.2.2.2.2.1 = 5) (hR : ax_R Z 2 0 0) (hE : ax_E Z ad0 [] 0 0 none q) (hag : ∀ a, a ∉ ([] : List Nat) → ad a = ad0 a)   : ∀ (n : Nat) (M : ax_M) (v0 : Option Nat) (v1 : Int32) (v2 : Int32), F_M_findCounts_17  n M v0 v1 v2 = some q → ax_W Z ad 0 0 17 [(0, ax_O v0), (1, ax_I v1), (2, ax_I v2)] [] M := by
  intro n
  induction n with
  | zero => intro M v0 v1 v2 hf; cases hf
  | succ n ih => exact K_M_findCounts_17 B hn hR hE hag ih
def f_M_findCounts (M : ax_M) (x0 : Option Nat) (p0 : Int32) : Option (ax_M) := (ax_ob M 3 x0).bind (fun _ => (f_M_findVoices M x0 p0).bind (fun q1 => (ax_pi q1 3 48 x0 0).bind (fun M2 => (ax_pi M2 3 47 x0 0).bind (fun M3 => F_M_findCounts_17 64 M3 x0 p0 0))))
set_option maxRecDepth 100000 in
set_option maxHeartbeats 4000000 in
theorem c_M_findCounts (l : Launch) (G : ax_G) (M : ax_M) (x0 : Option Nat) (p0 : Int32) {q : ax_M} (hf : f_M_findCounts M x0 p0 = some q) : ax_C l G y_M_findCounts b_M_findCounts 5 none [] 2 0 0 [ax_O x0, ax_I p0] M none q := by
  refine ax_ofW (by decide +kernel) (lv0 := [(0, ax_O x0), (1, ax_I p0)]) (Nat.le_of_ble_eq_true rfl) rfl ?_
  intro Z ad B hin _ _ hn hR hE
  have hag : ∀ a, a ∉ ([] : List Nat) → ad a = ad a := fun _ _ => rfl
  unfold f_M_findCounts at hf
  refine ax_aload_n B d_M_findCounts_0 rfl (j := 0) rfl ?_
  refine ax_iload_n B d_M_findCounts_1 rfl (j := 1) rfl ?_
  refine ax_cVN B hR (as := [ax_I p0]) (N := fun q => q) d_M_findCounts_2 l_M_194 m_M_findVoices hf (fun q h => c_M_findVoices _ _ _ _ _ h) rfl rfl (by decide) (by decide) (by decide) (by decide) (Nat.le_of_ble_eq_true rfl) (fun q1 hf => ?_)
  refine ax_aload_n B d_M_findCounts_5 rfl (j := 0) rfl ?_
  refine ax_iconst B (v := 0) (by decide) d_M_findCounts_6 ?_
  refine ax_putI B d_M_findCounts_7 k_M_197 rfl rfl rfl rfl hf (fun M2 hf => ?_)
  refine ax_aload_n B d_M_findCounts_10 rfl (j := 0) rfl ?_
  refine ax_iconst B (v := 0) (by decide) d_M_findCounts_11 ?_
  refine ax_putI B d_M_findCounts_12 k_M_200 rfl rfl rfl rfl hf (fun M3 hf => ?_)
  refine ax_iconst B (v := 0) (by decide) d_M_findCounts_15 ?_
  refine ax_istore_n B (lv' := [(2, ax_I 0), (0, ax_O x0), (1, ax_I p0)]) d_M_findCounts_16 rfl (by rw [hn]; decide) rfl ?_
  refine ax_sub [1, 2, 0] rfl ?_
  exact L_M_findCounts_17 B hn hR hE hag 64 M3 x0 p0 0 hf
def G_M_count_24  (M : ax_M)  : Option (Int32 × ax_M) := some ((-1), M)
set_option maxRecDepth 100000 in
set_option maxHeartbeats 4000000 in
theorem K_M_count_24 {Z : ax_Z} {ad0 ad : Nat → Nat} {q : Int32 × ax_M} (B : ax_B Z "VoteAuctionsModel" b_M_count (some .int)) (hn : Z.2.2.2.2.2.2.2.2.2.2.2.1 = 3) (hR : ax_R Z 3 0 0) (hE : ax_E Z ad0 [] 0 0 (some (ax_I q.1)) q.2) (hag : ∀ a, a ∉ ([] : List Nat) → ad a = ad0 a)   : ∀ (M : ax_M) , G_M_count_24  M  = some q → ax_W Z ad 0 0 24 [] [] M := by
  intro M  hf
  unfold G_M_count_24 at hf
  refine ax_iconst B (v := (-1)) (by decide) d_M_count_24 ?_
  exact ax_ireturn B hE d_M_count_25 hf rfl hag (by decide) (by decide)
def f_M_count (M : ax_M) (x0 : Option Nat) (p0 : Int32) (p1 : Int32) : Option (Int32 × ax_M) := (ax_ob M 3 x0).bind (fun _ => (f_M_isQuestion M x0 p0).bind (fun q1 => if q1.1 = 0 then G_M_count_24 q1.2 else (ax_gr q1.2 3 10 x0).bind (fun x2 => (ax_ri q1.2 0 x2 p0).bind (fun x3 => (f_M_isIn q1.2 p1 0 (x3 - 1)).bind (fun q4 => if q4.1 = 0 then G_M_count_24 q4.2 else (ax_ob q4.2 3 x0).bind (fun _ => (f_M_findCounts q4.2 x0 p0).bind (fun q5 => (ax_gr q5 3 44 x0).bind (fun x6 => (ax_ri q5 0 x6 p1).bind (fun x7 => some (x7, q5))))))))))
set_option maxRecDepth 100000 in
set_option maxHeartbeats 4000000 in
theorem c_M_count (l : Launch) (G : ax_G) (M : ax_M) (x0 : Option Nat) (p0 : Int32) (p1 : Int32) {q : Int32 × ax_M} (hf : f_M_count M x0 p0 p1 = some q) : ax_C l G y_M_count b_M_count 3 (some .int) [] 3 0 0 [ax_O x0, ax_I p0, ax_I p1] M (some (ax_I q.1)) q.2 := by
  refine ax_ofW (by decide +kernel) (lv0 := [(0, ax_O x0), (1, ax_I p0), (2, ax_I p1)]) (Nat.le_of_ble_eq_true rfl) rfl ?_
  intro Z ad B hin _ _ hn hR hE
  have hag : ∀ a, a ∉ ([] : List Nat) → ad a = ad a := fun _ _ => rfl
  unfold f_M_count at hf
  refine ax_aload_n B d_M_count_0 rfl (j := 0) rfl ?_
  refine ax_iload_n B d_M_count_1 rfl (j := 1) rfl ?_
  refine ax_cVV B hR (as := [ax_I p0]) (V := fun q => ax_I q.1) (N := fun q => q.2) d_M_count_2 l_M_173 m_M_isQuestion hf (fun q h => c_M_isQuestion _ _ _ _ _ h) rfl rfl (by decide) (by decide) (by decide) (by decide) (Nat.le_of_ble_eq_true rfl) (fun q1 hf => ?_)
  refine ax_if_eq B (tgt := 24) d_M_count_5 (by decide) hf (fun hf => ?_) (fun hf => ?_)
  · refine ax_sub [] rfl ?_
    exact K_M_count_24 B hn hR hE hag q1.2 hf
  · refine ax_iload_n B d_M_count_8 rfl (j := 2) rfl ?_
    refine ax_iconst B (v := 0) (by decide) d_M_count_9 ?_
    refine ax_aload_n B d_M_count_10 rfl (j := 0) rfl ?_
    refine ax_getR B d_M_count_11 k_M_26 rfl hf (fun x2 hf => ?_)
    refine ax_iload_n B d_M_count_14 rfl (j := 1) rfl ?_
    refine ax_iald B d_M_count_15 (t := 0) (by decide) rfl hf (fun x3 hf => ?_)
    refine ax_iconst B (v := 1) (by decide) d_M_count_16 ?_
    refine ax_isub B d_M_count_17 ?_
    refine ax_cSV B hR (as := [ax_I p1, ax_I 0, ax_I (x3 - 1)]) (V := fun q => ax_I q.1) (N := fun q => q.2) d_M_count_18 l_M_139 m_M_isIn hf (fun q h => c_M_isIn _ _ _ _ _ _ h) rfl rfl (by decide) (by decide) (by decide) (by decide) (Nat.le_of_ble_eq_true rfl) (fun q4 hf => ?_)
    refine ax_if_ne B (tgt := 26) d_M_count_21 (by decide) hf (fun hf => ?_) (fun hf => ?_)
    · refine ax_sub [] rfl ?_
      exact K_M_count_24 B hn hR hE hag q4.2 hf
    · refine ax_aload_n B d_M_count_26 rfl (j := 0) rfl ?_
      refine ax_iload_n B d_M_count_27 rfl (j := 1) rfl ?_
      refine ax_cVN B hR (as := [ax_I p0]) (N := fun q => q) d_M_count_28 l_M_217 m_M_findCounts hf (fun q h => c_M_findCounts _ _ _ _ _ h) rfl rfl (by decide) (by decide) (by decide) (by decide) (Nat.le_of_ble_eq_true rfl) (fun q5 hf => ?_)
      refine ax_aload_n B d_M_count_31 rfl (j := 0) rfl ?_
      refine ax_getR B d_M_count_32 k_M_123 rfl hf (fun x6 hf => ?_)
      refine ax_iload_n B d_M_count_35 rfl (j := 2) rfl ?_
      refine ax_iald B d_M_count_36 (t := 0) (by decide) rfl hf (fun x7 hf => ?_)
      exact ax_ireturn B hE d_M_count_37 hf rfl hag (by decide) (by decide)
def G_M_fallen_52  (M : ax_M) (s0 : Int32) : Option (Int32 × ax_M) := some (s0, M)
set_option maxRecDepth 100000 in
set_option maxHeartbeats 4000000 in
theorem K_M_fallen_52 {Z : ax_Z} {ad0 ad : Nat → Nat} {q : Int32 × ax_M} (B : ax_B Z "VoteAuctionsModel" b_M_fallen (some .int)) (hn : Z.2.2.2.2.2.2.2.2.2.2.2.1 = 3) (hR : ax_R Z 3 0 0) (hE : ax_E Z ad0 [] 0 0 (some (ax_I q.1)) q.2) (hag : ∀ a, a ∉ ([] : List Nat) → ad a = ad0 a)   : ∀ (M : ax_M) (s0 : Int32), G_M_fallen_52  M s0 = some q → ax_W Z ad 0 0 52 [] [ax_I s0] M := by
  intro M s0 hf
  unfold G_M_fallen_52 at hf
  exact ax_ireturn B hE d_M_fallen_52 hf rfl hag (by decide) (by decide)
def f_M_fallen (M : ax_M) (x0 : Option Nat) (p0 : Int32) (p1 : Int32) : Option (Int32 × ax_M) := (ax_ob M 3 x0).bind (fun _ => (f_M_isQuestion M x0 p0).bind (fun q1 => if q1.1 = 0 then some ((-1), q1.2) else (ax_gr q1.2 3 9 x0).bind (fun x2 => (ax_ri q1.2 0 x2 p0).bind (fun x3 => if x3 = 2 then (ax_ob q1.2 3 x0).bind (fun _ => (f_M_findCounts q1.2 x0 p0).bind (fun q4 => (ax_gi q4 3 47 x0).bind (fun x5 => (f_M_isIn q4 p1 0 (x5 - 1)).bind (fun q6 => if q6.1 = 0 then G_M_fallen_52 q6.2 (-1) else (ax_gr q6.2 3 46 x0).bind (fun x7 => (ax_ri q6.2 0 x7 p1).bind (fun x8 => G_M_fallen_52 q6.2 x8)))))) else some ((-3), q1.2)))))
set_option maxRecDepth 100000 in
set_option maxHeartbeats 4000000 in
theorem c_M_fallen (l : Launch) (G : ax_G) (M : ax_M) (x0 : Option Nat) (p0 : Int32) (p1 : Int32) {q : Int32 × ax_M} (hf : f_M_fallen M x0 p0 p1 = some q) : ax_C l G y_M_fallen b_M_fallen 3 (some .int) [] 3 0 0 [ax_O x0, ax_I p0, ax_I p1] M (some (ax_I q.1)) q.2 := by
  refine ax_ofW (by decide +kernel) (lv0 := [(0, ax_O x0), (1, ax_I p0), (2, ax_I p1)]) (Nat.le_of_ble_eq_true rfl) rfl ?_
  intro Z ad B hin _ _ hn hR hE
  have hag : ∀ a, a ∉ ([] : List Nat) → ad a = ad a := fun _ _ => rfl
  unfold f_M_fallen at hf
  refine ax_aload_n B d_M_fallen_0 rfl (j := 0) rfl ?_
  refine ax_iload_n B d_M_fallen_1 rfl (j := 1) rfl ?_
  refine ax_cVV B hR (as := [ax_I p0]) (V := fun q => ax_I q.1) (N := fun q => q.2) d_M_fallen_2 l_M_173 m_M_isQuestion hf (fun q h => c_M_isQuestion _ _ _ _ _ h) rfl rfl (by decide) (by decide) (by decide) (by decide) (Nat.le_of_ble_eq_true rfl) (fun q1 hf => ?_)
  refine ax_if_ne B (tgt := 10) d_M_fallen_5 (by decide) hf (fun hf => ?_) (fun hf => ?_)
  · refine ax_iconst B (v := (-1)) (by decide) d_M_fallen_8 ?_
    exact ax_ireturn B hE d_M_fallen_9 hf rfl hag (by decide) (by decide)
  · refine ax_aload_n B d_M_fallen_10 rfl (j := 0) rfl ?_
    refine ax_getR B d_M_fallen_11 k_M_23 rfl hf (fun x2 hf => ?_)
    refine ax_iload_n B d_M_fallen_14 rfl (j := 1) rfl ?_
    refine ax_iald B d_M_fallen_15 (t := 0) (by decide) rfl hf (fun x3 hf => ?_)
    refine ax_iconst B (v := 2) (by decide) d_M_fallen_16 ?_
    refine ax_icmp_eq B (tgt := 23) d_M_fallen_17 (by decide) hf (fun hf => ?_) (fun hf => ?_)
    · refine ax_aload_n B d_M_fallen_23 rfl (j := 0) rfl ?_
      refine ax_iload_n B d_M_fallen_24 rfl (j := 1) rfl ?_
      refine ax_cVN B hR (as := [ax_I p0]) (N := fun q => q) d_M_fallen_25 l_M_217 m_M_findCounts hf (fun q h => c_M_findCounts _ _ _ _ _ h) rfl rfl (by decide) (by decide) (by decide) (by decide) (Nat.le_of_ble_eq_true rfl) (fun q4 hf => ?_)
      refine ax_iload_n B d_M_fallen_28 rfl (j := 2) rfl ?_
      refine ax_iconst B (v := 0) (by decide) d_M_fallen_29 ?_
      refine ax_aload_n B d_M_fallen_30 rfl (j := 0) rfl ?_
      refine ax_getI B d_M_fallen_31 k_M_200 rfl hf (fun x5 hf => ?_)
      refine ax_iconst B (v := 1) (by decide) d_M_fallen_34 ?_
      refine ax_isub B d_M_fallen_35 ?_
      refine ax_cSV B hR (as := [ax_I p1, ax_I 0, ax_I (x5 - 1)]) (V := fun q => ax_I q.1) (N := fun q => q.2) d_M_fallen_36 l_M_139 m_M_isIn hf (fun q h => c_M_isIn _ _ _ _ _ _ h) rfl rfl (by decide) (by decide) (by decide) (by decide) (Nat.le_of_ble_eq_true rfl) (fun q6 hf => ?_)
      refine ax_if_eq B (tgt := 51) d_M_fallen_39 (by decide) hf (fun hf => ?_) (fun hf => ?_)
      · refine ax_iconst B (v := (-1)) (by decide) d_M_fallen_51 ?_
        refine ax_sub [] rfl ?_
        exact K_M_fallen_52 B hn hR hE hag q6.2 (-1) hf
      · refine ax_aload_n B d_M_fallen_42 rfl (j := 0) rfl ?_
        refine ax_getR B d_M_fallen_43 k_M_129 rfl hf (fun x7 hf => ?_)
        refine ax_iload_n B d_M_fallen_46 rfl (j := 2) rfl ?_
        refine ax_iald B d_M_fallen_47 (t := 0) (by decide) rfl hf (fun x8 hf => ?_)
        refine ax_goto B (tgt := 52) d_M_fallen_48 (by decide) ?_
        refine ax_sub [] rfl ?_
        exact K_M_fallen_52 B hn hR hE hag q6.2 x8 hf
    · refine ax_bipush B (v := (-3)) (by decide) d_M_fallen_20 ?_
      exact ax_ireturn B hE d_M_fallen_22 hf rfl hag (by decide) (by decide)
def G_M_first_59  (M : ax_M) (s0 : Int32) : Option (Int32 × ax_M) := some (s0, M)
set_option maxRecDepth 100000 in
set_option maxHeartbeats 4000000 in
theorem K_M_first_59 {Z : ax_Z} {ad0 ad : Nat → Nat} {q : Int32 × ax_M} (B : ax_B Z "VoteAuctionsModel" b_M_first (some .int)) (hn : Z.2.2.2.2.2.2.2.2.2.2.2.1 = 4) (hR : ax_R Z 3 0 0) (hE : ax_E Z ad0 [] 0 0 (some (ax_I q.1)) q.2) (hag : ∀ a, a ∉ ([] : List Nat) → ad a = ad0 a)   : ∀ (M : ax_M) (s0 : Int32), G_M_first_59  M s0 = some q → ax_W Z ad 0 0 59 [] [ax_I s0] M := by
  intro M s0 hf
  unfold G_M_first_59 at hf
  exact ax_ireturn B hE d_M_first_59 hf rfl hag (by decide) (by decide)
def G_M_first_39 (rec9 : ax_M → Option Nat → Int32 → Int32 → Int32 → Option (Int32 × ax_M)) (M : ax_M) (v0 : Option Nat) (v1 : Int32) (v3 : Int32) (s0 : Int32) : Option (Int32 × ax_M) := (some (v3 + 1)).bind (fun y1 => rec9 M v0 v1 s0 y1)
set_option maxRecDepth 100000 in
set_option maxHeartbeats 4000000 in
theorem K_M_first_39 {Z : ax_Z} {ad0 ad : Nat → Nat} {q : Int32 × ax_M} (B : ax_B Z "VoteAuctionsModel" b_M_first (some .int)) (hn : Z.2.2.2.2.2.2.2.2.2.2.2.1 = 4) (hR : ax_R Z 3 0 0) (hE : ax_E Z ad0 [] 0 0 (some (ax_I q.1)) q.2) (hag : ∀ a, a ∉ ([] : List Nat) → ad a = ad0 a) {rec9 : ax_M → Option Nat → Int32 → Int32 → Int32 → Option (Int32 × ax_M)} (hr9 : ∀ (M : ax_M) (v0 : Option Nat) (v1 : Int32) (v2 : Int32) (v3 : Int32), rec9 M v0 v1 v2 v3 = some q → ax_W Z ad 0 0 9 [(0, ax_O v0), (1, ax_I v1), (2, ax_I v2), (3, ax_I v3)] [] M) : ∀ (M : ax_M) (v0 : Option Nat) (v1 : Int32) (v3 : Int32) (s0 : Int32), G_M_first_39 rec9 M v0 v1 v3 s0 = some q → ax_W Z ad 0 0 39 [(0, ax_O v0), (1, ax_I v1), (3, ax_I v3)] [ax_I s0] M := by
  intro M v0 v1 v3 s0 hf
  unfold G_M_first_39 at hf
  refine ax_istore_n B (lv' := [(2, ax_I s0), (0, ax_O v0), (1, ax_I v1), (3, ax_I v3)]) d_M_first_39 rfl (by rw [hn]; decide) rfl ?_
  refine ax_iincN B (j := 3) (lv' := fun y => [(3, ax_I y), (2, ax_I s0), (0, ax_O v0), (1, ax_I v1)]) d_M_first_40 rfl hf rfl (by rw [hn]; decide) (fun _ => rfl) (fun y1 hf => ?_)
  refine ax_goto B (tgt := 9) d_M_first_43 (by decide) ?_
  refine ax_sub [2, 3, 1, 0] rfl ?_
  exact hr9 M v0 v1 s0 y1 hf
def G_M_first_9 (rec9 : ax_M → Option Nat → Int32 → Int32 → Int32 → Option (Int32 × ax_M)) (M : ax_M) (v0 : Option Nat) (v1 : Int32) (v2 : Int32) (v3 : Int32) : Option (Int32 × ax_M) := (ax_gr M 3 10 v0).bind (fun x1 => (ax_ri M 0 x1 v1).bind (fun x2 => if x2 ≤ v3 then (ax_gi M 3 49 v0).bind (fun x3 => if x3 = 0 then G_M_first_59 M (-3) else G_M_first_59 M v2) else (ax_gr M 3 44 v0).bind (fun x4 => (ax_ri M 0 x4 v3).bind (fun x5 => (ax_gr M 3 44 v0).bind (fun x6 => (ax_ri M 0 x6 v2).bind (fun x7 => if x5 ≤ x7 then G_M_first_39 rec9 M v0 v1 v3 v2 else G_M_first_39 rec9 M v0 v1 v3 v3))))))
set_option maxRecDepth 100000 in
set_option maxHeartbeats 4000000 in
theorem K_M_first_9 {Z : ax_Z} {ad0 ad : Nat → Nat} {q : Int32 × ax_M} (B : ax_B Z "VoteAuctionsModel" b_M_first (some .int)) (hn : Z.2.2.2.2.2.2.2.2.2.2.2.1 = 4) (hR : ax_R Z 3 0 0) (hE : ax_E Z ad0 [] 0 0 (some (ax_I q.1)) q.2) (hag : ∀ a, a ∉ ([] : List Nat) → ad a = ad0 a) {rec9 : ax_M → Option Nat → Int32 → Int32 → Int32 → Option (Int32 × ax_M)} (hr9 : ∀ (M : ax_M) (v0 : Option Nat) (v1 : Int32) (v2 : Int32) (v3 : Int32), rec9 M v0 v1 v2 v3 = some q → ax_W Z ad 0 0 9 [(0, ax_O v0), (1, ax_I v1), (2, ax_I v2), (3, ax_I v3)] [] M) : ∀ (M : ax_M) (v0 : Option Nat) (v1 : Int32) (v2 : Int32) (v3 : Int32), G_M_first_9 rec9 M v0 v1 v2 v3 = some q → ax_W Z ad 0 0 9 [(0, ax_O v0), (1, ax_I v1), (2, ax_I v2), (3, ax_I v3)] [] M := by
  intro M v0 v1 v2 v3 hf
  unfold G_M_first_9 at hf
  refine ax_iload_n B d_M_first_9 rfl (j := 3) rfl ?_
  refine ax_aload_n B d_M_first_10 rfl (j := 0) rfl ?_
  refine ax_getR B d_M_first_11 k_M_26 rfl hf (fun x1 hf => ?_)
  refine ax_iload_n B d_M_first_14 rfl (j := 1) rfl ?_
  refine ax_iald B d_M_first_15 (t := 0) (by decide) rfl hf (fun x2 hf => ?_)
  refine ax_icmp_ge B (tgt := 46) d_M_first_16 (by decide) hf (fun hf => ?_) (fun hf => ?_)
  · refine ax_aload_n B d_M_first_46 rfl (j := 0) rfl ?_
    refine ax_getI B d_M_first_47 k_M_209 rfl hf (fun x3 hf => ?_)
    refine ax_if_eq B (tgt := 57) d_M_first_50 (by decide) hf (fun hf => ?_) (fun hf => ?_)
    · refine ax_bipush B (v := (-3)) (by decide) d_M_first_57 ?_
      refine ax_sub [] rfl ?_
      exact K_M_first_59 B hn hR hE hag M (-3) hf
    · refine ax_iload_n B d_M_first_53 rfl (j := 2) rfl ?_
      refine ax_goto B (tgt := 59) d_M_first_54 (by decide) ?_
      refine ax_sub [] rfl ?_
      exact K_M_first_59 B hn hR hE hag M v2 hf
  · refine ax_aload_n B d_M_first_19 rfl (j := 0) rfl ?_
    refine ax_getR B d_M_first_20 k_M_123 rfl hf (fun x4 hf => ?_)
    refine ax_iload_n B d_M_first_23 rfl (j := 3) rfl ?_
    refine ax_iald B d_M_first_24 (t := 0) (by decide) rfl hf (fun x5 hf => ?_)
    refine ax_aload_n B d_M_first_25 rfl (j := 0) rfl ?_
    refine ax_getR B d_M_first_26 k_M_123 rfl hf (fun x6 hf => ?_)
    refine ax_iload_n B d_M_first_29 rfl (j := 2) rfl ?_
    refine ax_iald B d_M_first_30 (t := 0) (by decide) rfl hf (fun x7 hf => ?_)
    refine ax_icmp_le B (tgt := 38) d_M_first_31 (by decide) hf (fun hf => ?_) (fun hf => ?_)
    · refine ax_iload_n B d_M_first_38 rfl (j := 2) rfl ?_
      refine ax_sub [0, 1, 3] rfl ?_
      exact K_M_first_39 B hn hR hE hag hr9 M v0 v1 v3 v2 hf
    · refine ax_iload_n B d_M_first_34 rfl (j := 3) rfl ?_
      refine ax_goto B (tgt := 39) d_M_first_35 (by decide) ?_
      refine ax_sub [0, 1, 3] rfl ?_
      exact K_M_first_39 B hn hR hE hag hr9 M v0 v1 v3 v3 hf
def F_M_first_9  : Nat → ax_M → Option Nat → Int32 → Int32 → Int32 → Option (Int32 × ax_M)
  | 0 => fun _ _ _ _ _ => none
  | n + 1 => G_M_first_9 (F_M_first_9  n)
set_option maxRecDepth 100000 in
set_option maxHeartbeats 4000000 in
theorem L_M_first_9 {Z : ax_Z} {ad0 ad : Nat → Nat} {q : Int32 × ax_M} (B : ax_B Z "VoteAuctionsModel" b_M_first (some .int)) (hn : Z.2.2.2.2.2.2.2.2.2.2.2.1 = 4) (hR : ax_R Z 3 0 0) (hE : ax_E Z ad0 [] 0 0 (some (ax_I q.1)) q.2) (hag : ∀ a, a ∉ ([] : List Nat) → ad a = ad0 a)   : ∀ (n : Nat) (M : ax_M) (v0 : Option Nat) (v1 : Int32) (v2 : Int32) (v3 : Int32), F_M_first_9  n M v0 v1 v2 v3 = some q → ax_W Z ad 0 0 9 [(0, ax_O v0), (1, ax_I v1), (2, ax_I v2), (3, ax_I v3)] [] M := by
  intro n
  induction n with
  | zero => intro M v0 v1 v2 v3 hf; cases hf
  | succ n ih => exact K_M_first_9 B hn hR hE hag ih
def f_M_first (M : ax_M) (x0 : Option Nat) (p0 : Int32) : Option (Int32 × ax_M) := (ax_ob M 3 x0).bind (fun _ => (f_M_findCounts M x0 p0).bind (fun q1 => F_M_first_9 64 q1 x0 p0 0 1))
set_option maxRecDepth 100000 in
set_option maxHeartbeats 4000000 in
theorem c_M_first (l : Launch) (G : ax_G) (M : ax_M) (x0 : Option Nat) (p0 : Int32) {q : Int32 × ax_M} (hf : f_M_first M x0 p0 = some q) : ax_C l G y_M_first b_M_first 4 (some .int) [] 3 0 0 [ax_O x0, ax_I p0] M (some (ax_I q.1)) q.2 := by
  refine ax_ofW (by decide +kernel) (lv0 := [(0, ax_O x0), (1, ax_I p0)]) (Nat.le_of_ble_eq_true rfl) rfl ?_
  intro Z ad B hin _ _ hn hR hE
  have hag : ∀ a, a ∉ ([] : List Nat) → ad a = ad a := fun _ _ => rfl
  unfold f_M_first at hf
  refine ax_aload_n B d_M_first_0 rfl (j := 0) rfl ?_
  refine ax_iload_n B d_M_first_1 rfl (j := 1) rfl ?_
  refine ax_cVN B hR (as := [ax_I p0]) (N := fun q => q) d_M_first_2 l_M_217 m_M_findCounts hf (fun q h => c_M_findCounts _ _ _ _ _ h) rfl rfl (by decide) (by decide) (by decide) (by decide) (Nat.le_of_ble_eq_true rfl) (fun q1 hf => ?_)
  refine ax_iconst B (v := 0) (by decide) d_M_first_5 ?_
  refine ax_istore_n B (lv' := [(2, ax_I 0), (0, ax_O x0), (1, ax_I p0)]) d_M_first_6 rfl (by rw [hn]; decide) rfl ?_
  refine ax_iconst B (v := 1) (by decide) d_M_first_7 ?_
  refine ax_istore_n B (lv' := [(3, ax_I 1), (2, ax_I 0), (0, ax_O x0), (1, ax_I p0)]) d_M_first_8 rfl (by rw [hn]; decide) rfl ?_
  refine ax_sub [2, 3, 1, 0] rfl ?_
  exact L_M_first_9 B hn hR hE hag 64 q1 x0 p0 0 1 hf
