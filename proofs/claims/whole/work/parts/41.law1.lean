def ax_M0 : ax_M := (fun _ _ => 0, fun _ _ => 0, fun _ _ => none, fun _ => none)
def f_law (xs : Nat → Int32) (L : Nat) : Option (Int32 × ax_M) := (ax_nw ax_M0 0 (.inl 0) [some 9999]).bind (fun M1 => (ax_gf [some 9999, some 0] [0 + 1, 0 + 2, 0 + 3, 0 + 4, 0 + 5, 0 + 6, 0 + 7, 0 + 8, 0 + 9]).bind (fun _ => (f_V_init 0 M1 0).bind (fun M2 => (ax_nw M2 100 (.inl 3) [some 9999, some 0]).bind (fun M3 => (ax_gf [some 9999, some 0, some 100] [100 + 1, 100 + 2, 100 + 3, 100 + 4, 100 + 5, 100 + 6, 100 + 7, 100 + 8, 100 + 9, 100 + 10, 100 + 11, 100 + 12, 100 + 13, 100 + 14, 100 + 15, 100 + 16, 100 + 17, 100 + 18, 100 + 19, 100 + 20, 100 + 21, 100 + 22, 100 + 23, 100 + 24, 100 + 25, 100 + 26, 100 + 27, 100 + 28, 100 + 29, 100 + 30, 100 + 31, 100 + 32, 100 + 33, 100 + 34, 100 + 35, 100 + 36, 100 + 37, 100 + 38, 100 + 39, 100 + 40]).bind (fun _ => (f_M_init 100 M3 100).bind (fun M4 => F_L_law xs L 600 M4 0))))))
set_option maxRecDepth 100000 in
set_option maxHeartbeats 4000000 in
theorem L_L_law {Z : ax_Z} {b L : Nat} {xs : Nat → Int32} {q : Int32 × ax_M} (B : ax_B Z "VoteAuctionsLaw" code ret) (hR : ax_R Z 9 600000 7302250) (hX : ax_scr Z b L xs) (hq : q.1 = 1) (hn : Z.2.2.2.2.2.2.2.2.2.2.2.1 = 4) (hQ : ∀ (c s : Nat) (ad' : Nat → Nat) (M : ax_M) (lv : List (Nat × ax_U)), c ≤ 600000 → s ≤ 7302250 → ax_W Z ad' c s 1153 lv [ax_I 1] M) : ∀ (n : Nat) (ad : Nat → Nat) (c s : Nat) (M : ax_M) (v3 : Int32), ad 9999 = b → c + 6 * n ≤ 600000 → s + 54 * n ≤ 7302250 → F_L_law xs L n M v3 = some q → ax_W Z ad c s 18 [(0, ax_O (some 9999)), (1, ax_O (some 0)), (2, ax_O (some 100)), (3, ax_I v3)] [] M := by
  intro n
  induction n with
  | zero => intro ad c s M v3 _ _ _ hf; cases hf
  | succ n ih =>
    intro ad c s M v3 had hc hs hf
    exact K_L_head B hR hX hq (fun ad' h M v => ih ad' (c + 6) (s + 54) M v h (by omega) (by omega)) (by omega) (by omega) hn (fun ad' M lv => hQ c s ad' M lv (by omega) (by omega)) had M v3 hf
set_option maxRecDepth 100000 in
set_option maxHeartbeats 4000000 in
theorem c_law {Z : ax_Z} {ad : Nat → Nat} {b L : Nat} {xs : Nat → Int32} {q : Int32 × ax_M} (B : ax_B Z "VoteAuctionsLaw" code ret) (hR : ax_R Z 9 600000 7302250) (hX : ax_scr Z b L xs) (hq : q.1 = 1) (hn : Z.2.2.2.2.2.2.2.2.2.2.2.1 = 4) (hQ : ∀ (c s : Nat) (ad' : Nat → Nat) (M : ax_M) (lv : List (Nat × ax_U)), c ≤ 600000 → s ≤ 7302250 → ax_W Z ad' c s 1153 lv [ax_I 1] M) (had : ad 9999 = b) (hf : f_law xs L = some q) : ax_W Z ad 0 0 0 [(0, ax_O (some 9999))] [] ax_M0 := by
  unfold f_law at hf
  refine ax_new B hR (ci := 0) (n := 15) d_L_law_0 j_L_7 rfl (ax_cvr (by simp) ax_cv0) ax_cv0 (by decide) (by decide) hf (fun M1 ad1 h1 hf => ?_)
  replace had := (h1 9999 (by simp)).trans had
  refine ax_dup B rfl d_L_law_3 ?_
  refine ax_cI B hR (as := []) d_L_law_4 l_L_9 m_V_init (ax_cvr (by simp) ax_cv0) (ax_cvr (by simp) ax_cv0) hf (fun q h => c_V_init _ _ _ _ _ h) rfl rfl (by decide) (by decide) (by decide) (by decide) (Nat.le_of_ble_eq_true rfl) (fun M2 ad2 h2 hf => ?_)
  replace had := (h2 9999 (by simp)).trans had
  refine ax_astore_n B (lv' := [(1, ax_O (some 0)), (0, ax_O (some 9999))]) d_L_law_7 rfl (by rw [hn]; decide) rfl ?_
  refine ax_new B hR (ci := 3) (n := 50) d_L_law_8 j_L_10 rfl (ax_cvr (by simp) (ax_cvr (by simp) ax_cv0)) ax_cv0 (by decide) (by decide) hf (fun M3 ad3 h3 hf => ?_)
  replace had := (h3 9999 (by simp)).trans had
  refine ax_dup B rfl d_L_law_11 ?_
  refine ax_cI B hR (as := []) d_L_law_12 l_L_12 m_M_init (ax_cvr (by simp) (ax_cvr (by simp) ax_cv0)) (ax_cvr (by simp) ax_cv0) hf (fun q h => c_M_init _ _ _ _ _ h) rfl rfl (by decide) (by decide) (by decide) (by decide) (Nat.le_of_ble_eq_true rfl) (fun M4 ad4 h4 hf => ?_)
  replace had := (h4 9999 (by simp)).trans had
  refine ax_astore_n B (lv' := [(2, ax_O (some 100)), (1, ax_O (some 0)), (0, ax_O (some 9999))]) d_L_law_15 rfl (by rw [hn]; decide) rfl ?_
  refine ax_iconst B (v := 0) (by decide) d_L_law_16 ?_
  refine ax_istore_n B (lv' := [(3, ax_I 0), (2, ax_O (some 100)), (1, ax_O (some 0)), (0, ax_O (some 9999))]) d_L_law_17 rfl (by rw [hn]; decide) rfl ?_
  refine ax_sub [3, 2, 1, 0] rfl ?_
  exact L_L_law B hR hX hq hn hQ 600 ad4 51 917 M4 0 had (by decide) (by decide) hf
/-! THE CLAIM OUT OF ONE WALK OF THE LAW'S BODY. Your part is whole_start (and what it stands on); all else here is the same for every law, but numbers. -/
def R_law : String := "VoteAuctionsLaw"
def lw_P (b : Addr) (xs : List Int32) (args : Array Value) (s : State) : Prop := args = #[.ref b] ∧ s.IntsAt b xs ∧ xs.length ≤ 3072 ∧ (Jvm.Cond.and given_1 narrow_1).before args s = true
def lw_Q (_ : Array Value) (s : State) (o : Outcome) (t : State) : Prop := o = .returned (some (.int 1)) ∧ Framed s o t [] 600000 7302250
def lw_Z (below : List Frame) (a : Array Value) (s : State) : State → Prop := fun t => ∃ o, t.status = .running ∧ Ended t below o ∧ lw_Q a s o t
/-- the law's own end, with 1 on the stack, nothing written that was there before, its room as the claim has it -/
theorem lw_ret {p : Program} {l : Launch} {e : Env} {s : State} {m : MethodId} {below : List Frame} {meth : Method} {c : Code} {b : Nat} (hx : p.tables.exec = Jvm.exec) (hb : c.code = code) (hr : meth.sig.returnType = ret) (hlocks : meth.locks = false) {pc : Nat} {H : Heap} {ls : Array Slot} (hdg : decode code pc = .ok (.ireturn, 1)) : W p l e room_1 s m #[Value.ref b] below meth c H [] 600000 7302250 (lw_Z below #[Value.ref b] s) (F0 m pc ls [.int 1]) := by
  intro T hT X
  obtain ⟨fs, hret, hrun, hended, hW, hframe⟩ := X.leave (v := some (.int 1)) (hlocks := hlocks) (fun h => by rw [hr] at h; cases h)
  have hmeth' : T.vm.method? m = some meth := X.method'
  refine ⟨T.setFrames fs, ?_, .returned (some (.int 1)), hrun, hended, rfl, ⟨_, rfl⟩, hW, hframe⟩
  jvm_step X.here [X.here.top, hx, hb, hdg, hmeth', hr, ret, narrow_b1]
  (try refine ⟨rfl, ?_⟩); (try refine ⟨rfl, ?_⟩)
  first | (intro acts; rw [hret _ acts rfl rfl rfl]) | rw [hret _ _ rfl rfl rfl]
  exact Steps.refl _
/-- what holds at the law's entry: the machine, the code, the tables' words (any of lw_tbl by 'hts w (by decide +kernel)'), the script of L ints xs at the cell b, what the Statement gives of the start (any of its parts by flat_of_before) -/
def lw_At (p : Program) (s : State) (m : MethodId) (meth : Method) (c : Code) (b L : Nat) (xs : Nat → Int32) : Prop :=
  p.tables.exec = Jvm.exec ∧ c.code = code ∧ meth.sig.returnType = ret ∧ c.maxLocals = 4 ∧ s.vm.findClass R_law = some m.cls ∧ (∀ w ∈ lw_tbl, w.before #[Value.ref b] s = true) ∧ va_X b L xs s s.heap ∧ b < s.heap.size ∧ meth.locks = false ∧ (Jvm.Cond.and given_1 narrow_1).before #[Value.ref b] s = true

set_option maxRecDepth 100000 in
set_option maxHeartbeats 4000000 in
/-- the law's walk, out of what its function answers -/
theorem law_open (hok : ∀ (xs : Nat → Int32) (L : Nat), L ≤ 3072 → ∃ M, f_law xs L = some (1, M)) {p : Program} {e : Env} {s : State} {m : MethodId} {below : List Frame} {meth : Method} {c : Code} (l : Launch) {b L : Nat} {xs : Nat → Int32} (hL : L ≤ 3072) (C0 : lw_At p s m meth c b L xs) : W p l e room_1 s m #[Value.ref b] below meth c s.heap [] 0 0 (lw_Z below #[Value.ref b] s) (entryFrame m ([Value.ref b] : List Value).toArray 4) := by
  obtain ⟨hx, hb, hr, hml, hown, hts, hX, hbl, hlocks, hgv⟩ := id C0
  have hws : ∀ w ∈ ax_ws, w.before #[Value.ref b] s = true := fun w h => hts w (List.mem_filter.mp h).1
  obtain ⟨c0, iS0, hK0⟩ := u_known (C := ax_R0) (T := ax_T0) (N := 15) (n := 15) hws ax_v0 (hws _ ax_k0.2.2.2.1)
  obtain ⟨c1, iS1, hK1⟩ := u_known (C := ax_R1) (T := ax_T1) (N := 14) (n := 14) hws ax_v1 (hws _ ax_k1.2.2.2.1)
  obtain ⟨c2, iS2, hK2⟩ := u_known (C := ax_R2) (T := ax_T2) (N := 14) (n := 14) hws ax_v2 (hws _ ax_k2.2.2.2.1)
  obtain ⟨c3, iS3, hK3⟩ := u_known (C := ax_R3) (T := ax_T3) (N := 50) (n := 50) hws ax_v3 (hws _ ax_k3.2.2.2.1)
  obtain ⟨a0, k0, p0, e00, e01, e02⟩ := Cond.arrayClass_spec (hws _ a_0)
  obtain ⟨a1, k1, p1, e10, e11, e12⟩ := Cond.arrayClass_spec (hws _ a_1)
  obtain ⟨a2, k2, p2, e20, e21, e22⟩ := Cond.arrayClass_spec (hws _ a_2)
  have hao : ∀ C ∈ ax_ao, va_AO C s := by
    intro C hC
    simp only [ax_ao, List.mem_cons, List.not_mem_nil, or_false] at hC
    rcases hC with rfl | rfl
    · exact va_AO.of (hts _ (List.mem_append_right _ (List.mem_of_getElem? (i := 16) (by decide +kernel))))
    · exact va_AO.of (hts _ (List.mem_append_right _ (List.mem_of_getElem? (i := 18) (by decide +kernel))))
  obtain ⟨p3, a3, k3, e30, e3i, e31, e32, e33⟩ := Cond.arrayOver_spec (hao "VoteAuctions$Question" (by simp [ax_ao]))
  obtain ⟨p4, a4, k4, e40, e4i, e41, e42, e43⟩ := Cond.arrayOver_spec (hao "VoteAuctions$Auction" (by simp [ax_ao]))
  obtain ⟨G, hG⟩ : ∃ G : ax_G, G = (fun k => if k = 0 then c0 else if k = 1 then c1 else if k = 2 then c2 else c3, fun k => if k = 0 then iS0 else if k = 1 then iS1 else if k = 2 then iS2 else iS3, fun t => if t = 0 then a0 else if t = 1 then a1 else if t = 2 then a2 else if t = 3 then a3 else a4, s.heap.size) := ⟨_, rfl⟩
  have hK : ax_K G s := by
    refine ⟨⟨?_, ?_⟩, ?_, hao⟩
    · intro k q hq
      subst hG
      match k, hq with
      | 0, hq => cases hq; exact hK0
      | 1, hq => cases hq; exact hK1
      | 2, hq => cases hq; exact hK2
      | 3, hq => cases hq; exact hK3
      | n + 4, hq => simp [ax_cl] at hq
    · intro k q hq
      subst hG
      match k, hq with
      | 0, hq => cases hq; exact ⟨fun n z => ⟨fun k h => (by cases h), k0, e01, p0, e02⟩, e00⟩
      | 1, hq => cases hq; exact ⟨fun n z => ⟨fun k h => (by cases h), k1, e11, p1, e12⟩, e10⟩
      | 2, hq => cases hq; exact ⟨fun n z => ⟨fun k h => (by cases h), k2, e21, p2, e22⟩, e20⟩
      | 3, hq => cases hq; exact ⟨fun n z => ⟨fun k h => (by cases h), k3, e31, p3, e32⟩, ⟨k3, p3, e31, e32, e30, e33⟩⟩
      | 4, hq => cases hq; exact ⟨fun n z => ⟨fun k h => (by cases h), k4, e41, p4, e42⟩, ⟨k4, p4, e41, e42, e40, e43⟩⟩
      | n + 5, hq => simp [ax_ts, ax_nt] at hq
    · intro w hw
      exact va_Nw.of (ax_nest_tab w hw) (hts w (List.mem_append_right _ (List.mem_filter.mp hw).1))
  have hGb : G.2.2.2 = s.heap.size := by rw [hG]
  obtain ⟨M, hf⟩ := hok xs L hL
  have hw := c_law (Z := (p, l, e, room_1, s, m, #[Value.ref b], below, meth, c, G, 4, lw_Z below #[Value.ref b] s)) (ad := fun _ => b) (b := b) (L := L) (xs := xs) (q := (1, M))
    ⟨hx, hb, hml, hr, hws, hown, hlocks, hK, by show G.2.2.2 ≤ s.heap.size; omega⟩ ⟨show 9 ≤ room_1.frames by decide, show 37 * 9 ≤ room_1.locals by decide, show 600000 ≤ room_1.cells by decide, show 7302250 ≤ room_1.slots by decide⟩ ⟨hX, hbl, hGb⟩ rfl rfl (fun c' s' ad' M' lv hc hs => by
      intro H locs ls h1 h2 h3
      refine va_forget (fun q hq => ?_) ?_
      · have := h3.2.2 q hq
        show s.heap.size ≤ q.base
        rw [← hGb]
        exact this
      refine W.widen hc hs ?_
      exact lw_ret hx hb hr hlocks d_L_law_1153) rfl hf
  have hl := lv_entry ([Value.ref b]) (n := 4) (Nat.le_of_ble_eq_true rfl)
  rw [lg_entry_eq]
  exact hw s.heap [] _ hl ⟨[], List.nodup_nil, fun a => by simp [ax_M0, ax_s], fun k q h => by simp [ax_ls] at h, ⟨fun i j p q h => by simp [ax_ls] at h, fun k q h => by simp [ax_ls] at h⟩, fun a k b h => by simp at h⟩ va_S.rf
