/-! CONTRACTS, CALLS, RETURNS, NEW CELLS -/
theorem ax_sl_len (ad : Nat → Nat) (as : List ax_U) : (lg_sl (as.map (ax_v ad))).length = (as.map ax_ct).sum := by
  induction as with
  | nil => rfl
  | cons v t ih =>
    simp only [lg_sl, List.map_cons, List.flatMap_cons, List.length_append, ax_v_cat, List.sum_cons] at ih ⊢
    rw [ih]
    rcases v with x | x | o <;> simp [ax_ct]
def ax_la : Nat → List ax_U → List (Nat × ax_U)
  | _, [] => []
  | i, v :: vs => (i, v) :: ax_la (i + ax_ct v) vs
theorem ax_lv_args (ad : Nat → Nat) (as : List ax_U) : ∀ i, lv_args i (as.map (ax_v ad)) = ax_lv ad (ax_la i as) := by
  induction as with
  | nil => intro i; rfl
  | cons v t ih =>
    intro i
    simp only [List.map_cons, lv_args, ax_v_cat, ih]
    rcases v with x | x | o <;> rfl
theorem ax_v_st (ad : Nat → Nat) (st : List ax_U) : ((st.map (ax_v ad)).map fun v => v.category).sum = (st.map ax_ct).sum := by
  rw [List.map_map]
  congr 1
  exact List.map_congr_left (fun v _ => ax_v_cat ad v)
def ax_rm (d mc ms : Nat) : Room := { frames := d, cells := mc, slots := ms, locals := 37 * d }
def ax_Qc (G : ax_G) (ad : Nat → Nat) (gs : List Nat) (r : Option ax_U) (M' : ax_M) : Array Value → State → Outcome → State → Prop := fun _ st o t =>
  (∃ ad' : Nat → Nat, (∀ a, a ∉ gs → ad' a = ad a) ∧ o = .returned (r.map (ax_v ad')) ∧ ax_P G ad' M' t.heap) ∧ va_F (ax_A G) st t
/-- a method's contract: from the memory M, with these values, it answers r and leaves M'; 'gs': the ids that it makes -/
def ax_C (l : Launch) (G : ax_G) (y : MethodName) (cc : ByteArray) (nL : Nat) (ret : Option FieldType) (gs : List Nat) (d mc ms : Nat) (as : List ax_U) (M : ax_M) (r : Option ax_U) (M' : ax_M) : Prop :=
  ∀ ad : Nat → Nat, Met l y (Cond.code y cc nL ret :: ax_ws) (ax_rm d mc ms) (va_Pc (as.map (ax_v ad)) (fun U => G.2.2.2 ≤ U.heap.size ∧ ax_P G ad M U.heap ∧ ax_K G U)) (ax_Qc G ad gs r M') mc ms (ax_A G)
/-- the room of a walk -/
abbrev ax_R (Z : ax_Z) (d mc ms : Nat) : Prop := d ≤ Z.2.2.2.1.frames ∧ 37 * d ≤ Z.2.2.2.1.locals ∧ mc ≤ Z.2.2.2.1.cells ∧ ms ≤ Z.2.2.2.1.slots
/-- where a walk ends -/
abbrev ax_E (Z : ax_Z) (ad0 : Nat → Nat) (gs : List Nat) (mc ms : Nat) (r : Option ax_U) (M' : ax_M) : Prop := Z.2.2.2.2.2.2.2.2.2.2.2.2 = MQ Z.2.2.2.2.2.2.2.1 (ax_Qc Z.2.2.2.2.2.2.2.2.2.2.1 ad0 gs r M') Z.2.2.2.2.2.2.1 Z.2.2.2.2.1 mc ms (ax_A Z.2.2.2.2.2.2.2.2.2.2.1)
theorem ax_blind {G : ax_G} {ad : Nat → Nat} {M : ax_M} {as : List Value} : FrameBlind (va_Pc as (fun U => G.2.2.2 ≤ U.heap.size ∧ ax_P G ad M U.heap ∧ ax_K G U)) := by
  intro a U g mk q
  obtain ⟨q0, q1, q2, q3⟩ := q
  exact ⟨q0, q1, q2, ax_K.same (u := U) (U := U.calling g mk a) rfl q3⟩
/-- a contract, out of the walk of its body -/
theorem ax_ofW {l : Launch} {G : ax_G} {y : MethodName} {cc : ByteArray} {nL : Nat} {ret : Option FieldType} {gs : List Nat} {d mc ms : Nat} {as : List ax_U} {M M' : ax_M} {r : Option ax_U} (hy : plainName y.cls = true) (hn : (as.map ax_ct).sum ≤ nL) {lv0 : List (Nat × ax_U)} (hl0 : ax_la 0 as = lv0)
    (body : ∀ (Z : ax_Z) (ad : Nat → Nat), ax_B Z y.cls cc ret → Z.2.2.2.2.2.2.2.2.1.name = y.name → Z.2.1 = l → Z.2.2.2.2.2.2.2.2.2.2.1 = G → Z.2.2.2.2.2.2.2.2.2.2.2.1 = nL → ax_R Z d mc ms → ax_E Z ad gs mc ms r M' → ax_W Z ad 0 0 0 lv0 [] M) : ax_C l G y cc nL ret gs d mc ms as M r M' := by
  subst hl0
  intro ad
  refine Met.ofW (cc := cc) (maxL := nL) (ret := ret) hy rfl ?_
  intro p e s m args below meth c s₁ B hml hv
  obtain ⟨hv, hsz, hP, hK⟩ := hv
  have hts := atoms_spec (ws := Cond.code y cc nL ret :: ax_ws) B.pre
  have hown : s.vm.findClass y.cls = some m.cls := findClass_of_methodNamed B.named
  have hb := body (p, l, e, ax_rm d mc ms, s, m, args, below, meth, c, G, nL, MQ below (ax_Qc G ad gs r M') args s mc ms (ax_A G)) ad
    ⟨B.exec, B.bytes, hml, B.returns, fun w hw => hts w (List.mem_cons_of_mem _ hw), hown, B.notSynchronized, hK, hsz⟩ (name_of_methodNamed B.named B.method).1 rfl rfl rfl ⟨Nat.le_refl _, Nat.le_refl _, Nat.le_refl _, Nat.le_refl _⟩ rfl
  have hl := lv_entry (as.map (ax_v ad)) (n := nL) (by rw [ax_sl_len]; exact hn)
  rw [hv, lg_entry_eq]
  rw [hv] at hb
  rw [ax_lv_args] at hl
  exact hb s.heap [] _ hl hP va_S.rf
section
variable {Z : ax_Z} {own : String} {cc : ByteArray} {ret : Option FieldType} {ad : Nat → Nat} {cells slots pc : Nat} {lv : List (Nat × ax_U)} {st : List ax_U} {M : ax_M}
/-- behind a call -/
theorem ax_behind {p : Program} {l : Launch} {e : Env} {R : Room} {s : State} {m : MethodId} {args : Array Value} {below : List Frame} {meth : Method} {c : Code} {H : Heap} {locs : List Loc} {cells slots mc ms pc : Nat} {Q : State → Prop} {ls : Array Slot} {st0 rest : List Value} {G : ax_G} {ad : Nat → Nat} {gs : List Nat} {M' : ax_M} {r : Option ax_U} {a : Array Value}
    (hr : va_Run p l e R s m args below meth c H locs cells slots mc ms (F0 m pc ls st0) rest (ax_Qc G ad gs r M' a) (ax_A G)) (hS : va_S (ax_A G) s.heap H locs)
    (kk : ∀ (ad' : Nat → Nat) (H1 : Heap) (locs1 : List Loc), (∀ a, a ∉ gs → ad' a = ad a) → ax_P G ad' M' H1 → va_S (ax_A G) s.heap H1 locs1 → W p l e R s m args below meth c H1 locs1 (cells + mc) (slots + ms) Q (F0 m (pc + 3) ls ((r.map (ax_v ad')).toList ++ rest))) : W p l e R s m args below meth c H locs cells slots Q (F0 m pc ls st0) := by
  intro T hT X
  obtain ⟨v, st₀, t, T', L, h0, X', hL, e1, e2, ⟨⟨ad', h1, hv, hP⟩, hz, hk⟩, stp⟩ := hr T hT X
  cases hv
  rw [h0] at hz hk
  obtain ⟨t2, a1, b1⟩ := kk ad' T'.heap (locs ++ L) h1 (by rw [e1]; exact hP)
    ⟨Nat.le_trans hS.1 (by rw [e1]; exact hz), fun q g1 g2 => by rw [e1, hk q (Nat.lt_of_lt_of_le g1 hS.1) g2]; exact hS.2.1 q g1 g2, fun q hq => by
      rcases List.mem_append.mp hq with h | h
      · exact hS.2.2 q h
      · exact hL q h⟩ T' rfl X'
  exact ⟨t2, stp t2 a1, b1⟩
theorem ax_pay {s : State} {args : Array Value} {y : MethodName} {bytes : ByteArray} {maxL : Nat} {rt : Option FieldType} (hts : ∀ w ∈ ax_ws, w.before args s = true) (hc : Cond.code y bytes maxL rt ∈ ax_ws) : ∀ w ∈ Cond.code y bytes maxL rt :: ax_ws, ∀ (a' : Array Value) (U : State), s.WarmedH U.vm → w.before a' U = true := by
  have key : ∀ w ∈ ax_ws, ∀ (a' : Array Value) (U : State), s.WarmedH U.vm → w.before a' U = true := fun w hw a' U hW => word_at hW (ax_ws_good w hw) (hts w hw)
  intro w hw
  rcases List.mem_cons.mp hw with rfl | h
  · exact key _ hc
  · exact key _ h
theorem ax_pre {s : State} {H : Heap} {G : ax_G} {as : List ax_U} (hK : ax_K G s) (hsz : G.2.2.2 ≤ H.size) (hP : ax_P G ad M H) : ∀ U : State, U.heap = H → s.WarmedH U.vm → va_Pc (as.map (ax_v ad)) (fun U => G.2.2.2 ≤ U.heap.size ∧ ax_P G ad M U.heap ∧ ax_K G U) (as.map (ax_v ad)).toArray U :=
  fun U hU hW => ⟨rfl, by rw [hU]; exact hsz, by rw [hU]; exact hP, hK.moved hW⟩
theorem ax_len {y : MethodName} {n : Nat} (h : (parseMethodDescriptor y.desc).map (fun d => d.parameters.length) = some n) : ∀ sig, parseMethodDescriptor y.desc = some sig → n = sig.parameters.length := by
  intro sig hs
  rw [hs] at h
  exact (Option.some.inj h).symm
/-- what is left to be walked behind a call -/
abbrev ax_KK (Z : ax_Z) (ad : Nat → Nat) (gs : List Nat) (cells slots pc : Nat) (lv : List (Nat × ax_U)) (st : List ax_U) (M : ax_M) (r : Option ax_U) (M' : ax_M) : Prop :=
  ∀ (ad' : Nat → Nat) (H : Heap) (locs : List Loc) (ls : Array Slot), lv_has ls Z.2.2.2.2.2.2.2.2.2.2.2.1 (ax_lv ad lv) → (∀ a, a ∉ gs → ad' a = ad a) → ax_P Z.2.2.2.2.2.2.2.2.2.2.1 ad' M' H → va_S (ax_A Z.2.2.2.2.2.2.2.2.2.2.1) Z.2.2.2.2.1.heap H locs → W Z.1 Z.2.1 Z.2.2.1 Z.2.2.2.1 Z.2.2.2.2.1 Z.2.2.2.2.2.1 Z.2.2.2.2.2.2.1 Z.2.2.2.2.2.2.2.1 Z.2.2.2.2.2.2.2.2.1 Z.2.2.2.2.2.2.2.2.2.1 H locs cells slots Z.2.2.2.2.2.2.2.2.2.2.2.2 (F0 Z.2.2.2.2.2.1 (pc + 3) ls ((r.map (ax_v ad')).toList ++ st.map (ax_v ad)))
/-- a static method is called -/
theorem ax_callS (B : ax_B Z own cc ret) {d0 mc0 ms0 : Nat} (hR : ax_R Z d0 mc0 ms0) {idx : Nat} {y : MethodName} {bytes : ByteArray} {maxL n d mc ms : Nat} {rt : Option FieldType} {gs : List Nat} {as : List ax_U} {M' : ax_M} {r : Option ax_U} {stk : List ax_U}
    (hd : decode cc pc = .ok (.invokestatic idx, 3)) (hl : ax_ml own idx y) (hw : ax_ms y bytes maxL rt n) (hC : ax_C Z.2.1 Z.2.2.2.2.2.2.2.2.2.2.1 y bytes maxL rt gs d mc ms as M r M') (hst : stk = as.reverse ++ st) (hn : as.length = n) (hf : d + 1 ≤ d0) (hm : maxL ≤ 18) (hc : cells + mc ≤ mc0) (hs : slots + ms ≤ ms0) (h8 : (st.map ax_ct).sum ≤ 8)
    (kk : ax_KK Z ad gs (cells + mc) (slots + ms) pc lv st M r M') : ax_W Z ad cells slots pc lv stk M := by
  intro H locs ls h1 h2 h3
  obtain ⟨hx, hb, hml, hr, hts, hown, hlk, hK, hsz⟩ := B
  obtain ⟨w1, w2, w3, w4, w5, w6⟩ := hw
  have hlo : 8 + (maxL + 11) + (ax_rm d mc ms).locals ≤ Z.2.2.2.1.locals := by
    have := hR.2.1
    show 8 + (maxL + 11) + 37 * d ≤ _
    omega
  have hfr : (ax_rm d mc ms).frames + 1 ≤ Z.2.2.2.1.frames := Nat.le_trans hf hR.1
  have hroom : cells + mc ≤ Z.2.2.2.1.cells ∧ slots + ms ≤ Z.2.2.2.1.slots := ⟨Nat.le_trans hc hR.2.2.1, Nat.le_trans hs hR.2.2.2⟩
  have hstk : stk.map (ax_v ad) = (as.map (ax_v ad)).reverse ++ st.map (ax_v ad) := by rw [hst, List.map_append, List.map_reverse]
  have hH : Z.2.2.2.2.2.2.2.2.2.2.1.2.2.2 ≤ H.size := Nat.le_trans hsz h3.1
  have h8' : ((st.map (ax_v ad)).map fun v => v.category).sum ≤ 8 := by rw [ax_v_st]; exact h8
  rcases hl with w7 | ⟨host, w7⟩
  · exact ax_behind (va_runS (As := as.map (ax_v ad)) (rest := st.map (ax_v ad)) ⟨hx, hb, hml, hown, hts⟩ (hC ad) ⟨⟨rfl, rfl, hfr, hlo, ax_pay hts w1, List.mem_cons_self, hts _ w1, hts _ w3, ⟨w4, w5⟩, ax_len w6, hts _ w7⟩, hts _ w2⟩ ⟨ax_blind, ax_pre hK hH h2⟩ rfl (by rw [List.length_map]; exact hn) h1.1 hstk (lv_room h8') hd hroom) h3 (fun ad' H1 locs1 g1 g3 g4 => kk ad' H1 locs1 ls h1 g1 g3 g4)
  · exact ax_behind (va_runSN (As := as.map (ax_v ad)) (rest := st.map (ax_v ad)) ⟨hx, hb, hml, hown, hts⟩ (hC ad) ⟨⟨⟨rfl, rfl, hfr, hlo, ax_pay hts w1, List.mem_cons_self⟩, hts _ w1, hts _ w3, ⟨w4, w5⟩, ax_len w6, va_Nw.use (ax_nest_tab _ w7) (hK.2.1 _ w7)⟩, hts _ w2, trivial⟩ ⟨ax_blind, ax_pre hK hH h2⟩ rfl (by rw [List.length_map]; exact hn) h1.1 hstk (lv_room h8') hd hroom) h3 (fun ad' H1 locs1 g1 g3 g4 => kk ad' H1 locs1 ls h1 g1 g3 g4)
/-- a method of an object is called; the object is there, of the class -/
theorem ax_callV (B : ax_B Z own cc ret) {d0 mc0 ms0 : Nat} (hR : ax_R Z d0 mc0 ms0) {idx : Nat} {y : MethodName} {bytes : ByteArray} {maxL n d mc ms : Nat} {rt : Option FieldType} {gs : List Nat} {as : List ax_U} {M' : ax_M} {r : Option ax_U} {stk : List ax_U} {o ci : Nat}
    (hd : decode cc pc = .ok (.invokevirtual idx, 3)) (hl : ax_ml own idx y) (hw : ax_mv y bytes maxL rt n ci) (ho : ax_s M o = some (.inl ci)) (hC : ax_C Z.2.1 Z.2.2.2.2.2.2.2.2.2.2.1 y bytes maxL rt gs d mc ms (ax_O (some o) :: as) M r M') (hst : stk = as.reverse ++ ax_O (some o) :: st) (hn : as.length = n) (hf : d + 1 ≤ d0) (hm : maxL ≤ 18) (hc : cells + mc ≤ mc0) (hs : slots + ms ≤ ms0) (h8 : (st.map ax_ct).sum ≤ 8)
    (kk : ax_KK Z ad gs (cells + mc) (slots + ms) pc lv st M r M') : ax_W Z ad cells slots pc lv stk M := by
  intro H locs ls h1 h2 h3
  obtain ⟨hx, hb, hml, hr, hts, hown, hlk, hK, hsz⟩ := B
  obtain ⟨w1, w2, w8, w3, ⟨w4, w5, w6⟩, ⟨C, T, N⟩, hcl, hC0⟩ := hw
  have hlo : 8 + (maxL + 11) + (ax_rm d mc ms).locals ≤ Z.2.2.2.1.locals := by
    have := hR.2.1
    show 8 + (maxL + 11) + 37 * d ≤ _
    omega
  have hfr : (ax_rm d mc ms).frames + 1 ≤ Z.2.2.2.1.frames := Nat.le_trans hf hR.1
  have hroom : cells + mc ≤ Z.2.2.2.1.cells ∧ slots + ms ≤ Z.2.2.2.1.slots := ⟨Nat.le_trans hc hR.2.2.1, Nat.le_trans hs hR.2.2.2⟩
  have hstk : stk.map (ax_v ad) = (as.map (ax_v ad)).reverse ++ .ref (ad o) :: st.map (ax_v ad) := by rw [hst, List.map_append, List.map_reverse]; rfl
  have hH : Z.2.2.2.2.2.2.2.2.2.2.1.2.2.2 ≤ H.size := Nat.le_trans hsz h3.1
  have h8' : ((st.map (ax_v ad)).map fun v => v.category).sum ≤ 8 := by rw [ax_v_st]; exact h8
  have hpre := ax_pre (as := ax_O (some o) :: as) hK hH h2
  obtain ⟨dom, q, g1, g2, g3, g4, g5, g6, g7⟩ := h2.at ho
  have hrec := va_recv hK.1 g3 hcl (he := g7)
  dsimp only at hrec hC0
  rw [hC0] at hrec
  rcases hl with w7 | ⟨host, w7⟩
  · exact ax_behind (va_runV (As := as.map (ax_v ad)) (rest := st.map (ax_v ad)) ⟨hx, hb, hml, hown, hts⟩ (hC ad) ⟨⟨rfl, rfl, hfr, hlo, ax_pay hts w1, List.mem_cons_self, hts _ w1, hts _ w3, ⟨w4, w5⟩, ax_len w6, hts _ w7⟩, hts _ w2, hts _ w8⟩ ⟨ax_blind, hrec, hpre⟩ rfl (by rw [List.length_map]; exact hn) h1.1 hstk (lv_room h8') hd hroom) h3 (fun ad' H1 locs1 g1 g3 g4 => kk ad' H1 locs1 ls h1 g1 g3 g4)
  · exact ax_behind (va_runVN (As := as.map (ax_v ad)) (rest := st.map (ax_v ad)) ⟨hx, hb, hml, hown, hts⟩ (hC ad) ⟨⟨⟨rfl, rfl, hfr, hlo, ax_pay hts w1, List.mem_cons_self⟩, hts _ w1, hts _ w3, ⟨w4, w5⟩, ax_len w6, va_Nw.use (ax_nest_tab _ w7) (hK.2.1 _ w7)⟩, hts _ w2, hts _ w8⟩ ⟨ax_blind, hrec, hpre⟩ rfl (by rw [List.length_map]; exact hn) h1.1 hstk (lv_room h8') hd hroom) h3 (fun ad' H1 locs1 g1 g3 g4 => kk ad' H1 locs1 ls h1 g1 g3 g4)
/-- a constructor is called -/
theorem ax_callI (B : ax_B Z own cc ret) {d0 mc0 ms0 : Nat} (hR : ax_R Z d0 mc0 ms0) {idx : Nat} {y : MethodName} {bytes : ByteArray} {maxL n d mc ms : Nat} {rt : Option FieldType} {gs : List Nat} {as : List ax_U} {M' : ax_M} {r : Option ax_U} {stk : List ax_U} {o : Nat}
    (hd : decode cc pc = .ok (.invokespecial idx, 3)) (hl : ax_ml own idx y) (hw : ax_mi y bytes maxL n) (hrt : rt = none) (hC : ax_C Z.2.1 Z.2.2.2.2.2.2.2.2.2.2.1 y bytes maxL rt gs d mc ms (ax_O (some o) :: as) M r M') (hst : stk = as.reverse ++ ax_O (some o) :: st) (hn : as.length = n) (hf : d + 1 ≤ d0) (hm : maxL ≤ 18) (hc : cells + mc ≤ mc0) (hs : slots + ms ≤ ms0) (h8 : (st.map ax_ct).sum ≤ 8)
    (kk : ax_KK Z ad gs (cells + mc) (slots + ms) pc lv st M r M') : ax_W Z ad cells slots pc lv stk M := by
  subst hrt
  intro H locs ls h1 h2 h3
  obtain ⟨hx, hb, hml, hr, hts, hown, hlk, hK, hsz⟩ := B
  obtain ⟨w1, w2, w8, w3, w4, w5, w6⟩ := hw
  have hlo : 8 + (maxL + 11) + (ax_rm d mc ms).locals ≤ Z.2.2.2.1.locals := by
    have := hR.2.1
    show 8 + (maxL + 11) + 37 * d ≤ _
    omega
  have hfr : (ax_rm d mc ms).frames + 1 ≤ Z.2.2.2.1.frames := Nat.le_trans hf hR.1
  have hroom : cells + mc ≤ Z.2.2.2.1.cells ∧ slots + ms ≤ Z.2.2.2.1.slots := ⟨Nat.le_trans hc hR.2.2.1, Nat.le_trans hs hR.2.2.2⟩
  have hstk : stk.map (ax_v ad) = (as.map (ax_v ad)).reverse ++ .ref (ad o) :: st.map (ax_v ad) := by rw [hst, List.map_append, List.map_reverse]; rfl
  have hH : Z.2.2.2.2.2.2.2.2.2.2.1.2.2.2 ≤ H.size := Nat.le_trans hsz h3.1
  have h8' : ((st.map (ax_v ad)).map fun v => v.category).sum ≤ 8 := by rw [ax_v_st]; exact h8
  have hpre := ax_pre (as := ax_O (some o) :: as) hK hH h2
  rcases hl with w7 | ⟨host, w7⟩
  · exact ax_behind (va_runI (As := as.map (ax_v ad)) (rest := st.map (ax_v ad)) ⟨hx, hb, hml, hown, hts⟩ (hC ad) ⟨⟨rfl, rfl, hfr, hlo, ax_pay hts w1, List.mem_cons_self, hts _ w1, hts _ w3, ⟨w4, w5⟩, ax_len w6, hts _ w7⟩, w8, hts _ w2⟩ ⟨ax_blind, hpre⟩ rfl (by rw [List.length_map]; exact hn) h1.1 hstk (lv_room h8') hd hroom) h3 (fun ad' H1 locs1 g1 g3 g4 => kk ad' H1 locs1 ls h1 g1 g3 g4)
  · exact ax_behind (va_runIN (As := as.map (ax_v ad)) (rest := st.map (ax_v ad)) ⟨hx, hb, hml, hown, hts⟩ (hC ad) ⟨⟨⟨rfl, rfl, hfr, hlo, ax_pay hts w1, List.mem_cons_self⟩, hts _ w1, hts _ w3, ⟨w4, w5⟩, ax_len w6, va_Nw.use (ax_nest_tab _ w7) (hK.2.1 _ w7)⟩, w8, hts _ w2⟩ ⟨ax_blind, hpre⟩ rfl (by rw [List.length_map]; exact hn) h1.1 hstk (lv_room h8') hd hroom) h3 (fun ad' H1 locs1 g1 g3 g4 => kk ad' H1 locs1 ls h1 g1 g3 g4)
/-- no id moved: the walk goes on -/
theorem ax_kk0 {r : Option ax_U} {M' : ax_M} (k : ax_W Z ad cells slots (pc + 3) lv (r.toList ++ st) M') : ax_KK Z ad [] cells slots pc lv st M r M' := by
  intro ad' H locs ls h1 g1 g3 g4
  have e : ad' = ad := funext fun a => g1 a (by simp)
  subst e
  have h := k H locs ls h1 g3 g4
  rw [List.map_append] at h
  cases r <;> exact h
/-- the call rows with the function's equation in them: a value comes back -/
theorem ax_kkV {v : ax_U} {M' : ax_M} (k : ax_W Z ad cells slots (pc + 3) lv (v :: st) M') : ax_KK Z ad [] cells slots pc lv st M (some v) M' := ax_kk0 k
theorem ax_kkN {M' : ax_M} (k : ax_W Z ad cells slots (pc + 3) lv st M') : ax_KK Z ad [] cells slots pc lv st M none M' := ax_kk0 k
end
