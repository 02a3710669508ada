/-! DATA: the classes whose objects there are, their fields, the kinds of arrays, the words that last -/
def ax_ws : List Cond := lw_tbl.filter goodWord
def ax_isN (w : Cond) : Bool := match w with
  | .fieldLinkNest _ _ _ _ _ _ => true
  | .methodLinkNest _ _ _ _ => true
  | _ => false
def ax_nest : List Cond := tables_1.filter ax_isN
theorem ax_ws_good : ∀ w ∈ ax_ws, (w.onTables && w.keeps) = true ∨ ∃ ty, w = .arrayClass ty := fun w h => good_of_word (List.mem_filter.mp h).2
theorem ax_nest_tab : ∀ w ∈ ax_nest, w.onTables = true := by
  intro w h
  have h2 := (List.mem_filter.mp h).2
  cases w <;> first | rfl | (simp [ax_isN] at h2; done)
theorem ax_nest_warm : ∀ w ∈ ax_nest, ∀ {s U : State}, s.WarmedH U.vm → va_Nw w s → va_Nw w U := by
  intro w h s U hW hz
  have h2 := (List.mem_filter.mp h).2
  cases w <;> first | exact va_Nw.warmF hW hz | exact va_Nw.warmM hW hz | (simp [ax_isN] at h2; done)
theorem ax_tw {i : Nat} {w : Cond} (h : tables_1[i]? = some w) (g : goodWord w = true) : w ∈ ax_ws := List.mem_filter.mpr ⟨List.mem_append_right _ (List.mem_of_getElem? h), g⟩
theorem ax_tn {i : Nat} {w : Cond} (h : tables_1[i]? = some w) (g : ax_isN w = true) : w ∈ ax_nest := List.mem_filter.mpr ⟨List.mem_of_getElem? h, g⟩
theorem ax_ts0 {i : Nat} {w : Cond} (h : (k2_sels lw_privs)[i]? = some w) (g : goodWord w = true) : w ∈ ax_ws := List.mem_filter.mpr ⟨List.mem_append_left _ (List.mem_of_getElem? h), g⟩
theorem ax_tc1 {i : Nat} {w : Cond} (h : tables_1_1[i]? = some w) (g : goodWord w = true) : w ∈ ax_ws := List.mem_filter.mpr ⟨List.mem_append_right _ (List.mem_append_left _ (List.mem_of_getElem? h)), g⟩
theorem ax_tc2 {i : Nat} {w : Cond} (h : tables_1_2[i]? = some w) (g : goodWord w = true) : w ∈ ax_ws := List.mem_filter.mpr ⟨List.mem_append_right _ (List.mem_append_right _ (List.mem_append_left _ (List.mem_of_getElem? h))), g⟩
theorem ax_tc3 {i : Nat} {w : Cond} (h : tables_1_3[i]? = some w) (g : goodWord w = true) : w ∈ ax_ws := List.mem_filter.mpr ⟨List.mem_append_right _ (List.mem_append_right _ (List.mem_append_right _ (List.mem_append_left _ (List.mem_of_getElem? h)))), g⟩
theorem ax_tc4 {i : Nat} {w : Cond} (h : tables_1_4[i]? = some w) (g : goodWord w = true) : w ∈ ax_ws := List.mem_filter.mpr ⟨List.mem_append_right _ (List.mem_append_right _ (List.mem_append_right _ (List.mem_append_right _ (List.mem_of_getElem? h)))), g⟩
def ax_R0 : String := "VoteAuctions"
def ax_T0 : u_T := fun k => match k with
  | 0 => ("VoteAuctions", "height", "I", false)
  | 1 => ("VoteAuctions", "pot", "J", false)
  | 2 => ("VoteAuctions", "accountCount", "I", false)
  | 3 => ("VoteAuctions", "weights", "[I", true)
  | 4 => ("VoteAuctions", "funds", "[J", true)
  | 5 => ("VoteAuctions", "asides", "[J", true)
  | 6 => ("VoteAuctions", "speakers", "[I", true)
  | 7 => ("VoteAuctions", "questionCount", "I", false)
  | 8 => ("VoteAuctions", "questions", "[LVoteAuctions$Question;", true)
  | 9 => ("VoteAuctions", "auctionCount", "I", false)
  | 10 => ("VoteAuctions", "auctions", "[LVoteAuctions$Auction;", true)
  | 11 => ("VoteAuctions", "voices", "[I", true)
  | 12 => ("VoteAuctions", "counts", "[I", true)
  | 13 => ("VoteAuctions", "fell", "[I", true)
  | _ => ("VoteAuctions", "falls", "I", false)
def ax_y0 : Nat → FieldType := fun k => match k with
  | 0 => .int
  | 1 => .long
  | 2 => .int
  | 3 => .array .int
  | 4 => .array .long
  | 5 => .array .long
  | 6 => .array .int
  | 7 => .int
  | 8 => .array (.object "VoteAuctions$Question")
  | 9 => .int
  | 10 => .array (.object "VoteAuctions$Auction")
  | 11 => .array .int
  | 12 => .array .int
  | 13 => .array .int
  | _ => .int
def ax_q0 : List Nat := [34, 36, 38, 40, 42, 44, 46, 48, 50, 52, 54, 56, 58, 60, 62]
set_option maxRecDepth 100000 in
theorem ax_u0 : ∀ k, k < 15 → tables_1[ax_q0.getD k 0]? = some (u_lay ax_R0 ax_T0 k) ∧ goodWord (u_lay ax_R0 ax_T0 k) = true := by decide +kernel
set_option maxRecDepth 100000 in
theorem ax_n0 : ∀ a, a < 15 → ∀ b, b < 15 → a ≠ b → (ax_T0 a).2.1 ≠ (ax_T0 b).2.1 := by decide +kernel
set_option maxRecDepth 100000 in
theorem ax_d0 : ∀ k, k < 15 → parseFieldDescriptor (ax_T0 k).2.2.1 = some (ax_y0 k) := by decide +kernel
theorem ax_v0 : ∀ w ∈ u_ws ax_R0 ax_T0 15, w ∈ ax_ws := by
  intro w hw
  obtain ⟨k, hk, rfl⟩ := List.mem_map.mp hw
  obtain ⟨h1, h2⟩ := ax_u0 k (List.mem_range.mp hk)
  exact ax_tw h1 h2
def ax_R1 : String := "VoteAuctions$Question"
def ax_T1 : u_T := fun k => match k with
  | 0 => ("VoteAuctions$Question", "kind", "I", true)
  | 1 => ("VoteAuctions$Question", "choices", "I", true)
  | 2 => ("VoteAuctions$Question", "shut", "I", true)
  | 3 => ("VoteAuctions$Question", "end", "I", true)
  | 4 => ("VoteAuctions$Question", "quorum", "I", true)
  | 5 => ("VoteAuctions$Question", "weights", "[I", true)
  | 6 => ("VoteAuctions$Question", "votes", "[I", true)
  | 7 => ("VoteAuctions$Question", "marked", "[Z", true)
  | 8 => ("VoteAuctions$Question", "marks", "[J", true)
  | 9 => ("VoteAuctions$Question", "speakersAtEnd", "[I", true)
  | 10 => ("VoteAuctions$Question", "callAccount", "I", false)
  | 11 => ("VoteAuctions$Question", "callSum", "I", false)
  | 12 => ("VoteAuctions$Question", "callHeight", "I", false)
  | _ => ("VoteAuctions$Question", "callRun", "Z", false)
def ax_y1 : Nat → FieldType := fun k => match k with
  | 0 => .int
  | 1 => .int
  | 2 => .int
  | 3 => .int
  | 4 => .int
  | 5 => .array .int
  | 6 => .array .int
  | 7 => .array .boolean
  | 8 => .array .long
  | 9 => .array .int
  | 10 => .int
  | 11 => .int
  | 12 => .int
  | _ => .boolean
def ax_q1 : List Nat := [200, 202, 204, 206, 208, 210, 212, 214, 216, 218, 220, 222, 224, 226]
set_option maxRecDepth 100000 in
theorem ax_u1 : ∀ k, k < 14 → tables_1[ax_q1.getD k 0]? = some (u_lay ax_R1 ax_T1 k) ∧ goodWord (u_lay ax_R1 ax_T1 k) = true := by decide +kernel
set_option maxRecDepth 100000 in
theorem ax_n1 : ∀ a, a < 14 → ∀ b, b < 14 → a ≠ b → (ax_T1 a).2.1 ≠ (ax_T1 b).2.1 := by decide +kernel
set_option maxRecDepth 100000 in
theorem ax_d1 : ∀ k, k < 14 → parseFieldDescriptor (ax_T1 k).2.2.1 = some (ax_y1 k) := by decide +kernel
theorem ax_v1 : ∀ w ∈ u_ws ax_R1 ax_T1 14, w ∈ ax_ws := by
  intro w hw
  obtain ⟨k, hk, rfl⟩ := List.mem_map.mp hw
  obtain ⟨h1, h2⟩ := ax_u1 k (List.mem_range.mp hk)
  exact ax_tw h1 h2
def ax_R2 : String := "VoteAuctions$Auction"
def ax_T2 : u_T := fun k => match k with
  | 0 => ("VoteAuctions$Auction", "kind", "I", true)
  | 1 => ("VoteAuctions$Auction", "units", "I", true)
  | 2 => ("VoteAuctions$Auction", "least", "I", true)
  | 3 => ("VoteAuctions$Auction", "step", "I", true)
  | 4 => ("VoteAuctions$Auction", "shut", "I", true)
  | 5 => ("VoteAuctions$Auction", "end", "I", true)
  | 6 => ("VoteAuctions$Auction", "told", "[I", true)
  | 7 => ("VoteAuctions$Auction", "marks", "[J", true)
  | 8 => ("VoteAuctions$Auction", "wants", "[I", true)
  | 9 => ("VoteAuctions$Auction", "prices", "[I", true)
  | 10 => ("VoteAuctions$Auction", "won", "[I", true)
  | 11 => ("VoteAuctions$Auction", "tellings", "I", false)
  | 12 => ("VoteAuctions$Auction", "leader", "I", false)
  | _ => ("VoteAuctions$Auction", "knownPrice", "I", false)
def ax_y2 : Nat → FieldType := fun k => match k with
  | 0 => .int
  | 1 => .int
  | 2 => .int
  | 3 => .int
  | 4 => .int
  | 5 => .int
  | 6 => .array .int
  | 7 => .array .long
  | 8 => .array .int
  | 9 => .array .int
  | 10 => .array .int
  | 11 => .int
  | 12 => .int
  | _ => .int
def ax_q2 : List Nat := [365, 367, 369, 371, 373, 375, 377, 379, 381, 383, 385, 387, 389, 391]
set_option maxRecDepth 100000 in
theorem ax_u2 : ∀ k, k < 14 → tables_1[ax_q2.getD k 0]? = some (u_lay ax_R2 ax_T2 k) ∧ goodWord (u_lay ax_R2 ax_T2 k) = true := by decide +kernel
set_option maxRecDepth 100000 in
theorem ax_n2 : ∀ a, a < 14 → ∀ b, b < 14 → a ≠ b → (ax_T2 a).2.1 ≠ (ax_T2 b).2.1 := by decide +kernel
set_option maxRecDepth 100000 in
theorem ax_d2 : ∀ k, k < 14 → parseFieldDescriptor (ax_T2 k).2.2.1 = some (ax_y2 k) := by decide +kernel
theorem ax_v2 : ∀ w ∈ u_ws ax_R2 ax_T2 14, w ∈ ax_ws := by
  intro w hw
  obtain ⟨k, hk, rfl⟩ := List.mem_map.mp hw
  obtain ⟨h1, h2⟩ := ax_u2 k (List.mem_range.mp hk)
  exact ax_tw h1 h2
def ax_R3 : String := "VoteAuctionsModel"
def ax_T3 : u_T := fun k => match k with
  | 0 => ("VoteAuctionsModel", "code", "I", false)
  | 1 => ("VoteAuctionsModel", "height", "I", false)
  | 2 => ("VoteAuctionsModel", "pot", "J", false)
  | 3 => ("VoteAuctionsModel", "accounts", "I", false)
  | 4 => ("VoteAuctionsModel", "weight", "[I", true)
  | 5 => ("VoteAuctionsModel", "funds", "[J", true)
  | 6 => ("VoteAuctionsModel", "aside", "[J", true)
  | 7 => ("VoteAuctionsModel", "speaker", "[I", true)
  | 8 => ("VoteAuctionsModel", "questions", "I", false)
  | 9 => ("VoteAuctionsModel", "qKind", "[I", true)
  | 10 => ("VoteAuctionsModel", "qChoices", "[I", true)
  | 11 => ("VoteAuctionsModel", "qShut", "[I", true)
  | 12 => ("VoteAuctionsModel", "qEnd", "[I", true)
  | 13 => ("VoteAuctionsModel", "qQuorum", "[I", true)
  | 14 => ("VoteAuctionsModel", "qCalls", "[Z", true)
  | 15 => ("VoteAuctionsModel", "qRan", "[Z", true)
  | 16 => ("VoteAuctionsModel", "qTo", "[I", true)
  | 17 => ("VoteAuctionsModel", "qSum", "[I", true)
  | 18 => ("VoteAuctionsModel", "qLock", "[I", true)
  | 19 => ("VoteAuctionsModel", "qWeight", "[I", true)
  | 20 => ("VoteAuctionsModel", "qHas", "[Z", true)
  | 21 => ("VoteAuctionsModel", "qVote", "[I", true)
  | 22 => ("VoteAuctionsModel", "qMarked", "[Z", true)
  | 23 => ("VoteAuctionsModel", "qMark", "[J", true)
  | 24 => ("VoteAuctionsModel", "qSpeaker", "[I", true)
  | 25 => ("VoteAuctionsModel", "auctions", "I", false)
  | 26 => ("VoteAuctionsModel", "told", "I", false)
  | 27 => ("VoteAuctionsModel", "aKind", "[I", true)
  | 28 => ("VoteAuctionsModel", "aUnits", "[I", true)
  | 29 => ("VoteAuctionsModel", "aLeast", "[I", true)
  | 30 => ("VoteAuctionsModel", "aStep", "[I", true)
  | 31 => ("VoteAuctionsModel", "aShut", "[I", true)
  | 32 => ("VoteAuctionsModel", "aEnd", "[I", true)
  | 33 => ("VoteAuctionsModel", "aPrice", "[J", true)
  | 34 => ("VoteAuctionsModel", "aTaken", "[I", true)
  | 35 => ("VoteAuctionsModel", "bIs", "[Z", true)
  | 36 => ("VoteAuctionsModel", "bUnits", "[I", true)
  | 37 => ("VoteAuctionsModel", "bPrice", "[I", true)
  | 38 => ("VoteAuctionsModel", "bWhen", "[I", true)
  | 39 => ("VoteAuctionsModel", "bMark", "[J", true)
  | 40 => ("VoteAuctionsModel", "bOpen", "[Z", true)
  | 41 => ("VoteAuctionsModel", "bWon", "[I", true)
  | 42 => ("VoteAuctionsModel", "voice", "[I", true)
  | 43 => ("VoteAuctionsModel", "passed", "[I", true)
  | 44 => ("VoteAuctionsModel", "has", "[I", true)
  | 45 => ("VoteAuctionsModel", "isIn", "[Z", true)
  | 46 => ("VoteAuctionsModel", "fell", "[I", true)
  | 47 => ("VoteAuctionsModel", "rounds", "I", false)
  | 48 => ("VoteAuctionsModel", "cast", "I", false)
  | _ => ("VoteAuctionsModel", "any", "Z", false)
def ax_y3 : Nat → FieldType := fun k => match k with
  | 0 => .int
  | 1 => .int
  | 2 => .long
  | 3 => .int
  | 4 => .array .int
  | 5 => .array .long
  | 6 => .array .long
  | 7 => .array .int
  | 8 => .int
  | 9 => .array .int
  | 10 => .array .int
  | 11 => .array .int
  | 12 => .array .int
  | 13 => .array .int
  | 14 => .array .boolean
  | 15 => .array .boolean
  | 16 => .array .int
  | 17 => .array .int
  | 18 => .array .int
  | 19 => .array .int
  | 20 => .array .boolean
  | 21 => .array .int
  | 22 => .array .boolean
  | 23 => .array .long
  | 24 => .array .int
  | 25 => .int
  | 26 => .int
  | 27 => .array .int
  | 28 => .array .int
  | 29 => .array .int
  | 30 => .array .int
  | 31 => .array .int
  | 32 => .array .int
  | 33 => .array .long
  | 34 => .array .int
  | 35 => .array .boolean
  | 36 => .array .int
  | 37 => .array .int
  | 38 => .array .int
  | 39 => .array .long
  | 40 => .array .boolean
  | 41 => .array .int
  | 42 => .array .int
  | 43 => .array .int
  | 44 => .array .int
  | 45 => .array .boolean
  | 46 => .array .int
  | 47 => .int
  | 48 => .int
  | _ => .boolean
def ax_q3 : List Nat := [496, 498, 500, 502, 504, 506, 508, 510, 512, 514, 516, 518, 520, 522, 524, 526, 528, 530, 532, 534, 536, 538, 540, 542, 544, 546, 548, 550, 552, 554, 556, 558, 560, 562, 564, 566, 568, 570, 572, 574, 576, 578, 580, 582, 584, 586, 588, 590, 592, 594]
set_option maxRecDepth 100000 in
theorem ax_u3 : ∀ k, k < 50 → tables_1[ax_q3.getD k 0]? = some (u_lay ax_R3 ax_T3 k) ∧ goodWord (u_lay ax_R3 ax_T3 k) = true := by decide +kernel
set_option maxRecDepth 100000 in
theorem ax_n3 : ∀ a, a < 50 → ∀ b, b < 50 → a ≠ b → (ax_T3 a).2.1 ≠ (ax_T3 b).2.1 := by decide +kernel
set_option maxRecDepth 100000 in
theorem ax_d3 : ∀ k, k < 50 → parseFieldDescriptor (ax_T3 k).2.2.1 = some (ax_y3 k) := by decide +kernel
theorem ax_v3 : ∀ w ∈ u_ws ax_R3 ax_T3 50, w ∈ ax_ws := by
  intro w hw
  obtain ⟨k, hk, rfl⟩ := List.mem_map.mp hw
  obtain ⟨h1, h2⟩ := ax_u3 k (List.mem_range.mp hk)
  exact ax_tw h1 h2
abbrev ax_cl : List vw_C := [(ax_R0, ax_T0, 15), (ax_R1, ax_T1, 14), (ax_R2, ax_T2, 14), (ax_R3, ax_T3, 50)]
def ax_ty : Nat → Nat → FieldType := fun ci => match ci with
  | 0 => ax_y0
  | 1 => ax_y1
  | 2 => ax_y2
  | _ => ax_y3
def ax_el : Nat → FieldType := fun t => match t with
  | 0 => .int
  | 1 => .long
  | 2 => .boolean
  | 3 => .object "VoteAuctions$Question"
  | _ => .object "VoteAuctions$Auction"
def ax_nt : Nat := 5
def ax_ao : List String := ["VoteAuctions$Question", "VoteAuctions$Auction"]
/-- what the words say of a class -/
def ax_cok (ci : Nat) (q : vw_C) : Prop := (∀ w ∈ u_ws q.1 q.2.1 q.2.2, w ∈ ax_ws) ∧ (∀ k, k < q.2.2 → parseFieldDescriptor (q.2.1 k).2.2.1 = some (ax_ty ci k)) ∧ (∀ a, a < q.2.2 → ∀ b, b < q.2.2 → a ≠ b → (q.2.1 a).2.1 ≠ (q.2.1 b).2.1) ∧ Cond.instantiable q.1 q.2.2 ∈ ax_ws ∧ Cond.initialized q.1 ∈ ax_ws ∧ ∀ k, k < q.2.2 → (q.2.1 k).1 = q.1
set_option maxRecDepth 100000 in
theorem ax_k0 : ax_cok 0 (ax_R0, ax_T0, 15) := ⟨ax_v0, ax_d0, ax_n0, ax_tw (i := 8) (by decide +kernel) (by decide +kernel), ax_tw (i := 1) (by decide +kernel) (by decide +kernel), by decide +kernel⟩
set_option maxRecDepth 100000 in
theorem ax_k1 : ax_cok 1 (ax_R1, ax_T1, 14) := ⟨ax_v1, ax_d1, ax_n1, ax_tw (i := 170) (by decide +kernel) (by decide +kernel), ax_tw (i := 5) (by decide +kernel) (by decide +kernel), by decide +kernel⟩
set_option maxRecDepth 100000 in
theorem ax_k2 : ax_cok 2 (ax_R2, ax_T2, 14) := ⟨ax_v2, ax_d2, ax_n2, ax_tw (i := 124) (by decide +kernel) (by decide +kernel), ax_tw (i := 6) (by decide +kernel) (by decide +kernel), by decide +kernel⟩
set_option maxRecDepth 100000 in
theorem ax_k3 : ax_cok 3 (ax_R3, ax_T3, 50) := ⟨ax_v3, ax_d3, ax_n3, ax_tw (i := 442) (by decide +kernel) (by decide +kernel), ax_tw (i := 2) (by decide +kernel) (by decide +kernel), by decide +kernel⟩
theorem ax_cl_ok {ci : Nat} {q : vw_C} (h : ax_cl[ci]? = some q) : ax_cok ci q := by
  match ci, h with
  | 0, h => cases h; exact ax_k0
  | 1, h => cases h; exact ax_k1
  | 2, h => cases h; exact ax_k2
  | 3, h => cases h; exact ax_k3
  | n + 4, h => simp [ax_cl] at h
/-- a field's link: own, or by the nest -/
def ax_fl (own : String) (idx ci k : Nat) : Prop := ∃ q : vw_C, ax_cl[ci]? = some q ∧ k < q.2.2 ∧ (Cond.fieldLink own idx q.1 (q.2.1 k).2.1 (q.2.1 k).2.2.1 ∈ ax_ws ∨ ∃ h, Cond.fieldLinkNest own idx q.1 (q.2.1 k).2.1 (q.2.1 k).2.2.1 h ∈ ax_nest)
/-- a method's link -/
def ax_ml (own : String) (idx : Nat) (y : MethodName) : Prop := Cond.methodLink own idx y ∈ ax_ws ∨ ∃ h, Cond.methodLinkNest own idx y h ∈ ax_nest
def ax_yk (y : MethodName) (n : Nat) : Prop := y.cls ≠ "java/lang/invoke/MethodHandle" ∧ y.cls ≠ "java/lang/invoke/VarHandle" ∧ (parseMethodDescriptor y.desc).map (fun d => d.parameters.length) = some n
def ax_ms (y : MethodName) (bytes : ByteArray) (maxL : Nat) (rt : Option FieldType) (n : Nat) : Prop := Cond.code y bytes maxL rt ∈ ax_ws ∧ Cond.static y ∈ ax_ws ∧ Cond.initialized y.cls ∈ ax_ws ∧ ax_yk y n
def ax_mv (y : MethodName) (bytes : ByteArray) (maxL : Nat) (rt : Option FieldType) (n ci : Nat) : Prop := Cond.code y bytes maxL rt ∈ ax_ws ∧ Cond.instanceMethod y ∈ ax_ws ∧ Cond.selects y.cls y y ∈ ax_ws ∧ Cond.initialized y.cls ∈ ax_ws ∧ ax_yk y n ∧ ∃ q : vw_C, ax_cl[ci]? = some q ∧ q.1 = y.cls
def ax_mi (y : MethodName) (bytes : ByteArray) (maxL n : Nat) : Prop := Cond.code y bytes maxL none ∈ ax_ws ∧ Cond.instanceMethod y ∈ ax_ws ∧ y.name = "<init>" ∧ Cond.initialized y.cls ∈ ax_ws ∧ ax_yk y n
theorem k_V_66 : ax_fl "VoteAuctions" 66 0 0 := ⟨_, rfl, by decide, Or.inl (ax_tw (i := 19) (by decide +kernel) (by decide +kernel))⟩
theorem k_V_62 : ax_fl "VoteAuctions" 62 0 1 := ⟨_, rfl, by decide, Or.inl (ax_tw (i := 20) (by decide +kernel) (by decide +kernel))⟩
theorem k_V_49 : ax_fl "VoteAuctions" 49 0 2 := ⟨_, rfl, by decide, Or.inl (ax_tw (i := 21) (by decide +kernel) (by decide +kernel))⟩
theorem k_V_9 : ax_fl "VoteAuctions" 9 0 3 := ⟨_, rfl, by decide, Or.inl (ax_tw (i := 22) (by decide +kernel) (by decide +kernel))⟩
theorem k_V_13 : ax_fl "VoteAuctions" 13 0 4 := ⟨_, rfl, by decide, Or.inl (ax_tw (i := 23) (by decide +kernel) (by decide +kernel))⟩
theorem k_V_17 : ax_fl "VoteAuctions" 17 0 5 := ⟨_, rfl, by decide, Or.inl (ax_tw (i := 24) (by decide +kernel) (by decide +kernel))⟩
theorem k_V_20 : ax_fl "VoteAuctions" 20 0 6 := ⟨_, rfl, by decide, Or.inl (ax_tw (i := 25) (by decide +kernel) (by decide +kernel))⟩
theorem k_V_79 : ax_fl "VoteAuctions" 79 0 7 := ⟨_, rfl, by decide, Or.inl (ax_tw (i := 26) (by decide +kernel) (by decide +kernel))⟩
theorem k_V_25 : ax_fl "VoteAuctions" 25 0 8 := ⟨_, rfl, by decide, Or.inl (ax_tw (i := 27) (by decide +kernel) (by decide +kernel))⟩
theorem k_V_158 : ax_fl "VoteAuctions" 158 0 9 := ⟨_, rfl, by decide, Or.inl (ax_tw (i := 28) (by decide +kernel) (by decide +kernel))⟩
theorem k_V_31 : ax_fl "VoteAuctions" 31 0 10 := ⟨_, rfl, by decide, Or.inl (ax_tw (i := 29) (by decide +kernel) (by decide +kernel))⟩
theorem k_V_35 : ax_fl "VoteAuctions" 35 0 11 := ⟨_, rfl, by decide, Or.inl (ax_tw (i := 30) (by decide +kernel) (by decide +kernel))⟩
theorem k_V_38 : ax_fl "VoteAuctions" 38 0 12 := ⟨_, rfl, by decide, Or.inl (ax_tw (i := 31) (by decide +kernel) (by decide +kernel))⟩
theorem k_V_41 : ax_fl "VoteAuctions" 41 0 13 := ⟨_, rfl, by decide, Or.inl (ax_tw (i := 32) (by decide +kernel) (by decide +kernel))⟩
theorem k_V_143 : ax_fl "VoteAuctions" 143 0 14 := ⟨_, rfl, by decide, Or.inl (ax_tw (i := 33) (by decide +kernel) (by decide +kernel))⟩
theorem k_Q_9 : ax_fl "VoteAuctions$Question" 9 1 0 := ⟨_, rfl, by decide, Or.inl (ax_tw (i := 175) (by decide +kernel) (by decide +kernel))⟩
theorem k_V_140 : ax_fl "VoteAuctions" 140 1 0 := ⟨_, rfl, by decide, Or.inr ⟨"VoteAuctions", ax_tn (i := 176) (by decide +kernel) (by decide +kernel)⟩⟩
theorem k_Q_15 : ax_fl "VoteAuctions$Question" 15 1 1 := ⟨_, rfl, by decide, Or.inl (ax_tw (i := 177) (by decide +kernel) (by decide +kernel))⟩
theorem k_V_133 : ax_fl "VoteAuctions" 133 1 1 := ⟨_, rfl, by decide, Or.inr ⟨"VoteAuctions", ax_tn (i := 178) (by decide +kernel) (by decide +kernel)⟩⟩
theorem k_Q_18 : ax_fl "VoteAuctions$Question" 18 1 2 := ⟨_, rfl, by decide, Or.inl (ax_tw (i := 179) (by decide +kernel) (by decide +kernel))⟩
theorem k_V_96 : ax_fl "VoteAuctions" 96 1 2 := ⟨_, rfl, by decide, Or.inr ⟨"VoteAuctions", ax_tn (i := 180) (by decide +kernel) (by decide +kernel)⟩⟩
theorem k_Q_21 : ax_fl "VoteAuctions$Question" 21 1 3 := ⟨_, rfl, by decide, Or.inl (ax_tw (i := 181) (by decide +kernel) (by decide +kernel))⟩
theorem k_V_105 : ax_fl "VoteAuctions" 105 1 3 := ⟨_, rfl, by decide, Or.inr ⟨"VoteAuctions", ax_tn (i := 182) (by decide +kernel) (by decide +kernel)⟩⟩
theorem k_Q_24 : ax_fl "VoteAuctions$Question" 24 1 4 := ⟨_, rfl, by decide, Or.inl (ax_tw (i := 183) (by decide +kernel) (by decide +kernel))⟩
theorem k_V_276 : ax_fl "VoteAuctions" 276 1 4 := ⟨_, rfl, by decide, Or.inr ⟨"VoteAuctions", ax_tn (i := 184) (by decide +kernel) (by decide +kernel)⟩⟩
theorem k_Q_27 : ax_fl "VoteAuctions$Question" 27 1 5 := ⟨_, rfl, by decide, Or.inl (ax_tw (i := 185) (by decide +kernel) (by decide +kernel))⟩
theorem k_V_85 : ax_fl "VoteAuctions" 85 1 5 := ⟨_, rfl, by decide, Or.inr ⟨"VoteAuctions", ax_tn (i := 186) (by decide +kernel) (by decide +kernel)⟩⟩
theorem k_Q_31 : ax_fl "VoteAuctions$Question" 31 1 6 := ⟨_, rfl, by decide, Or.inl (ax_tw (i := 187) (by decide +kernel) (by decide +kernel))⟩
theorem k_V_119 : ax_fl "VoteAuctions" 119 1 6 := ⟨_, rfl, by decide, Or.inr ⟨"VoteAuctions", ax_tn (i := 188) (by decide +kernel) (by decide +kernel)⟩⟩
theorem k_Q_34 : ax_fl "VoteAuctions$Question" 34 1 7 := ⟨_, rfl, by decide, Or.inl (ax_tw (i := 189) (by decide +kernel) (by decide +kernel))⟩
theorem k_V_122 : ax_fl "VoteAuctions" 122 1 7 := ⟨_, rfl, by decide, Or.inr ⟨"VoteAuctions", ax_tn (i := 190) (by decide +kernel) (by decide +kernel)⟩⟩
theorem k_Q_38 : ax_fl "VoteAuctions$Question" 38 1 8 := ⟨_, rfl, by decide, Or.inl (ax_tw (i := 191) (by decide +kernel) (by decide +kernel))⟩
theorem k_V_126 : ax_fl "VoteAuctions" 126 1 8 := ⟨_, rfl, by decide, Or.inr ⟨"VoteAuctions", ax_tn (i := 192) (by decide +kernel) (by decide +kernel)⟩⟩
theorem k_Q_42 : ax_fl "VoteAuctions$Question" 42 1 9 := ⟨_, rfl, by decide, Or.inl (ax_tw (i := 193) (by decide +kernel) (by decide +kernel))⟩
theorem k_V_260 : ax_fl "VoteAuctions" 260 1 9 := ⟨_, rfl, by decide, Or.inr ⟨"VoteAuctions", ax_tn (i := 194) (by decide +kernel) (by decide +kernel)⟩⟩
theorem k_Q_45 : ax_fl "VoteAuctions$Question" 45 1 10 := ⟨_, rfl, by decide, Or.inl (ax_tw (i := 195) (by decide +kernel) (by decide +kernel))⟩
theorem k_V_99 : ax_fl "VoteAuctions" 99 1 10 := ⟨_, rfl, by decide, Or.inr ⟨"VoteAuctions", ax_tn (i := 196) (by decide +kernel) (by decide +kernel)⟩⟩
theorem k_V_102 : ax_fl "VoteAuctions" 102 1 11 := ⟨_, rfl, by decide, Or.inr ⟨"VoteAuctions", ax_tn (i := 197) (by decide +kernel) (by decide +kernel)⟩⟩
theorem k_V_108 : ax_fl "VoteAuctions" 108 1 12 := ⟨_, rfl, by decide, Or.inr ⟨"VoteAuctions", ax_tn (i := 198) (by decide +kernel) (by decide +kernel)⟩⟩
theorem k_V_154 : ax_fl "VoteAuctions" 154 1 13 := ⟨_, rfl, by decide, Or.inr ⟨"VoteAuctions", ax_tn (i := 199) (by decide +kernel) (by decide +kernel)⟩⟩
theorem k_A_9 : ax_fl "VoteAuctions$Auction" 9 2 0 := ⟨_, rfl, by decide, Or.inl (ax_tw (i := 339) (by decide +kernel) (by decide +kernel))⟩
theorem k_V_174 : ax_fl "VoteAuctions" 174 2 0 := ⟨_, rfl, by decide, Or.inr ⟨"VoteAuctions", ax_tn (i := 340) (by decide +kernel) (by decide +kernel)⟩⟩
theorem k_A_15 : ax_fl "VoteAuctions$Auction" 15 2 1 := ⟨_, rfl, by decide, Or.inl (ax_tw (i := 341) (by decide +kernel) (by decide +kernel))⟩
theorem k_V_168 : ax_fl "VoteAuctions" 168 2 1 := ⟨_, rfl, by decide, Or.inr ⟨"VoteAuctions", ax_tn (i := 342) (by decide +kernel) (by decide +kernel)⟩⟩
theorem k_A_18 : ax_fl "VoteAuctions$Auction" 18 2 2 := ⟨_, rfl, by decide, Or.inl (ax_tw (i := 343) (by decide +kernel) (by decide +kernel))⟩
theorem k_V_171 : ax_fl "VoteAuctions" 171 2 2 := ⟨_, rfl, by decide, Or.inr ⟨"VoteAuctions", ax_tn (i := 344) (by decide +kernel) (by decide +kernel)⟩⟩
theorem k_A_21 : ax_fl "VoteAuctions$Auction" 21 2 3 := ⟨_, rfl, by decide, Or.inl (ax_tw (i := 345) (by decide +kernel) (by decide +kernel))⟩
theorem k_V_279 : ax_fl "VoteAuctions" 279 2 3 := ⟨_, rfl, by decide, Or.inr ⟨"VoteAuctions", ax_tn (i := 346) (by decide +kernel) (by decide +kernel)⟩⟩
theorem k_A_24 : ax_fl "VoteAuctions$Auction" 24 2 4 := ⟨_, rfl, by decide, Or.inl (ax_tw (i := 347) (by decide +kernel) (by decide +kernel))⟩
theorem k_V_214 : ax_fl "VoteAuctions" 214 2 4 := ⟨_, rfl, by decide, Or.inr ⟨"VoteAuctions", ax_tn (i := 348) (by decide +kernel) (by decide +kernel)⟩⟩
theorem k_A_27 : ax_fl "VoteAuctions$Auction" 27 2 5 := ⟨_, rfl, by decide, Or.inl (ax_tw (i := 349) (by decide +kernel) (by decide +kernel))⟩
theorem k_V_175 : ax_fl "VoteAuctions" 175 2 5 := ⟨_, rfl, by decide, Or.inr ⟨"VoteAuctions", ax_tn (i := 350) (by decide +kernel) (by decide +kernel)⟩⟩
theorem k_A_30 : ax_fl "VoteAuctions$Auction" 30 2 6 := ⟨_, rfl, by decide, Or.inl (ax_tw (i := 351) (by decide +kernel) (by decide +kernel))⟩
theorem k_V_208 : ax_fl "VoteAuctions" 208 2 6 := ⟨_, rfl, by decide, Or.inr ⟨"VoteAuctions", ax_tn (i := 352) (by decide +kernel) (by decide +kernel)⟩⟩
theorem k_A_34 : ax_fl "VoteAuctions$Auction" 34 2 7 := ⟨_, rfl, by decide, Or.inl (ax_tw (i := 353) (by decide +kernel) (by decide +kernel))⟩
theorem k_V_215 : ax_fl "VoteAuctions" 215 2 7 := ⟨_, rfl, by decide, Or.inr ⟨"VoteAuctions", ax_tn (i := 354) (by decide +kernel) (by decide +kernel)⟩⟩
theorem k_A_38 : ax_fl "VoteAuctions$Auction" 38 2 8 := ⟨_, rfl, by decide, Or.inl (ax_tw (i := 355) (by decide +kernel) (by decide +kernel))⟩
theorem k_V_198 : ax_fl "VoteAuctions" 198 2 8 := ⟨_, rfl, by decide, Or.inr ⟨"VoteAuctions", ax_tn (i := 356) (by decide +kernel) (by decide +kernel)⟩⟩
theorem k_A_41 : ax_fl "VoteAuctions$Auction" 41 2 9 := ⟨_, rfl, by decide, Or.inl (ax_tw (i := 357) (by decide +kernel) (by decide +kernel))⟩
theorem k_V_201 : ax_fl "VoteAuctions" 201 2 9 := ⟨_, rfl, by decide, Or.inr ⟨"VoteAuctions", ax_tn (i := 358) (by decide +kernel) (by decide +kernel)⟩⟩
theorem k_A_44 : ax_fl "VoteAuctions$Auction" 44 2 10 := ⟨_, rfl, by decide, Or.inl (ax_tw (i := 359) (by decide +kernel) (by decide +kernel))⟩
theorem k_V_226 : ax_fl "VoteAuctions" 226 2 10 := ⟨_, rfl, by decide, Or.inr ⟨"VoteAuctions", ax_tn (i := 360) (by decide +kernel) (by decide +kernel)⟩⟩
theorem k_A_50 : ax_fl "VoteAuctions$Auction" 50 2 11 := ⟨_, rfl, by decide, Or.inl (ax_tw (i := 361) (by decide +kernel) (by decide +kernel))⟩
theorem k_A_47 : ax_fl "VoteAuctions$Auction" 47 2 12 := ⟨_, rfl, by decide, Or.inl (ax_tw (i := 362) (by decide +kernel) (by decide +kernel))⟩
theorem k_V_184 : ax_fl "VoteAuctions" 184 2 12 := ⟨_, rfl, by decide, Or.inr ⟨"VoteAuctions", ax_tn (i := 363) (by decide +kernel) (by decide +kernel)⟩⟩
theorem k_V_191 : ax_fl "VoteAuctions" 191 2 13 := ⟨_, rfl, by decide, Or.inr ⟨"VoteAuctions", ax_tn (i := 364) (by decide +kernel) (by decide +kernel)⟩⟩
theorem k_M_156 : ax_fl "VoteAuctionsModel" 156 3 1 := ⟨_, rfl, by decide, Or.inl (ax_tw (i := 447) (by decide +kernel) (by decide +kernel))⟩
theorem k_M_152 : ax_fl "VoteAuctionsModel" 152 3 2 := ⟨_, rfl, by decide, Or.inl (ax_tw (i := 448) (by decide +kernel) (by decide +kernel))⟩
theorem k_M_136 : ax_fl "VoteAuctionsModel" 136 3 3 := ⟨_, rfl, by decide, Or.inl (ax_tw (i := 449) (by decide +kernel) (by decide +kernel))⟩
theorem k_M_7 : ax_fl "VoteAuctionsModel" 7 3 4 := ⟨_, rfl, by decide, Or.inl (ax_tw (i := 450) (by decide +kernel) (by decide +kernel))⟩
theorem k_M_13 : ax_fl "VoteAuctionsModel" 13 3 5 := ⟨_, rfl, by decide, Or.inl (ax_tw (i := 451) (by decide +kernel) (by decide +kernel))⟩
theorem k_M_17 : ax_fl "VoteAuctionsModel" 17 3 6 := ⟨_, rfl, by decide, Or.inl (ax_tw (i := 452) (by decide +kernel) (by decide +kernel))⟩
theorem k_M_20 : ax_fl "VoteAuctionsModel" 20 3 7 := ⟨_, rfl, by decide, Or.inl (ax_tw (i := 453) (by decide +kernel) (by decide +kernel))⟩
theorem k_M_159 : ax_fl "VoteAuctionsModel" 159 3 8 := ⟨_, rfl, by decide, Or.inl (ax_tw (i := 454) (by decide +kernel) (by decide +kernel))⟩
theorem k_M_23 : ax_fl "VoteAuctionsModel" 23 3 9 := ⟨_, rfl, by decide, Or.inl (ax_tw (i := 455) (by decide +kernel) (by decide +kernel))⟩
theorem k_M_26 : ax_fl "VoteAuctionsModel" 26 3 10 := ⟨_, rfl, by decide, Or.inl (ax_tw (i := 456) (by decide +kernel) (by decide +kernel))⟩
theorem k_M_29 : ax_fl "VoteAuctionsModel" 29 3 11 := ⟨_, rfl, by decide, Or.inl (ax_tw (i := 457) (by decide +kernel) (by decide +kernel))⟩
theorem k_M_32 : ax_fl "VoteAuctionsModel" 32 3 12 := ⟨_, rfl, by decide, Or.inl (ax_tw (i := 458) (by decide +kernel) (by decide +kernel))⟩
theorem k_M_35 : ax_fl "VoteAuctionsModel" 35 3 13 := ⟨_, rfl, by decide, Or.inl (ax_tw (i := 459) (by decide +kernel) (by decide +kernel))⟩
theorem k_M_38 : ax_fl "VoteAuctionsModel" 38 3 14 := ⟨_, rfl, by decide, Or.inl (ax_tw (i := 460) (by decide +kernel) (by decide +kernel))⟩
theorem k_M_42 : ax_fl "VoteAuctionsModel" 42 3 15 := ⟨_, rfl, by decide, Or.inl (ax_tw (i := 461) (by decide +kernel) (by decide +kernel))⟩
theorem k_M_45 : ax_fl "VoteAuctionsModel" 45 3 16 := ⟨_, rfl, by decide, Or.inl (ax_tw (i := 462) (by decide +kernel) (by decide +kernel))⟩
theorem k_M_48 : ax_fl "VoteAuctionsModel" 48 3 17 := ⟨_, rfl, by decide, Or.inl (ax_tw (i := 463) (by decide +kernel) (by decide +kernel))⟩
theorem k_M_51 : ax_fl "VoteAuctionsModel" 51 3 18 := ⟨_, rfl, by decide, Or.inl (ax_tw (i := 464) (by decide +kernel) (by decide +kernel))⟩
theorem k_M_54 : ax_fl "VoteAuctionsModel" 54 3 19 := ⟨_, rfl, by decide, Or.inl (ax_tw (i := 465) (by decide +kernel) (by decide +kernel))⟩
theorem k_M_57 : ax_fl "VoteAuctionsModel" 57 3 20 := ⟨_, rfl, by decide, Or.inl (ax_tw (i := 466) (by decide +kernel) (by decide +kernel))⟩
theorem k_M_60 : ax_fl "VoteAuctionsModel" 60 3 21 := ⟨_, rfl, by decide, Or.inl (ax_tw (i := 467) (by decide +kernel) (by decide +kernel))⟩
theorem k_M_63 : ax_fl "VoteAuctionsModel" 63 3 22 := ⟨_, rfl, by decide, Or.inl (ax_tw (i := 468) (by decide +kernel) (by decide +kernel))⟩
theorem k_M_66 : ax_fl "VoteAuctionsModel" 66 3 23 := ⟨_, rfl, by decide, Or.inl (ax_tw (i := 469) (by decide +kernel) (by decide +kernel))⟩
theorem k_M_69 : ax_fl "VoteAuctionsModel" 69 3 24 := ⟨_, rfl, by decide, Or.inl (ax_tw (i := 470) (by decide +kernel) (by decide +kernel))⟩
theorem k_M_162 : ax_fl "VoteAuctionsModel" 162 3 25 := ⟨_, rfl, by decide, Or.inl (ax_tw (i := 471) (by decide +kernel) (by decide +kernel))⟩
theorem k_M_245 : ax_fl "VoteAuctionsModel" 245 3 26 := ⟨_, rfl, by decide, Or.inl (ax_tw (i := 472) (by decide +kernel) (by decide +kernel))⟩
theorem k_M_72 : ax_fl "VoteAuctionsModel" 72 3 27 := ⟨_, rfl, by decide, Or.inl (ax_tw (i := 473) (by decide +kernel) (by decide +kernel))⟩
theorem k_M_75 : ax_fl "VoteAuctionsModel" 75 3 28 := ⟨_, rfl, by decide, Or.inl (ax_tw (i := 474) (by decide +kernel) (by decide +kernel))⟩
theorem k_M_78 : ax_fl "VoteAuctionsModel" 78 3 29 := ⟨_, rfl, by decide, Or.inl (ax_tw (i := 475) (by decide +kernel) (by decide +kernel))⟩
theorem k_M_81 : ax_fl "VoteAuctionsModel" 81 3 30 := ⟨_, rfl, by decide, Or.inl (ax_tw (i := 476) (by decide +kernel) (by decide +kernel))⟩
theorem k_M_84 : ax_fl "VoteAuctionsModel" 84 3 31 := ⟨_, rfl, by decide, Or.inl (ax_tw (i := 477) (by decide +kernel) (by decide +kernel))⟩
theorem k_M_87 : ax_fl "VoteAuctionsModel" 87 3 32 := ⟨_, rfl, by decide, Or.inl (ax_tw (i := 478) (by decide +kernel) (by decide +kernel))⟩
theorem k_M_90 : ax_fl "VoteAuctionsModel" 90 3 33 := ⟨_, rfl, by decide, Or.inl (ax_tw (i := 479) (by decide +kernel) (by decide +kernel))⟩
theorem k_M_93 : ax_fl "VoteAuctionsModel" 93 3 34 := ⟨_, rfl, by decide, Or.inl (ax_tw (i := 480) (by decide +kernel) (by decide +kernel))⟩
theorem k_M_96 : ax_fl "VoteAuctionsModel" 96 3 35 := ⟨_, rfl, by decide, Or.inl (ax_tw (i := 481) (by decide +kernel) (by decide +kernel))⟩
theorem k_M_99 : ax_fl "VoteAuctionsModel" 99 3 36 := ⟨_, rfl, by decide, Or.inl (ax_tw (i := 482) (by decide +kernel) (by decide +kernel))⟩
theorem k_M_102 : ax_fl "VoteAuctionsModel" 102 3 37 := ⟨_, rfl, by decide, Or.inl (ax_tw (i := 483) (by decide +kernel) (by decide +kernel))⟩
theorem k_M_105 : ax_fl "VoteAuctionsModel" 105 3 38 := ⟨_, rfl, by decide, Or.inl (ax_tw (i := 484) (by decide +kernel) (by decide +kernel))⟩
theorem k_M_108 : ax_fl "VoteAuctionsModel" 108 3 39 := ⟨_, rfl, by decide, Or.inl (ax_tw (i := 485) (by decide +kernel) (by decide +kernel))⟩
theorem k_M_111 : ax_fl "VoteAuctionsModel" 111 3 40 := ⟨_, rfl, by decide, Or.inl (ax_tw (i := 486) (by decide +kernel) (by decide +kernel))⟩
theorem k_M_114 : ax_fl "VoteAuctionsModel" 114 3 41 := ⟨_, rfl, by decide, Or.inl (ax_tw (i := 487) (by decide +kernel) (by decide +kernel))⟩
theorem k_M_117 : ax_fl "VoteAuctionsModel" 117 3 42 := ⟨_, rfl, by decide, Or.inl (ax_tw (i := 488) (by decide +kernel) (by decide +kernel))⟩
theorem k_M_120 : ax_fl "VoteAuctionsModel" 120 3 43 := ⟨_, rfl, by decide, Or.inl (ax_tw (i := 489) (by decide +kernel) (by decide +kernel))⟩
theorem k_M_123 : ax_fl "VoteAuctionsModel" 123 3 44 := ⟨_, rfl, by decide, Or.inl (ax_tw (i := 490) (by decide +kernel) (by decide +kernel))⟩
theorem k_M_126 : ax_fl "VoteAuctionsModel" 126 3 45 := ⟨_, rfl, by decide, Or.inl (ax_tw (i := 491) (by decide +kernel) (by decide +kernel))⟩
theorem k_M_129 : ax_fl "VoteAuctionsModel" 129 3 46 := ⟨_, rfl, by decide, Or.inl (ax_tw (i := 492) (by decide +kernel) (by decide +kernel))⟩
theorem k_M_200 : ax_fl "VoteAuctionsModel" 200 3 47 := ⟨_, rfl, by decide, Or.inl (ax_tw (i := 493) (by decide +kernel) (by decide +kernel))⟩
theorem k_M_197 : ax_fl "VoteAuctionsModel" 197 3 48 := ⟨_, rfl, by decide, Or.inl (ax_tw (i := 494) (by decide +kernel) (by decide +kernel))⟩
theorem k_M_209 : ax_fl "VoteAuctionsModel" 209 3 49 := ⟨_, rfl, by decide, Or.inl (ax_tw (i := 495) (by decide +kernel) (by decide +kernel))⟩
def ax_ff (own : String) (idx ci k : Nat) : Prop := ∃ q : vw_C, ax_cl[ci]? = some q ∧ k < q.2.2 ∧ Cond.fieldLink own idx q.1 (q.2.1 k).2.1 (q.2.1 k).2.2.1 ∈ ax_ws ∧ q.1 = own ∧ (q.2.1 k).2.2.2 = true
theorem kf_V_9 : ax_ff "VoteAuctions" 9 0 3 := ⟨_, rfl, by decide, ax_tw (i := 22) (by decide +kernel) (by decide +kernel), rfl, rfl⟩
theorem kf_V_13 : ax_ff "VoteAuctions" 13 0 4 := ⟨_, rfl, by decide, ax_tw (i := 23) (by decide +kernel) (by decide +kernel), rfl, rfl⟩
theorem kf_V_17 : ax_ff "VoteAuctions" 17 0 5 := ⟨_, rfl, by decide, ax_tw (i := 24) (by decide +kernel) (by decide +kernel), rfl, rfl⟩
theorem kf_V_20 : ax_ff "VoteAuctions" 20 0 6 := ⟨_, rfl, by decide, ax_tw (i := 25) (by decide +kernel) (by decide +kernel), rfl, rfl⟩
theorem kf_V_25 : ax_ff "VoteAuctions" 25 0 8 := ⟨_, rfl, by decide, ax_tw (i := 27) (by decide +kernel) (by decide +kernel), rfl, rfl⟩
theorem kf_V_31 : ax_ff "VoteAuctions" 31 0 10 := ⟨_, rfl, by decide, ax_tw (i := 29) (by decide +kernel) (by decide +kernel), rfl, rfl⟩
theorem kf_V_35 : ax_ff "VoteAuctions" 35 0 11 := ⟨_, rfl, by decide, ax_tw (i := 30) (by decide +kernel) (by decide +kernel), rfl, rfl⟩
theorem kf_V_38 : ax_ff "VoteAuctions" 38 0 12 := ⟨_, rfl, by decide, ax_tw (i := 31) (by decide +kernel) (by decide +kernel), rfl, rfl⟩
theorem kf_V_41 : ax_ff "VoteAuctions" 41 0 13 := ⟨_, rfl, by decide, ax_tw (i := 32) (by decide +kernel) (by decide +kernel), rfl, rfl⟩
theorem kf_Q_9 : ax_ff "VoteAuctions$Question" 9 1 0 := ⟨_, rfl, by decide, ax_tw (i := 175) (by decide +kernel) (by decide +kernel), rfl, rfl⟩
theorem kf_Q_15 : ax_ff "VoteAuctions$Question" 15 1 1 := ⟨_, rfl, by decide, ax_tw (i := 177) (by decide +kernel) (by decide +kernel), rfl, rfl⟩
theorem kf_Q_18 : ax_ff "VoteAuctions$Question" 18 1 2 := ⟨_, rfl, by decide, ax_tw (i := 179) (by decide +kernel) (by decide +kernel), rfl, rfl⟩
theorem kf_Q_21 : ax_ff "VoteAuctions$Question" 21 1 3 := ⟨_, rfl, by decide, ax_tw (i := 181) (by decide +kernel) (by decide +kernel), rfl, rfl⟩
theorem kf_Q_24 : ax_ff "VoteAuctions$Question" 24 1 4 := ⟨_, rfl, by decide, ax_tw (i := 183) (by decide +kernel) (by decide +kernel), rfl, rfl⟩
theorem kf_Q_27 : ax_ff "VoteAuctions$Question" 27 1 5 := ⟨_, rfl, by decide, ax_tw (i := 185) (by decide +kernel) (by decide +kernel), rfl, rfl⟩
theorem kf_Q_31 : ax_ff "VoteAuctions$Question" 31 1 6 := ⟨_, rfl, by decide, ax_tw (i := 187) (by decide +kernel) (by decide +kernel), rfl, rfl⟩
theorem kf_Q_34 : ax_ff "VoteAuctions$Question" 34 1 7 := ⟨_, rfl, by decide, ax_tw (i := 189) (by decide +kernel) (by decide +kernel), rfl, rfl⟩
theorem kf_Q_38 : ax_ff "VoteAuctions$Question" 38 1 8 := ⟨_, rfl, by decide, ax_tw (i := 191) (by decide +kernel) (by decide +kernel), rfl, rfl⟩
theorem kf_Q_42 : ax_ff "VoteAuctions$Question" 42 1 9 := ⟨_, rfl, by decide, ax_tw (i := 193) (by decide +kernel) (by decide +kernel), rfl, rfl⟩
theorem kf_A_9 : ax_ff "VoteAuctions$Auction" 9 2 0 := ⟨_, rfl, by decide, ax_tw (i := 339) (by decide +kernel) (by decide +kernel), rfl, rfl⟩
theorem kf_A_15 : ax_ff "VoteAuctions$Auction" 15 2 1 := ⟨_, rfl, by decide, ax_tw (i := 341) (by decide +kernel) (by decide +kernel), rfl, rfl⟩
theorem kf_A_18 : ax_ff "VoteAuctions$Auction" 18 2 2 := ⟨_, rfl, by decide, ax_tw (i := 343) (by decide +kernel) (by decide +kernel), rfl, rfl⟩
theorem kf_A_21 : ax_ff "VoteAuctions$Auction" 21 2 3 := ⟨_, rfl, by decide, ax_tw (i := 345) (by decide +kernel) (by decide +kernel), rfl, rfl⟩
theorem kf_A_24 : ax_ff "VoteAuctions$Auction" 24 2 4 := ⟨_, rfl, by decide, ax_tw (i := 347) (by decide +kernel) (by decide +kernel), rfl, rfl⟩
theorem kf_A_27 : ax_ff "VoteAuctions$Auction" 27 2 5 := ⟨_, rfl, by decide, ax_tw (i := 349) (by decide +kernel) (by decide +kernel), rfl, rfl⟩
theorem kf_A_30 : ax_ff "VoteAuctions$Auction" 30 2 6 := ⟨_, rfl, by decide, ax_tw (i := 351) (by decide +kernel) (by decide +kernel), rfl, rfl⟩
theorem kf_A_34 : ax_ff "VoteAuctions$Auction" 34 2 7 := ⟨_, rfl, by decide, ax_tw (i := 353) (by decide +kernel) (by decide +kernel), rfl, rfl⟩
theorem kf_A_38 : ax_ff "VoteAuctions$Auction" 38 2 8 := ⟨_, rfl, by decide, ax_tw (i := 355) (by decide +kernel) (by decide +kernel), rfl, rfl⟩
theorem kf_A_41 : ax_ff "VoteAuctions$Auction" 41 2 9 := ⟨_, rfl, by decide, ax_tw (i := 357) (by decide +kernel) (by decide +kernel), rfl, rfl⟩
theorem kf_A_44 : ax_ff "VoteAuctions$Auction" 44 2 10 := ⟨_, rfl, by decide, ax_tw (i := 359) (by decide +kernel) (by decide +kernel), rfl, rfl⟩
theorem kf_M_7 : ax_ff "VoteAuctionsModel" 7 3 4 := ⟨_, rfl, by decide, ax_tw (i := 450) (by decide +kernel) (by decide +kernel), rfl, rfl⟩
theorem kf_M_13 : ax_ff "VoteAuctionsModel" 13 3 5 := ⟨_, rfl, by decide, ax_tw (i := 451) (by decide +kernel) (by decide +kernel), rfl, rfl⟩
theorem kf_M_17 : ax_ff "VoteAuctionsModel" 17 3 6 := ⟨_, rfl, by decide, ax_tw (i := 452) (by decide +kernel) (by decide +kernel), rfl, rfl⟩
theorem kf_M_20 : ax_ff "VoteAuctionsModel" 20 3 7 := ⟨_, rfl, by decide, ax_tw (i := 453) (by decide +kernel) (by decide +kernel), rfl, rfl⟩
theorem kf_M_23 : ax_ff "VoteAuctionsModel" 23 3 9 := ⟨_, rfl, by decide, ax_tw (i := 455) (by decide +kernel) (by decide +kernel), rfl, rfl⟩
theorem kf_M_26 : ax_ff "VoteAuctionsModel" 26 3 10 := ⟨_, rfl, by decide, ax_tw (i := 456) (by decide +kernel) (by decide +kernel), rfl, rfl⟩
theorem kf_M_29 : ax_ff "VoteAuctionsModel" 29 3 11 := ⟨_, rfl, by decide, ax_tw (i := 457) (by decide +kernel) (by decide +kernel), rfl, rfl⟩
theorem kf_M_32 : ax_ff "VoteAuctionsModel" 32 3 12 := ⟨_, rfl, by decide, ax_tw (i := 458) (by decide +kernel) (by decide +kernel), rfl, rfl⟩
theorem kf_M_35 : ax_ff "VoteAuctionsModel" 35 3 13 := ⟨_, rfl, by decide, ax_tw (i := 459) (by decide +kernel) (by decide +kernel), rfl, rfl⟩
theorem kf_M_38 : ax_ff "VoteAuctionsModel" 38 3 14 := ⟨_, rfl, by decide, ax_tw (i := 460) (by decide +kernel) (by decide +kernel), rfl, rfl⟩
theorem kf_M_42 : ax_ff "VoteAuctionsModel" 42 3 15 := ⟨_, rfl, by decide, ax_tw (i := 461) (by decide +kernel) (by decide +kernel), rfl, rfl⟩
theorem kf_M_45 : ax_ff "VoteAuctionsModel" 45 3 16 := ⟨_, rfl, by decide, ax_tw (i := 462) (by decide +kernel) (by decide +kernel), rfl, rfl⟩
theorem kf_M_48 : ax_ff "VoteAuctionsModel" 48 3 17 := ⟨_, rfl, by decide, ax_tw (i := 463) (by decide +kernel) (by decide +kernel), rfl, rfl⟩
theorem kf_M_51 : ax_ff "VoteAuctionsModel" 51 3 18 := ⟨_, rfl, by decide, ax_tw (i := 464) (by decide +kernel) (by decide +kernel), rfl, rfl⟩
theorem kf_M_54 : ax_ff "VoteAuctionsModel" 54 3 19 := ⟨_, rfl, by decide, ax_tw (i := 465) (by decide +kernel) (by decide +kernel), rfl, rfl⟩
theorem kf_M_57 : ax_ff "VoteAuctionsModel" 57 3 20 := ⟨_, rfl, by decide, ax_tw (i := 466) (by decide +kernel) (by decide +kernel), rfl, rfl⟩
theorem kf_M_60 : ax_ff "VoteAuctionsModel" 60 3 21 := ⟨_, rfl, by decide, ax_tw (i := 467) (by decide +kernel) (by decide +kernel), rfl, rfl⟩
theorem kf_M_63 : ax_ff "VoteAuctionsModel" 63 3 22 := ⟨_, rfl, by decide, ax_tw (i := 468) (by decide +kernel) (by decide +kernel), rfl, rfl⟩
theorem kf_M_66 : ax_ff "VoteAuctionsModel" 66 3 23 := ⟨_, rfl, by decide, ax_tw (i := 469) (by decide +kernel) (by decide +kernel), rfl, rfl⟩
theorem kf_M_69 : ax_ff "VoteAuctionsModel" 69 3 24 := ⟨_, rfl, by decide, ax_tw (i := 470) (by decide +kernel) (by decide +kernel), rfl, rfl⟩
theorem kf_M_72 : ax_ff "VoteAuctionsModel" 72 3 27 := ⟨_, rfl, by decide, ax_tw (i := 473) (by decide +kernel) (by decide +kernel), rfl, rfl⟩
theorem kf_M_75 : ax_ff "VoteAuctionsModel" 75 3 28 := ⟨_, rfl, by decide, ax_tw (i := 474) (by decide +kernel) (by decide +kernel), rfl, rfl⟩
theorem kf_M_78 : ax_ff "VoteAuctionsModel" 78 3 29 := ⟨_, rfl, by decide, ax_tw (i := 475) (by decide +kernel) (by decide +kernel), rfl, rfl⟩
theorem kf_M_81 : ax_ff "VoteAuctionsModel" 81 3 30 := ⟨_, rfl, by decide, ax_tw (i := 476) (by decide +kernel) (by decide +kernel), rfl, rfl⟩
theorem kf_M_84 : ax_ff "VoteAuctionsModel" 84 3 31 := ⟨_, rfl, by decide, ax_tw (i := 477) (by decide +kernel) (by decide +kernel), rfl, rfl⟩
theorem kf_M_87 : ax_ff "VoteAuctionsModel" 87 3 32 := ⟨_, rfl, by decide, ax_tw (i := 478) (by decide +kernel) (by decide +kernel), rfl, rfl⟩
theorem kf_M_90 : ax_ff "VoteAuctionsModel" 90 3 33 := ⟨_, rfl, by decide, ax_tw (i := 479) (by decide +kernel) (by decide +kernel), rfl, rfl⟩
theorem kf_M_93 : ax_ff "VoteAuctionsModel" 93 3 34 := ⟨_, rfl, by decide, ax_tw (i := 480) (by decide +kernel) (by decide +kernel), rfl, rfl⟩
theorem kf_M_96 : ax_ff "VoteAuctionsModel" 96 3 35 := ⟨_, rfl, by decide, ax_tw (i := 481) (by decide +kernel) (by decide +kernel), rfl, rfl⟩
theorem kf_M_99 : ax_ff "VoteAuctionsModel" 99 3 36 := ⟨_, rfl, by decide, ax_tw (i := 482) (by decide +kernel) (by decide +kernel), rfl, rfl⟩
theorem kf_M_102 : ax_ff "VoteAuctionsModel" 102 3 37 := ⟨_, rfl, by decide, ax_tw (i := 483) (by decide +kernel) (by decide +kernel), rfl, rfl⟩
theorem kf_M_105 : ax_ff "VoteAuctionsModel" 105 3 38 := ⟨_, rfl, by decide, ax_tw (i := 484) (by decide +kernel) (by decide +kernel), rfl, rfl⟩
theorem kf_M_108 : ax_ff "VoteAuctionsModel" 108 3 39 := ⟨_, rfl, by decide, ax_tw (i := 485) (by decide +kernel) (by decide +kernel), rfl, rfl⟩
theorem kf_M_111 : ax_ff "VoteAuctionsModel" 111 3 40 := ⟨_, rfl, by decide, ax_tw (i := 486) (by decide +kernel) (by decide +kernel), rfl, rfl⟩
theorem kf_M_114 : ax_ff "VoteAuctionsModel" 114 3 41 := ⟨_, rfl, by decide, ax_tw (i := 487) (by decide +kernel) (by decide +kernel), rfl, rfl⟩
theorem kf_M_117 : ax_ff "VoteAuctionsModel" 117 3 42 := ⟨_, rfl, by decide, ax_tw (i := 488) (by decide +kernel) (by decide +kernel), rfl, rfl⟩
theorem kf_M_120 : ax_ff "VoteAuctionsModel" 120 3 43 := ⟨_, rfl, by decide, ax_tw (i := 489) (by decide +kernel) (by decide +kernel), rfl, rfl⟩
theorem kf_M_123 : ax_ff "VoteAuctionsModel" 123 3 44 := ⟨_, rfl, by decide, ax_tw (i := 490) (by decide +kernel) (by decide +kernel), rfl, rfl⟩
theorem kf_M_126 : ax_ff "VoteAuctionsModel" 126 3 45 := ⟨_, rfl, by decide, ax_tw (i := 491) (by decide +kernel) (by decide +kernel), rfl, rfl⟩
theorem kf_M_129 : ax_ff "VoteAuctionsModel" 129 3 46 := ⟨_, rfl, by decide, ax_tw (i := 492) (by decide +kernel) (by decide +kernel), rfl, rfl⟩
def y_V_init : MethodName := ⟨"VoteAuctions", "<init>", "()V"⟩
abbrev b_V_init : ByteArray := prog_1_method_1_code
set_option maxRecDepth 100000 in
theorem m_V_init : ax_mi y_V_init b_V_init 2 0 := ⟨ax_tc1 (i := 11) rfl (by decide +kernel), ax_tw (i := 10) (by decide +kernel) (by decide +kernel), rfl, ax_tw (i := 1) (by decide +kernel) (by decide +kernel), ⟨by decide +kernel, by decide +kernel, by decide +kernel⟩⟩
def y_V_account : MethodName := ⟨"VoteAuctions", "account", "(II)I"⟩
abbrev b_V_account : ByteArray := prog_1_method_2_code
set_option maxRecDepth 100000 in
theorem m_V_account : ax_mv y_V_account b_V_account 4 (some (.int)) 2 0 := ⟨ax_tc1 (i := 70) rfl (by decide +kernel), ax_tw (i := 68) (by decide +kernel) (by decide +kernel), ax_tw (i := 69) (by decide +kernel) (by decide +kernel), ax_tw (i := 1) (by decide +kernel) (by decide +kernel), ⟨by decide +kernel, by decide +kernel, by decide +kernel⟩, _, rfl, rfl⟩
def y_V_isOutside : MethodName := ⟨"VoteAuctions", "isOutside", "(III)Z"⟩
abbrev b_V_isOutside : ByteArray := prog_1_method_27_code
set_option maxRecDepth 100000 in
theorem m_V_isOutside : ax_ms y_V_isOutside b_V_isOutside 3 (some (.boolean)) 3 := ⟨ax_tc1 (i := 73) rfl (by decide +kernel), ax_tw (i := 72) (by decide +kernel) (by decide +kernel), ax_tw (i := 1) (by decide +kernel) (by decide +kernel), ⟨by decide +kernel, by decide +kernel, by decide +kernel⟩⟩
def y_V_weigh : MethodName := ⟨"VoteAuctions", "weigh", "(II)I"⟩
abbrev b_V_weigh : ByteArray := prog_1_method_3_code
set_option maxRecDepth 100000 in
theorem m_V_weigh : ax_mv y_V_weigh b_V_weigh 4 (some (.int)) 2 0 := ⟨ax_tc1 (i := 78) rfl (by decide +kernel), ax_tw (i := 76) (by decide +kernel) (by decide +kernel), ax_tw (i := 77) (by decide +kernel) (by decide +kernel), ax_tw (i := 1) (by decide +kernel) (by decide +kernel), ⟨by decide +kernel, by decide +kernel, by decide +kernel⟩, _, rfl, rfl⟩
def y_V_isNoAccount : MethodName := ⟨"VoteAuctions", "isNoAccount", "(I)Z"⟩
abbrev b_V_isNoAccount : ByteArray := prog_1_method_28_code
set_option maxRecDepth 100000 in
theorem m_V_isNoAccount : ax_mv y_V_isNoAccount b_V_isNoAccount 2 (some (.boolean)) 1 0 := ⟨ax_tc1 (i := 82) rfl (by decide +kernel), ax_tw (i := 81) (by decide +kernel) (by decide +kernel), ax_ts0 (i := 0) (by decide +kernel) (by decide +kernel), ax_tw (i := 1) (by decide +kernel) (by decide +kernel), ⟨by decide +kernel, by decide +kernel, by decide +kernel⟩, _, rfl, rfl⟩
def y_V_fund : MethodName := ⟨"VoteAuctions", "fund", "(II)I"⟩
abbrev b_V_fund : ByteArray := prog_1_method_4_code
set_option maxRecDepth 100000 in
theorem m_V_fund : ax_mv y_V_fund b_V_fund 3 (some (.int)) 2 0 := ⟨ax_tc1 (i := 86) rfl (by decide +kernel), ax_tw (i := 84) (by decide +kernel) (by decide +kernel), ax_tw (i := 85) (by decide +kernel) (by decide +kernel), ax_tw (i := 1) (by decide +kernel) (by decide +kernel), ⟨by decide +kernel, by decide +kernel, by decide +kernel⟩, _, rfl, rfl⟩
def y_V_speak : MethodName := ⟨"VoteAuctions", "speak", "(II)I"⟩
abbrev b_V_speak : ByteArray := prog_1_method_5_code
set_option maxRecDepth 100000 in
theorem m_V_speak : ax_mv y_V_speak b_V_speak 4 (some (.int)) 2 0 := ⟨ax_tc1 (i := 91) rfl (by decide +kernel), ax_tw (i := 89) (by decide +kernel) (by decide +kernel), ax_tw (i := 90) (by decide +kernel) (by decide +kernel), ax_tw (i := 1) (by decide +kernel) (by decide +kernel), ⟨by decide +kernel, by decide +kernel, by decide +kernel⟩, _, rfl, rfl⟩
def y_V_holds : MethodName := ⟨"VoteAuctions", "holds", "(II)J"⟩
abbrev b_V_holds : ByteArray := prog_1_method_6_code
set_option maxRecDepth 100000 in
theorem m_V_holds : ax_mv y_V_holds b_V_holds 3 (some (.long)) 2 0 := ⟨ax_tc1 (i := 95) rfl (by decide +kernel), ax_tw (i := 93) (by decide +kernel) (by decide +kernel), ax_tw (i := 94) (by decide +kernel) (by decide +kernel), ax_tw (i := 1) (by decide +kernel) (by decide +kernel), ⟨by decide +kernel, by decide +kernel, by decide +kernel⟩, _, rfl, rfl⟩
def y_V_pot : MethodName := ⟨"VoteAuctions", "pot", "()J"⟩
abbrev b_V_pot : ByteArray := prog_1_method_7_code
set_option maxRecDepth 100000 in
theorem m_V_pot : ax_mv y_V_pot b_V_pot 1 (some (.long)) 0 0 := ⟨ax_tc1 (i := 101) rfl (by decide +kernel), ax_tw (i := 99) (by decide +kernel) (by decide +kernel), ax_tw (i := 100) (by decide +kernel) (by decide +kernel), ax_tw (i := 1) (by decide +kernel) (by decide +kernel), ⟨by decide +kernel, by decide +kernel, by decide +kernel⟩, _, rfl, rfl⟩
def y_V_tick : MethodName := ⟨"VoteAuctions", "tick", "(I)I"⟩
abbrev b_V_tick : ByteArray := prog_1_method_8_code
set_option maxRecDepth 100000 in
theorem m_V_tick : ax_mv y_V_tick b_V_tick 3 (some (.int)) 1 0 := ⟨ax_tc1 (i := 105) rfl (by decide +kernel), ax_tw (i := 103) (by decide +kernel) (by decide +kernel), ax_tw (i := 104) (by decide +kernel) (by decide +kernel), ax_tw (i := 1) (by decide +kernel) (by decide +kernel), ⟨by decide +kernel, by decide +kernel, by decide +kernel⟩, _, rfl, rfl⟩
def y_V_endQuestions : MethodName := ⟨"VoteAuctions", "endQuestions", "()V"⟩
abbrev b_V_endQuestions : ByteArray := prog_1_method_49_code
set_option maxRecDepth 100000 in
theorem m_V_endQuestions : ax_mv y_V_endQuestions b_V_endQuestions 3 none 0 0 := ⟨ax_tc1 (i := 109) rfl (by decide +kernel), ax_tw (i := 108) (by decide +kernel) (by decide +kernel), ax_ts0 (i := 1) (by decide +kernel) (by decide +kernel), ax_tw (i := 1) (by decide +kernel) (by decide +kernel), ⟨by decide +kernel, by decide +kernel, by decide +kernel⟩, _, rfl, rfl⟩
def y_V_endAuctions : MethodName := ⟨"VoteAuctions", "endAuctions", "()V"⟩
abbrev b_V_endAuctions : ByteArray := prog_1_method_53_code
set_option maxRecDepth 100000 in
theorem m_V_endAuctions : ax_mv y_V_endAuctions b_V_endAuctions 3 none 0 0 := ⟨ax_tc1 (i := 116) rfl (by decide +kernel), ax_tw (i := 115) (by decide +kernel) (by decide +kernel), ax_ts0 (i := 2) (by decide +kernel) (by decide +kernel), ax_tw (i := 1) (by decide +kernel) (by decide +kernel), ⟨by decide +kernel, by decide +kernel, by decide +kernel⟩, _, rfl, rfl⟩
def y_V_endAuction : MethodName := ⟨"VoteAuctions", "endAuction", "(LVoteAuctions$Auction;)V"⟩
abbrev b_V_endAuction : ByteArray := prog_1_method_54_code
set_option maxRecDepth 100000 in
theorem m_V_endAuction : ax_mv y_V_endAuction b_V_endAuction 3 none 1 0 := ⟨ax_tc1 (i := 120) rfl (by decide +kernel), ax_tw (i := 119) (by decide +kernel) (by decide +kernel), ax_ts0 (i := 3) (by decide +kernel) (by decide +kernel), ax_tw (i := 1) (by decide +kernel) (by decide +kernel), ⟨by decide +kernel, by decide +kernel, by decide +kernel⟩, _, rfl, rfl⟩
def y_A_isSealed : MethodName := ⟨"VoteAuctions$Auction", "isSealed", "()Z"⟩
abbrev b_A_isSealed : ByteArray := prog_2_method_2_code
set_option maxRecDepth 100000 in
theorem m_A_isSealed : ax_mv y_A_isSealed b_A_isSealed 1 (some (.boolean)) 0 2 := ⟨ax_tc1 (i := 125) rfl (by decide +kernel), ax_tw (i := 123) (by decide +kernel) (by decide +kernel), ax_ts0 (i := 4) (by decide +kernel) (by decide +kernel), ax_tw (i := 6) (by decide +kernel) (by decide +kernel), ⟨by decide +kernel, by decide +kernel, by decide +kernel⟩, _, rfl, rfl⟩
def y_V_payUnopened : MethodName := ⟨"VoteAuctions", "payUnopened", "(LVoteAuctions$Auction;)V"⟩
abbrev b_V_payUnopened : ByteArray := prog_1_method_55_code
set_option maxRecDepth 100000 in
theorem m_V_payUnopened : ax_mv y_V_payUnopened b_V_payUnopened 3 none 1 0 := ⟨ax_tc1 (i := 129) rfl (by decide +kernel), ax_tw (i := 128) (by decide +kernel) (by decide +kernel), ax_ts0 (i := 5) (by decide +kernel) (by decide +kernel), ax_tw (i := 1) (by decide +kernel) (by decide +kernel), ⟨by decide +kernel, by decide +kernel, by decide +kernel⟩, _, rfl, rfl⟩
def y_V_payAside : MethodName := ⟨"VoteAuctions", "payAside", "(IJ)V"⟩
abbrev b_V_payAside : ByteArray := prog_1_method_33_code
set_option maxRecDepth 100000 in
theorem m_V_payAside : ax_mv y_V_payAside b_V_payAside 4 none 2 0 := ⟨ax_tc1 (i := 133) rfl (by decide +kernel), ax_tw (i := 132) (by decide +kernel) (by decide +kernel), ax_ts0 (i := 6) (by decide +kernel) (by decide +kernel), ax_tw (i := 1) (by decide +kernel) (by decide +kernel), ⟨by decide +kernel, by decide +kernel, by decide +kernel⟩, _, rfl, rfl⟩
def y_V_shareUnits : MethodName := ⟨"VoteAuctions", "shareUnits", "(LVoteAuctions$Auction;)V"⟩
abbrev b_V_shareUnits : ByteArray := prog_1_method_56_code
set_option maxRecDepth 100000 in
theorem m_V_shareUnits : ax_ms y_V_shareUnits b_V_shareUnits 5 none 1 := ⟨ax_tc1 (i := 136) rfl (by decide +kernel), ax_tw (i := 135) (by decide +kernel) (by decide +kernel), ax_tw (i := 1) (by decide +kernel) (by decide +kernel), ⟨by decide +kernel, by decide +kernel, by decide +kernel⟩⟩
def y_A_bestWithout : MethodName := ⟨"VoteAuctions$Auction", "bestWithout", "()I"⟩
abbrev b_A_bestWithout : ByteArray := prog_2_method_5_code
set_option maxRecDepth 100000 in
theorem m_A_bestWithout : ax_mv y_A_bestWithout b_A_bestWithout 3 (some (.int)) 0 2 := ⟨ax_tc1 (i := 140) rfl (by decide +kernel), ax_tw (i := 139) (by decide +kernel) (by decide +kernel), ax_ts0 (i := 7) (by decide +kernel) (by decide +kernel), ax_tw (i := 6) (by decide +kernel) (by decide +kernel), ⟨by decide +kernel, by decide +kernel, by decide +kernel⟩, _, rfl, rfl⟩
def y_A_isAhead : MethodName := ⟨"VoteAuctions$Auction", "isAhead", "(II)Z"⟩
abbrev b_A_isAhead : ByteArray := prog_2_method_6_code
set_option maxRecDepth 100000 in
theorem m_A_isAhead : ax_mv y_A_isAhead b_A_isAhead 3 (some (.boolean)) 2 2 := ⟨ax_tc1 (i := 144) rfl (by decide +kernel), ax_tw (i := 143) (by decide +kernel) (by decide +kernel), ax_ts0 (i := 8) (by decide +kernel) (by decide +kernel), ax_tw (i := 6) (by decide +kernel) (by decide +kernel), ⟨by decide +kernel, by decide +kernel, by decide +kernel⟩, _, rfl, rfl⟩
def y_V_settleBids : MethodName := ⟨"VoteAuctions", "settleBids", "(LVoteAuctions$Auction;)V"⟩
abbrev b_V_settleBids : ByteArray := prog_1_method_57_code
set_option maxRecDepth 100000 in
theorem m_V_settleBids : ax_mv y_V_settleBids b_V_settleBids 7 none 1 0 := ⟨ax_tc1 (i := 151) rfl (by decide +kernel), ax_tw (i := 150) (by decide +kernel) (by decide +kernel), ax_ts0 (i := 9) (by decide +kernel) (by decide +kernel), ax_tw (i := 1) (by decide +kernel) (by decide +kernel), ⟨by decide +kernel, by decide +kernel, by decide +kernel⟩, _, rfl, rfl⟩
def y_A_costOf : MethodName := ⟨"VoteAuctions$Auction", "costOf", "(I)J"⟩
abbrev b_A_costOf : ByteArray := prog_2_method_4_code
set_option maxRecDepth 100000 in
theorem m_A_costOf : ax_mv y_A_costOf b_A_costOf 2 (some (.long)) 1 2 := ⟨ax_tc1 (i := 155) rfl (by decide +kernel), ax_tw (i := 154) (by decide +kernel) (by decide +kernel), ax_ts0 (i := 10) (by decide +kernel) (by decide +kernel), ax_tw (i := 6) (by decide +kernel) (by decide +kernel), ⟨by decide +kernel, by decide +kernel, by decide +kernel⟩, _, rfl, rfl⟩
def y_V_giveBack : MethodName := ⟨"VoteAuctions", "giveBack", "(IJ)V"⟩
abbrev b_V_giveBack : ByteArray := prog_1_method_32_code
set_option maxRecDepth 100000 in
theorem m_V_giveBack : ax_mv y_V_giveBack b_V_giveBack 4 none 2 0 := ⟨ax_tc1 (i := 159) rfl (by decide +kernel), ax_tw (i := 158) (by decide +kernel) (by decide +kernel), ax_ts0 (i := 11) (by decide +kernel) (by decide +kernel), ax_tw (i := 1) (by decide +kernel) (by decide +kernel), ⟨by decide +kernel, by decide +kernel, by decide +kernel⟩, _, rfl, rfl⟩
def y_V_mark : MethodName := ⟨"VoteAuctions", "mark", "(III)J"⟩
abbrev b_V_mark : ByteArray := prog_1_method_9_code
set_option maxRecDepth 100000 in
theorem m_V_mark : ax_mv y_V_mark b_V_mark 6 (some (.long)) 3 0 := ⟨ax_tc1 (i := 163) rfl (by decide +kernel), ax_tw (i := 161) (by decide +kernel) (by decide +kernel), ax_tw (i := 162) (by decide +kernel) (by decide +kernel), ax_tw (i := 1) (by decide +kernel) (by decide +kernel), ⟨by decide +kernel, by decide +kernel, by decide +kernel⟩, _, rfl, rfl⟩
def y_V_question : MethodName := ⟨"VoteAuctions", "question", "(IIIII)I"⟩
abbrev b_V_question : ByteArray := prog_1_method_10_code
set_option maxRecDepth 100000 in
theorem m_V_question : ax_mv y_V_question b_V_question 8 (some (.int)) 5 0 := ⟨ax_tc1 (i := 169) rfl (by decide +kernel), ax_tw (i := 167) (by decide +kernel) (by decide +kernel), ax_tw (i := 168) (by decide +kernel) (by decide +kernel), ax_tw (i := 1) (by decide +kernel) (by decide +kernel), ⟨by decide +kernel, by decide +kernel, by decide +kernel⟩, _, rfl, rfl⟩
def y_Q_init : MethodName := ⟨"VoteAuctions$Question", "<init>", "(IIIII)V"⟩
abbrev b_Q_init : ByteArray := prog_3_method_1_code
set_option maxRecDepth 100000 in
theorem m_Q_init : ax_mi y_Q_init b_Q_init 7 5 := ⟨ax_tc1 (i := 173) rfl (by decide +kernel), ax_tw (i := 172) (by decide +kernel) (by decide +kernel), rfl, ax_tw (i := 5) (by decide +kernel) (by decide +kernel), ⟨by decide +kernel, by decide +kernel, by decide +kernel⟩⟩
def y_V_call : MethodName := ⟨"VoteAuctions", "call", "(IIII)I"⟩
abbrev b_V_call : ByteArray := prog_1_method_11_code
set_option maxRecDepth 100000 in
theorem m_V_call : ax_mv y_V_call b_V_call 6 (some (.int)) 4 0 := ⟨ax_tc1 (i := 233) rfl (by decide +kernel), ax_tw (i := 231) (by decide +kernel) (by decide +kernel), ax_tw (i := 232) (by decide +kernel) (by decide +kernel), ax_tw (i := 1) (by decide +kernel) (by decide +kernel), ⟨by decide +kernel, by decide +kernel, by decide +kernel⟩, _, rfl, rfl⟩
def y_V_questionAt : MethodName := ⟨"VoteAuctions", "questionAt", "(I)LVoteAuctions$Question;"⟩
abbrev b_V_questionAt : ByteArray := prog_1_method_29_code
set_option maxRecDepth 100000 in
theorem m_V_questionAt : ax_mv y_V_questionAt b_V_questionAt 2 (some (.object "VoteAuctions$Question")) 1 0 := ⟨ax_tc1 (i := 237) rfl (by decide +kernel), ax_tw (i := 236) (by decide +kernel) (by decide +kernel), ax_ts0 (i := 12) (by decide +kernel) (by decide +kernel), ax_tw (i := 1) (by decide +kernel) (by decide +kernel), ⟨by decide +kernel, by decide +kernel, by decide +kernel⟩, _, rfl, rfl⟩
def y_V_vote : MethodName := ⟨"VoteAuctions", "vote", "(III)I"⟩
abbrev b_V_vote : ByteArray := prog_1_method_12_code
set_option maxRecDepth 100000 in
theorem m_V_vote : ax_mv y_V_vote b_V_vote 5 (some (.int)) 3 0 := ⟨ax_tc2 (i := 1) rfl (by decide +kernel), ax_tw (i := 239) (by decide +kernel) (by decide +kernel), ax_tw (i := 240) (by decide +kernel) (by decide +kernel), ax_tw (i := 1) (by decide +kernel) (by decide +kernel), ⟨by decide +kernel, by decide +kernel, by decide +kernel⟩, _, rfl, rfl⟩
def y_V_isVote : MethodName := ⟨"VoteAuctions", "isVote", "(LVoteAuctions$Question;II)Z"⟩
abbrev b_V_isVote : ByteArray := prog_1_method_34_code
set_option maxRecDepth 100000 in
theorem m_V_isVote : ax_ms y_V_isVote b_V_isVote 3 (some (.boolean)) 3 := ⟨ax_tc2 (i := 4) rfl (by decide +kernel), ax_tw (i := 243) (by decide +kernel) (by decide +kernel), ax_tw (i := 1) (by decide +kernel) (by decide +kernel), ⟨by decide +kernel, by decide +kernel, by decide +kernel⟩⟩
def y_V_isRanks : MethodName := ⟨"VoteAuctions", "isRanks", "(II)Z"⟩
abbrev b_V_isRanks : ByteArray := prog_1_method_35_code
set_option maxRecDepth 100000 in
theorem m_V_isRanks : ax_ms y_V_isRanks b_V_isRanks 6 (some (.boolean)) 2 := ⟨ax_tc2 (i := 7) rfl (by decide +kernel), ax_tw (i := 246) (by decide +kernel) (by decide +kernel), ax_tw (i := 1) (by decide +kernel) (by decide +kernel), ⟨by decide +kernel, by decide +kernel, by decide +kernel⟩⟩
def y_V_hasChoice : MethodName := ⟨"VoteAuctions", "hasChoice", "(II)Z"⟩
abbrev b_V_hasChoice : ByteArray := prog_1_method_38_code
set_option maxRecDepth 100000 in
theorem m_V_hasChoice : ax_ms y_V_hasChoice b_V_hasChoice 2 (some (.boolean)) 2 := ⟨ax_tc2 (i := 10) rfl (by decide +kernel), ax_tw (i := 249) (by decide +kernel) (by decide +kernel), ax_tw (i := 1) (by decide +kernel) (by decide +kernel), ⟨by decide +kernel, by decide +kernel, by decide +kernel⟩⟩
def y_V_isStrengths : MethodName := ⟨"VoteAuctions", "isStrengths", "(III)Z"⟩
abbrev b_V_isStrengths : ByteArray := prog_1_method_36_code
set_option maxRecDepth 100000 in
theorem m_V_isStrengths : ax_ms y_V_isStrengths b_V_isStrengths 6 (some (.boolean)) 3 := ⟨ax_tc2 (i := 13) rfl (by decide +kernel), ax_tw (i := 252) (by decide +kernel) (by decide +kernel), ax_tw (i := 1) (by decide +kernel) (by decide +kernel), ⟨by decide +kernel, by decide +kernel, by decide +kernel⟩⟩
def y_V_strengthOf : MethodName := ⟨"VoteAuctions", "strengthOf", "(II)I"⟩
abbrev b_V_strengthOf : ByteArray := prog_1_method_37_code
set_option maxRecDepth 100000 in
theorem m_V_strengthOf : ax_ms y_V_strengthOf b_V_strengthOf 2 (some (.int)) 2 := ⟨ax_tc2 (i := 16) rfl (by decide +kernel), ax_tw (i := 255) (by decide +kernel) (by decide +kernel), ax_tw (i := 1) (by decide +kernel) (by decide +kernel), ⟨by decide +kernel, by decide +kernel, by decide +kernel⟩⟩
def y_Q_isHidden : MethodName := ⟨"VoteAuctions$Question", "isHidden", "()Z"⟩
abbrev b_Q_isHidden : ByteArray := prog_3_method_2_code
set_option maxRecDepth 100000 in
theorem m_Q_isHidden : ax_mv y_Q_isHidden b_Q_isHidden 1 (some (.boolean)) 0 1 := ⟨ax_tc2 (i := 20) rfl (by decide +kernel), ax_tw (i := 259) (by decide +kernel) (by decide +kernel), ax_ts0 (i := 13) (by decide +kernel) (by decide +kernel), ax_tw (i := 5) (by decide +kernel) (by decide +kernel), ⟨by decide +kernel, by decide +kernel, by decide +kernel⟩, _, rfl, rfl⟩
def y_V_hide : MethodName := ⟨"VoteAuctions", "hide", "(IIJ)I"⟩
abbrev b_V_hide : ByteArray := prog_1_method_13_code
set_option maxRecDepth 100000 in
theorem m_V_hide : ax_mv y_V_hide b_V_hide 6 (some (.int)) 3 0 := ⟨ax_tc2 (i := 24) rfl (by decide +kernel), ax_tw (i := 262) (by decide +kernel) (by decide +kernel), ax_tw (i := 263) (by decide +kernel) (by decide +kernel), ax_tw (i := 1) (by decide +kernel) (by decide +kernel), ⟨by decide +kernel, by decide +kernel, by decide +kernel⟩, _, rfl, rfl⟩
def y_V_reveal : MethodName := ⟨"VoteAuctions", "reveal", "(IIII)I"⟩
abbrev b_V_reveal : ByteArray := prog_1_method_14_code
set_option maxRecDepth 100000 in
theorem m_V_reveal : ax_mv y_V_reveal b_V_reveal 6 (some (.int)) 4 0 := ⟨ax_tc2 (i := 28) rfl (by decide +kernel), ax_tw (i := 266) (by decide +kernel) (by decide +kernel), ax_tw (i := 267) (by decide +kernel) (by decide +kernel), ax_tw (i := 1) (by decide +kernel) (by decide +kernel), ⟨by decide +kernel, by decide +kernel, by decide +kernel⟩, _, rfl, rfl⟩
def y_V_count : MethodName := ⟨"VoteAuctions", "count", "(II)I"⟩
abbrev b_V_count : ByteArray := prog_1_method_15_code
set_option maxRecDepth 100000 in
theorem m_V_count : ax_mv y_V_count b_V_count 4 (some (.int)) 2 0 := ⟨ax_tc2 (i := 33) rfl (by decide +kernel), ax_tw (i := 271) (by decide +kernel) (by decide +kernel), ax_tw (i := 272) (by decide +kernel) (by decide +kernel), ax_tw (i := 1) (by decide +kernel) (by decide +kernel), ⟨by decide +kernel, by decide +kernel, by decide +kernel⟩, _, rfl, rfl⟩
def y_V_countVotes : MethodName := ⟨"VoteAuctions", "countVotes", "(LVoteAuctions$Question;)V"⟩
abbrev b_V_countVotes : ByteArray := prog_1_method_40_code
set_option maxRecDepth 100000 in
theorem m_V_countVotes : ax_mv y_V_countVotes b_V_countVotes 6 none 1 0 := ⟨ax_tc2 (i := 37) rfl (by decide +kernel), ax_tw (i := 276) (by decide +kernel) (by decide +kernel), ax_ts0 (i := 14) (by decide +kernel) (by decide +kernel), ax_tw (i := 1) (by decide +kernel) (by decide +kernel), ⟨by decide +kernel, by decide +kernel, by decide +kernel⟩, _, rfl, rfl⟩
def y_V_findVoices : MethodName := ⟨"VoteAuctions", "findVoices", "(LVoteAuctions$Question;)V"⟩
abbrev b_V_findVoices : ByteArray := prog_1_method_41_code
set_option maxRecDepth 100000 in
theorem m_V_findVoices : ax_mv y_V_findVoices b_V_findVoices 3 none 1 0 := ⟨ax_tc2 (i := 41) rfl (by decide +kernel), ax_tw (i := 280) (by decide +kernel) (by decide +kernel), ax_ts0 (i := 15) (by decide +kernel) (by decide +kernel), ax_tw (i := 1) (by decide +kernel) (by decide +kernel), ⟨by decide +kernel, by decide +kernel, by decide +kernel⟩, _, rfl, rfl⟩
def y_V_voiceOf : MethodName := ⟨"VoteAuctions", "voiceOf", "(LVoteAuctions$Question;I)I"⟩
abbrev b_V_voiceOf : ByteArray := prog_1_method_42_code
set_option maxRecDepth 100000 in
theorem m_V_voiceOf : ax_mv y_V_voiceOf b_V_voiceOf 5 (some (.int)) 2 0 := ⟨ax_tc2 (i := 45) rfl (by decide +kernel), ax_tw (i := 284) (by decide +kernel) (by decide +kernel), ax_ts0 (i := 16) (by decide +kernel) (by decide +kernel), ax_tw (i := 1) (by decide +kernel) (by decide +kernel), ⟨by decide +kernel, by decide +kernel, by decide +kernel⟩, _, rfl, rfl⟩
def y_V_countRound : MethodName := ⟨"VoteAuctions", "countRound", "(LVoteAuctions$Question;I)V"⟩
abbrev b_V_countRound : ByteArray := prog_1_method_43_code
set_option maxRecDepth 100000 in
theorem m_V_countRound : ax_mv y_V_countRound b_V_countRound 7 none 2 0 := ⟨ax_tc2 (i := 49) rfl (by decide +kernel), ax_tw (i := 288) (by decide +kernel) (by decide +kernel), ax_ts0 (i := 17) (by decide +kernel) (by decide +kernel), ax_tw (i := 1) (by decide +kernel) (by decide +kernel), ⟨by decide +kernel, by decide +kernel, by decide +kernel⟩, _, rfl, rfl⟩
def y_V_shareOf : MethodName := ⟨"VoteAuctions", "shareOf", "(LVoteAuctions$Question;IIII)I"⟩
abbrev b_V_shareOf : ByteArray := prog_1_method_44_code
set_option maxRecDepth 100000 in
theorem m_V_shareOf : ax_ms y_V_shareOf b_V_shareOf 5 (some (.int)) 5 := ⟨ax_tc2 (i := 52) rfl (by decide +kernel), ax_tw (i := 291) (by decide +kernel) (by decide +kernel), ax_tw (i := 1) (by decide +kernel) (by decide +kernel), ⟨by decide +kernel, by decide +kernel, by decide +kernel⟩⟩
def y_V_firstOfRanks : MethodName := ⟨"VoteAuctions", "firstOfRanks", "(III)I"⟩
abbrev b_V_firstOfRanks : ByteArray := prog_1_method_39_code
set_option maxRecDepth 100000 in
theorem m_V_firstOfRanks : ax_ms y_V_firstOfRanks b_V_firstOfRanks 6 (some (.int)) 3 := ⟨ax_tc2 (i := 55) rfl (by decide +kernel), ax_tw (i := 294) (by decide +kernel) (by decide +kernel), ax_tw (i := 1) (by decide +kernel) (by decide +kernel), ⟨by decide +kernel, by decide +kernel, by decide +kernel⟩⟩
def y_V_hasMoreThanHalf : MethodName := ⟨"VoteAuctions", "hasMoreThanHalf", "(LVoteAuctions$Question;)Z"⟩
abbrev b_V_hasMoreThanHalf : ByteArray := prog_1_method_45_code
set_option maxRecDepth 100000 in
theorem m_V_hasMoreThanHalf : ax_mv y_V_hasMoreThanHalf b_V_hasMoreThanHalf 5 (some (.boolean)) 1 0 := ⟨ax_tc2 (i := 59) rfl (by decide +kernel), ax_tw (i := 298) (by decide +kernel) (by decide +kernel), ax_ts0 (i := 18) (by decide +kernel) (by decide +kernel), ax_tw (i := 1) (by decide +kernel) (by decide +kernel), ⟨by decide +kernel, by decide +kernel, by decide +kernel⟩, _, rfl, rfl⟩
def y_V_leastCounted : MethodName := ⟨"VoteAuctions", "leastCounted", "(LVoteAuctions$Question;I)I"⟩
abbrev b_V_leastCounted : ByteArray := prog_1_method_46_code
set_option maxRecDepth 100000 in
theorem m_V_leastCounted : ax_mv y_V_leastCounted b_V_leastCounted 5 (some (.int)) 2 0 := ⟨ax_tc2 (i := 66) rfl (by decide +kernel), ax_tw (i := 305) (by decide +kernel) (by decide +kernel), ax_ts0 (i := 19) (by decide +kernel) (by decide +kernel), ax_tw (i := 1) (by decide +kernel) (by decide +kernel), ⟨by decide +kernel, by decide +kernel, by decide +kernel⟩, _, rfl, rfl⟩
def y_V_fallen : MethodName := ⟨"VoteAuctions", "fallen", "(II)I"⟩
abbrev b_V_fallen : ByteArray := prog_1_method_16_code
set_option maxRecDepth 100000 in
theorem m_V_fallen : ax_mv y_V_fallen b_V_fallen 4 (some (.int)) 2 0 := ⟨ax_tc2 (i := 70) rfl (by decide +kernel), ax_tw (i := 308) (by decide +kernel) (by decide +kernel), ax_tw (i := 309) (by decide +kernel) (by decide +kernel), ax_tw (i := 1) (by decide +kernel) (by decide +kernel), ⟨by decide +kernel, by decide +kernel, by decide +kernel⟩, _, rfl, rfl⟩
def y_V_winner : MethodName := ⟨"VoteAuctions", "winner", "(I)I"⟩
abbrev b_V_winner : ByteArray := prog_1_method_17_code
set_option maxRecDepth 100000 in
theorem m_V_winner : ax_mv y_V_winner b_V_winner 4 (some (.int)) 1 0 := ⟨ax_tc2 (i := 74) rfl (by decide +kernel), ax_tw (i := 312) (by decide +kernel) (by decide +kernel), ax_tw (i := 313) (by decide +kernel) (by decide +kernel), ax_tw (i := 1) (by decide +kernel) (by decide +kernel), ⟨by decide +kernel, by decide +kernel, by decide +kernel⟩, _, rfl, rfl⟩
def y_V_mostCounted : MethodName := ⟨"VoteAuctions", "mostCounted", "(LVoteAuctions$Question;)I"⟩
abbrev b_V_mostCounted : ByteArray := prog_1_method_47_code
set_option maxRecDepth 100000 in
theorem m_V_mostCounted : ax_mv y_V_mostCounted b_V_mostCounted 5 (some (.int)) 1 0 := ⟨ax_tc2 (i := 78) rfl (by decide +kernel), ax_tw (i := 317) (by decide +kernel) (by decide +kernel), ax_ts0 (i := 20) (by decide +kernel) (by decide +kernel), ax_tw (i := 1) (by decide +kernel) (by decide +kernel), ⟨by decide +kernel, by decide +kernel, by decide +kernel⟩, _, rfl, rfl⟩
def y_V_passed : MethodName := ⟨"VoteAuctions", "passed", "(I)I"⟩
abbrev b_V_passed : ByteArray := prog_1_method_18_code
set_option maxRecDepth 100000 in
theorem m_V_passed : ax_mv y_V_passed b_V_passed 3 (some (.int)) 1 0 := ⟨ax_tc2 (i := 82) rfl (by decide +kernel), ax_tw (i := 320) (by decide +kernel) (by decide +kernel), ax_tw (i := 321) (by decide +kernel) (by decide +kernel), ax_tw (i := 1) (by decide +kernel) (by decide +kernel), ⟨by decide +kernel, by decide +kernel, by decide +kernel⟩, _, rfl, rfl⟩
def y_V_isPassed : MethodName := ⟨"VoteAuctions", "isPassed", "(LVoteAuctions$Question;)Z"⟩
abbrev b_V_isPassed : ByteArray := prog_1_method_48_code
set_option maxRecDepth 100000 in
theorem m_V_isPassed : ax_mv y_V_isPassed b_V_isPassed 5 (some (.boolean)) 1 0 := ⟨ax_tc2 (i := 86) rfl (by decide +kernel), ax_tw (i := 325) (by decide +kernel) (by decide +kernel), ax_ts0 (i := 21) (by decide +kernel) (by decide +kernel), ax_tw (i := 1) (by decide +kernel) (by decide +kernel), ⟨by decide +kernel, by decide +kernel, by decide +kernel⟩, _, rfl, rfl⟩
def y_V_run : MethodName := ⟨"VoteAuctions", "run", "(I)I"⟩
abbrev b_V_run : ByteArray := prog_1_method_19_code
set_option maxRecDepth 100000 in
theorem m_V_run : ax_mv y_V_run b_V_run 3 (some (.int)) 1 0 := ⟨ax_tc2 (i := 90) rfl (by decide +kernel), ax_tw (i := 328) (by decide +kernel) (by decide +kernel), ax_tw (i := 329) (by decide +kernel) (by decide +kernel), ax_tw (i := 1) (by decide +kernel) (by decide +kernel), ⟨by decide +kernel, by decide +kernel, by decide +kernel⟩, _, rfl, rfl⟩
def y_V_auction : MethodName := ⟨"VoteAuctions", "auction", "(IIIII)I"⟩
abbrev b_V_auction : ByteArray := prog_1_method_20_code
set_option maxRecDepth 100000 in
theorem m_V_auction : ax_mv y_V_auction b_V_auction 10 (some (.int)) 5 0 := ⟨ax_tc2 (i := 94) rfl (by decide +kernel), ax_tw (i := 332) (by decide +kernel) (by decide +kernel), ax_tw (i := 333) (by decide +kernel) (by decide +kernel), ax_tw (i := 1) (by decide +kernel) (by decide +kernel), ⟨by decide +kernel, by decide +kernel, by decide +kernel⟩, _, rfl, rfl⟩
def y_A_init : MethodName := ⟨"VoteAuctions$Auction", "<init>", "(IIIIII)V"⟩
abbrev b_A_init : ByteArray := prog_2_method_1_code
set_option maxRecDepth 100000 in
theorem m_A_init : ax_mi y_A_init b_A_init 7 6 := ⟨ax_tc2 (i := 97) rfl (by decide +kernel), ax_tw (i := 336) (by decide +kernel) (by decide +kernel), rfl, ax_tw (i := 6) (by decide +kernel) (by decide +kernel), ⟨by decide +kernel, by decide +kernel, by decide +kernel⟩⟩
def y_V_bid : MethodName := ⟨"VoteAuctions", "bid", "(IIII)I"⟩
abbrev b_V_bid : ByteArray := prog_1_method_21_code
set_option maxRecDepth 100000 in
theorem m_V_bid : ax_mv y_V_bid b_V_bid 6 (some (.int)) 4 0 := ⟨ax_tc2 (i := 157) rfl (by decide +kernel), ax_tw (i := 395) (by decide +kernel) (by decide +kernel), ax_tw (i := 396) (by decide +kernel) (by decide +kernel), ax_tw (i := 1) (by decide +kernel) (by decide +kernel), ⟨by decide +kernel, by decide +kernel, by decide +kernel⟩, _, rfl, rfl⟩
def y_V_auctionAt : MethodName := ⟨"VoteAuctions", "auctionAt", "(I)LVoteAuctions$Auction;"⟩
abbrev b_V_auctionAt : ByteArray := prog_1_method_30_code
set_option maxRecDepth 100000 in
theorem m_V_auctionAt : ax_mv y_V_auctionAt b_V_auctionAt 2 (some (.object "VoteAuctions$Auction")) 1 0 := ⟨ax_tc2 (i := 161) rfl (by decide +kernel), ax_tw (i := 400) (by decide +kernel) (by decide +kernel), ax_ts0 (i := 22) (by decide +kernel) (by decide +kernel), ax_tw (i := 1) (by decide +kernel) (by decide +kernel), ⟨by decide +kernel, by decide +kernel, by decide +kernel⟩, _, rfl, rfl⟩
def y_V_isBelowStep : MethodName := ⟨"VoteAuctions", "isBelowStep", "(LVoteAuctions$Auction;I)Z"⟩
abbrev b_V_isBelowStep : ByteArray := prog_1_method_50_code
set_option maxRecDepth 100000 in
theorem m_V_isBelowStep : ax_ms y_V_isBelowStep b_V_isBelowStep 2 (some (.boolean)) 2 := ⟨ax_tc2 (i := 164) rfl (by decide +kernel), ax_tw (i := 403) (by decide +kernel) (by decide +kernel), ax_tw (i := 1) (by decide +kernel) (by decide +kernel), ⟨by decide +kernel, by decide +kernel, by decide +kernel⟩⟩
def y_V_dropBid : MethodName := ⟨"VoteAuctions", "dropBid", "(LVoteAuctions$Auction;I)V"⟩
abbrev b_V_dropBid : ByteArray := prog_1_method_52_code
set_option maxRecDepth 100000 in
theorem m_V_dropBid : ax_mv y_V_dropBid b_V_dropBid 3 none 2 0 := ⟨ax_tc2 (i := 168) rfl (by decide +kernel), ax_tw (i := 407) (by decide +kernel) (by decide +kernel), ax_ts0 (i := 23) (by decide +kernel) (by decide +kernel), ax_tw (i := 1) (by decide +kernel) (by decide +kernel), ⟨by decide +kernel, by decide +kernel, by decide +kernel⟩, _, rfl, rfl⟩
def y_A_tell : MethodName := ⟨"VoteAuctions$Auction", "tell", "(I)V"⟩
abbrev b_A_tell : ByteArray := prog_2_method_3_code
set_option maxRecDepth 100000 in
theorem m_A_tell : ax_mv y_A_tell b_A_tell 2 none 1 2 := ⟨ax_tc2 (i := 172) rfl (by decide +kernel), ax_tw (i := 411) (by decide +kernel) (by decide +kernel), ax_ts0 (i := 24) (by decide +kernel) (by decide +kernel), ax_tw (i := 6) (by decide +kernel) (by decide +kernel), ⟨by decide +kernel, by decide +kernel, by decide +kernel⟩, _, rfl, rfl⟩
def y_V_setAside : MethodName := ⟨"VoteAuctions", "setAside", "(IJ)V"⟩
abbrev b_V_setAside : ByteArray := prog_1_method_31_code
set_option maxRecDepth 100000 in
theorem m_V_setAside : ax_mv y_V_setAside b_V_setAside 4 none 2 0 := ⟨ax_tc2 (i := 176) rfl (by decide +kernel), ax_tw (i := 415) (by decide +kernel) (by decide +kernel), ax_ts0 (i := 25) (by decide +kernel) (by decide +kernel), ax_tw (i := 1) (by decide +kernel) (by decide +kernel), ⟨by decide +kernel, by decide +kernel, by decide +kernel⟩, _, rfl, rfl⟩
def y_V_seal : MethodName := ⟨"VoteAuctions", "seal", "(IIJ)I"⟩
abbrev b_V_seal : ByteArray := prog_1_method_22_code
set_option maxRecDepth 100000 in
theorem m_V_seal : ax_mv y_V_seal b_V_seal 7 (some (.int)) 3 0 := ⟨ax_tc2 (i := 180) rfl (by decide +kernel), ax_tw (i := 418) (by decide +kernel) (by decide +kernel), ax_tw (i := 419) (by decide +kernel) (by decide +kernel), ax_tw (i := 1) (by decide +kernel) (by decide +kernel), ⟨by decide +kernel, by decide +kernel, by decide +kernel⟩, _, rfl, rfl⟩
def y_V_unseal : MethodName := ⟨"VoteAuctions", "unseal", "(IIII)I"⟩
abbrev b_V_unseal : ByteArray := prog_1_method_23_code
set_option maxRecDepth 100000 in
theorem m_V_unseal : ax_mv y_V_unseal b_V_unseal 6 (some (.int)) 4 0 := ⟨ax_tc2 (i := 184) rfl (by decide +kernel), ax_tw (i := 422) (by decide +kernel) (by decide +kernel), ax_tw (i := 423) (by decide +kernel) (by decide +kernel), ax_tw (i := 1) (by decide +kernel) (by decide +kernel), ⟨by decide +kernel, by decide +kernel, by decide +kernel⟩, _, rfl, rfl⟩
def y_V_take : MethodName := ⟨"VoteAuctions", "take", "(II)I"⟩
abbrev b_V_take : ByteArray := prog_1_method_24_code
set_option maxRecDepth 100000 in
theorem m_V_take : ax_mv y_V_take b_V_take 5 (some (.int)) 2 0 := ⟨ax_tc2 (i := 188) rfl (by decide +kernel), ax_tw (i := 426) (by decide +kernel) (by decide +kernel), ax_tw (i := 427) (by decide +kernel) (by decide +kernel), ax_tw (i := 1) (by decide +kernel) (by decide +kernel), ⟨by decide +kernel, by decide +kernel, by decide +kernel⟩, _, rfl, rfl⟩
def y_V_fallingPrice : MethodName := ⟨"VoteAuctions", "fallingPrice", "(LVoteAuctions$Auction;)I"⟩
abbrev b_V_fallingPrice : ByteArray := prog_1_method_51_code
set_option maxRecDepth 100000 in
theorem m_V_fallingPrice : ax_mv y_V_fallingPrice b_V_fallingPrice 2 (some (.int)) 1 0 := ⟨ax_tc2 (i := 192) rfl (by decide +kernel), ax_tw (i := 431) (by decide +kernel) (by decide +kernel), ax_ts0 (i := 26) (by decide +kernel) (by decide +kernel), ax_tw (i := 1) (by decide +kernel) (by decide +kernel), ⟨by decide +kernel, by decide +kernel, by decide +kernel⟩, _, rfl, rfl⟩
def y_V_price : MethodName := ⟨"VoteAuctions", "price", "(I)I"⟩
abbrev b_V_price : ByteArray := prog_1_method_25_code
set_option maxRecDepth 100000 in
theorem m_V_price : ax_mv y_V_price b_V_price 3 (some (.int)) 1 0 := ⟨ax_tc2 (i := 196) rfl (by decide +kernel), ax_tw (i := 434) (by decide +kernel) (by decide +kernel), ax_tw (i := 435) (by decide +kernel) (by decide +kernel), ax_tw (i := 1) (by decide +kernel) (by decide +kernel), ⟨by decide +kernel, by decide +kernel, by decide +kernel⟩, _, rfl, rfl⟩
def y_V_won : MethodName := ⟨"VoteAuctions", "won", "(II)I"⟩
abbrev b_V_won : ByteArray := prog_1_method_26_code
set_option maxRecDepth 100000 in
theorem m_V_won : ax_mv y_V_won b_V_won 4 (some (.int)) 2 0 := ⟨ax_tc2 (i := 200) rfl (by decide +kernel), ax_tw (i := 438) (by decide +kernel) (by decide +kernel), ax_tw (i := 439) (by decide +kernel) (by decide +kernel), ax_tw (i := 1) (by decide +kernel) (by decide +kernel), ⟨by decide +kernel, by decide +kernel, by decide +kernel⟩, _, rfl, rfl⟩
def y_M_init : MethodName := ⟨"VoteAuctionsModel", "<init>", "()V"⟩
abbrev b_M_init : ByteArray := prog_5_method_1_code
set_option maxRecDepth 100000 in
theorem m_M_init : ax_mi y_M_init b_M_init 1 0 := ⟨ax_tc2 (i := 205) rfl (by decide +kernel), ax_tw (i := 444) (by decide +kernel) (by decide +kernel), rfl, ax_tw (i := 2) (by decide +kernel) (by decide +kernel), ⟨by decide +kernel, by decide +kernel, by decide +kernel⟩⟩
def y_M_account : MethodName := ⟨"VoteAuctionsModel", "account", "(II)I"⟩
abbrev b_M_account : ByteArray := prog_5_method_5_code
set_option maxRecDepth 100000 in
theorem m_M_account : ax_mv y_M_account b_M_account 3 (some (.int)) 2 3 := ⟨ax_tc3 (i := 120) rfl (by decide +kernel), ax_tw (i := 598) (by decide +kernel) (by decide +kernel), ax_tw (i := 599) (by decide +kernel) (by decide +kernel), ax_tw (i := 2) (by decide +kernel) (by decide +kernel), ⟨by decide +kernel, by decide +kernel, by decide +kernel⟩, _, rfl, rfl⟩
def y_M_isIn : MethodName := ⟨"VoteAuctionsModel", "isIn", "(III)Z"⟩
abbrev b_M_isIn : ByteArray := prog_5_method_3_code
set_option maxRecDepth 100000 in
theorem m_M_isIn : ax_ms y_M_isIn b_M_isIn 3 (some (.boolean)) 3 := ⟨ax_tc3 (i := 123) rfl (by decide +kernel), ax_tw (i := 602) (by decide +kernel) (by decide +kernel), ax_tw (i := 2) (by decide +kernel) (by decide +kernel), ⟨by decide +kernel, by decide +kernel, by decide +kernel⟩⟩
def y_M_weigh : MethodName := ⟨"VoteAuctionsModel", "weigh", "(II)I"⟩
abbrev b_M_weigh : ByteArray := prog_5_method_6_code
set_option maxRecDepth 100000 in
theorem m_M_weigh : ax_mv y_M_weigh b_M_weigh 4 (some (.int)) 2 3 := ⟨ax_tc3 (i := 128) rfl (by decide +kernel), ax_tw (i := 606) (by decide +kernel) (by decide +kernel), ax_tw (i := 607) (by decide +kernel) (by decide +kernel), ax_tw (i := 2) (by decide +kernel) (by decide +kernel), ⟨by decide +kernel, by decide +kernel, by decide +kernel⟩, _, rfl, rfl⟩
def y_M_isAccount : MethodName := ⟨"VoteAuctionsModel", "isAccount", "(I)Z"⟩
abbrev b_M_isAccount : ByteArray := prog_5_method_4_code
set_option maxRecDepth 100000 in
theorem m_M_isAccount : ax_mv y_M_isAccount b_M_isAccount 2 (some (.boolean)) 1 3 := ⟨ax_tc3 (i := 132) rfl (by decide +kernel), ax_tw (i := 611) (by decide +kernel) (by decide +kernel), ax_ts0 (i := 27) (by decide +kernel) (by decide +kernel), ax_tw (i := 2) (by decide +kernel) (by decide +kernel), ⟨by decide +kernel, by decide +kernel, by decide +kernel⟩, _, rfl, rfl⟩
def y_M_fund : MethodName := ⟨"VoteAuctionsModel", "fund", "(II)I"⟩
abbrev b_M_fund : ByteArray := prog_5_method_7_code
set_option maxRecDepth 100000 in
theorem m_M_fund : ax_mv y_M_fund b_M_fund 3 (some (.int)) 2 3 := ⟨ax_tc3 (i := 136) rfl (by decide +kernel), ax_tw (i := 614) (by decide +kernel) (by decide +kernel), ax_tw (i := 615) (by decide +kernel) (by decide +kernel), ax_tw (i := 2) (by decide +kernel) (by decide +kernel), ⟨by decide +kernel, by decide +kernel, by decide +kernel⟩, _, rfl, rfl⟩
def y_M_speak : MethodName := ⟨"VoteAuctionsModel", "speak", "(II)I"⟩
abbrev b_M_speak : ByteArray := prog_5_method_8_code
set_option maxRecDepth 100000 in
theorem m_M_speak : ax_mv y_M_speak b_M_speak 4 (some (.int)) 2 3 := ⟨ax_tc3 (i := 141) rfl (by decide +kernel), ax_tw (i := 619) (by decide +kernel) (by decide +kernel), ax_tw (i := 620) (by decide +kernel) (by decide +kernel), ax_tw (i := 2) (by decide +kernel) (by decide +kernel), ⟨by decide +kernel, by decide +kernel, by decide +kernel⟩, _, rfl, rfl⟩
def y_M_holds : MethodName := ⟨"VoteAuctionsModel", "holds", "(II)J"⟩
abbrev b_M_holds : ByteArray := prog_5_method_9_code
set_option maxRecDepth 100000 in
theorem m_M_holds : ax_mv y_M_holds b_M_holds 3 (some (.long)) 2 3 := ⟨ax_tc3 (i := 145) rfl (by decide +kernel), ax_tw (i := 623) (by decide +kernel) (by decide +kernel), ax_tw (i := 624) (by decide +kernel) (by decide +kernel), ax_tw (i := 2) (by decide +kernel) (by decide +kernel), ⟨by decide +kernel, by decide +kernel, by decide +kernel⟩, _, rfl, rfl⟩
def y_M_pot : MethodName := ⟨"VoteAuctionsModel", "pot", "()J"⟩
abbrev b_M_pot : ByteArray := prog_5_method_10_code
set_option maxRecDepth 100000 in
theorem m_M_pot : ax_mv y_M_pot b_M_pot 1 (some (.long)) 0 3 := ⟨ax_tc3 (i := 151) rfl (by decide +kernel), ax_tw (i := 629) (by decide +kernel) (by decide +kernel), ax_tw (i := 630) (by decide +kernel) (by decide +kernel), ax_tw (i := 2) (by decide +kernel) (by decide +kernel), ⟨by decide +kernel, by decide +kernel, by decide +kernel⟩, _, rfl, rfl⟩
def y_M_tick : MethodName := ⟨"VoteAuctionsModel", "tick", "(I)I"⟩
abbrev b_M_tick : ByteArray := prog_5_method_11_code
set_option maxRecDepth 100000 in
theorem m_M_tick : ax_mv y_M_tick b_M_tick 5 (some (.int)) 1 3 := ⟨ax_tc3 (i := 155) rfl (by decide +kernel), ax_tw (i := 633) (by decide +kernel) (by decide +kernel), ax_tw (i := 634) (by decide +kernel) (by decide +kernel), ax_tw (i := 2) (by decide +kernel) (by decide +kernel), ⟨by decide +kernel, by decide +kernel, by decide +kernel⟩, _, rfl, rfl⟩
def y_M_end : MethodName := ⟨"VoteAuctionsModel", "end", "(I)V"⟩
abbrev b_M_end : ByteArray := prog_5_method_47_code
set_option maxRecDepth 100000 in
theorem m_M_end : ax_mv y_M_end b_M_end 5 none 1 3 := ⟨ax_tc3 (i := 159) rfl (by decide +kernel), ax_tw (i := 638) (by decide +kernel) (by decide +kernel), ax_ts0 (i := 28) (by decide +kernel) (by decide +kernel), ax_tw (i := 2) (by decide +kernel) (by decide +kernel), ⟨by decide +kernel, by decide +kernel, by decide +kernel⟩, _, rfl, rfl⟩
def y_M_endUnits : MethodName := ⟨"VoteAuctionsModel", "endUnits", "(I)V"⟩
abbrev b_M_endUnits : ByteArray := prog_5_method_48_code
set_option maxRecDepth 100000 in
theorem m_M_endUnits : ax_mv y_M_endUnits b_M_endUnits 10 none 1 3 := ⟨ax_tc3 (i := 163) rfl (by decide +kernel), ax_tw (i := 642) (by decide +kernel) (by decide +kernel), ax_ts0 (i := 29) (by decide +kernel) (by decide +kernel), ax_tw (i := 2) (by decide +kernel) (by decide +kernel), ⟨by decide +kernel, by decide +kernel, by decide +kernel⟩, _, rfl, rfl⟩
def y_M_greatest : MethodName := ⟨"VoteAuctionsModel", "greatest", "(II)I"⟩
abbrev b_M_greatest : ByteArray := prog_5_method_41_code
set_option maxRecDepth 100000 in
theorem m_M_greatest : ax_mv y_M_greatest b_M_greatest 8 (some (.int)) 2 3 := ⟨ax_tc3 (i := 167) rfl (by decide +kernel), ax_tw (i := 646) (by decide +kernel) (by decide +kernel), ax_ts0 (i := 30) (by decide +kernel) (by decide +kernel), ax_tw (i := 2) (by decide +kernel) (by decide +kernel), ⟨by decide +kernel, by decide +kernel, by decide +kernel⟩, _, rfl, rfl⟩
def y_M_costOf : MethodName := ⟨"VoteAuctionsModel", "costOf", "(I)J"⟩
abbrev b_M_costOf : ByteArray := prog_5_method_40_code
set_option maxRecDepth 100000 in
theorem m_M_costOf : ax_mv y_M_costOf b_M_costOf 2 (some (.long)) 1 3 := ⟨ax_tc3 (i := 171) rfl (by decide +kernel), ax_tw (i := 650) (by decide +kernel) (by decide +kernel), ax_ts0 (i := 31) (by decide +kernel) (by decide +kernel), ax_tw (i := 2) (by decide +kernel) (by decide +kernel), ⟨by decide +kernel, by decide +kernel, by decide +kernel⟩, _, rfl, rfl⟩
def y_M_pay : MethodName := ⟨"VoteAuctionsModel", "pay", "(IJ)V"⟩
abbrev b_M_pay : ByteArray := prog_5_method_39_code
set_option maxRecDepth 100000 in
theorem m_M_pay : ax_mv y_M_pay b_M_pay 4 none 2 3 := ⟨ax_tc3 (i := 175) rfl (by decide +kernel), ax_tw (i := 654) (by decide +kernel) (by decide +kernel), ax_ts0 (i := 32) (by decide +kernel) (by decide +kernel), ax_tw (i := 2) (by decide +kernel) (by decide +kernel), ⟨by decide +kernel, by decide +kernel, by decide +kernel⟩, _, rfl, rfl⟩
def y_M_setAside : MethodName := ⟨"VoteAuctionsModel", "setAside", "(IJ)V"⟩
abbrev b_M_setAside : ByteArray := prog_5_method_38_code
set_option maxRecDepth 100000 in
theorem m_M_setAside : ax_mv y_M_setAside b_M_setAside 4 none 2 3 := ⟨ax_tc3 (i := 179) rfl (by decide +kernel), ax_tw (i := 658) (by decide +kernel) (by decide +kernel), ax_ts0 (i := 33) (by decide +kernel) (by decide +kernel), ax_tw (i := 2) (by decide +kernel) (by decide +kernel), ⟨by decide +kernel, by decide +kernel, by decide +kernel⟩, _, rfl, rfl⟩
def y_M_mark : MethodName := ⟨"VoteAuctionsModel", "mark", "(III)J"⟩
abbrev b_M_mark : ByteArray := prog_5_method_12_code
set_option maxRecDepth 100000 in
theorem m_M_mark : ax_mv y_M_mark b_M_mark 6 (some (.long)) 3 3 := ⟨ax_tc3 (i := 183) rfl (by decide +kernel), ax_tw (i := 661) (by decide +kernel) (by decide +kernel), ax_tw (i := 662) (by decide +kernel) (by decide +kernel), ax_tw (i := 2) (by decide +kernel) (by decide +kernel), ⟨by decide +kernel, by decide +kernel, by decide +kernel⟩, _, rfl, rfl⟩
def y_M_question : MethodName := ⟨"VoteAuctionsModel", "question", "(IIIII)I"⟩
abbrev b_M_question : ByteArray := prog_5_method_14_code
set_option maxRecDepth 100000 in
theorem m_M_question : ax_mv y_M_question b_M_question 8 (some (.int)) 5 3 := ⟨ax_tc3 (i := 189) rfl (by decide +kernel), ax_tw (i := 667) (by decide +kernel) (by decide +kernel), ax_tw (i := 668) (by decide +kernel) (by decide +kernel), ax_tw (i := 2) (by decide +kernel) (by decide +kernel), ⟨by decide +kernel, by decide +kernel, by decide +kernel⟩, _, rfl, rfl⟩
def y_M_call : MethodName := ⟨"VoteAuctionsModel", "call", "(IIII)I"⟩
abbrev b_M_call : ByteArray := prog_5_method_16_code
set_option maxRecDepth 100000 in
theorem m_M_call : ax_mv y_M_call b_M_call 5 (some (.int)) 4 3 := ⟨ax_tc3 (i := 193) rfl (by decide +kernel), ax_tw (i := 671) (by decide +kernel) (by decide +kernel), ax_tw (i := 672) (by decide +kernel) (by decide +kernel), ax_tw (i := 2) (by decide +kernel) (by decide +kernel), ⟨by decide +kernel, by decide +kernel, by decide +kernel⟩, _, rfl, rfl⟩
def y_M_isQuestion : MethodName := ⟨"VoteAuctionsModel", "isQuestion", "(I)Z"⟩
abbrev b_M_isQuestion : ByteArray := prog_5_method_13_code
set_option maxRecDepth 100000 in
theorem m_M_isQuestion : ax_mv y_M_isQuestion b_M_isQuestion 2 (some (.boolean)) 1 3 := ⟨ax_tc3 (i := 197) rfl (by decide +kernel), ax_tw (i := 676) (by decide +kernel) (by decide +kernel), ax_ts0 (i := 34) (by decide +kernel) (by decide +kernel), ax_tw (i := 2) (by decide +kernel) (by decide +kernel), ⟨by decide +kernel, by decide +kernel, by decide +kernel⟩, _, rfl, rfl⟩
def y_M_vote : MethodName := ⟨"VoteAuctionsModel", "vote", "(III)I"⟩
abbrev b_M_vote : ByteArray := prog_5_method_19_code
set_option maxRecDepth 100000 in
theorem m_M_vote : ax_mv y_M_vote b_M_vote 4 (some (.int)) 3 3 := ⟨ax_tc3 (i := 201) rfl (by decide +kernel), ax_tw (i := 679) (by decide +kernel) (by decide +kernel), ax_tw (i := 680) (by decide +kernel) (by decide +kernel), ax_tw (i := 2) (by decide +kernel) (by decide +kernel), ⟨by decide +kernel, by decide +kernel, by decide +kernel⟩, _, rfl, rfl⟩
def y_M_isVote : MethodName := ⟨"VoteAuctionsModel", "isVote", "(III)Z"⟩
abbrev b_M_isVote : ByteArray := prog_5_method_17_code
set_option maxRecDepth 100000 in
theorem m_M_isVote : ax_mv y_M_isVote b_M_isVote 8 (some (.boolean)) 3 3 := ⟨ax_tc3 (i := 205) rfl (by decide +kernel), ax_tw (i := 684) (by decide +kernel) (by decide +kernel), ax_ts0 (i := 35) (by decide +kernel) (by decide +kernel), ax_tw (i := 2) (by decide +kernel) (by decide +kernel), ⟨by decide +kernel, by decide +kernel, by decide +kernel⟩, _, rfl, rfl⟩
def y_M_isRanks : MethodName := ⟨"VoteAuctionsModel", "isRanks", "(II)Z"⟩
abbrev b_M_isRanks : ByteArray := prog_5_method_18_code
set_option maxRecDepth 100000 in
theorem m_M_isRanks : ax_ms y_M_isRanks b_M_isRanks 5 (some (.boolean)) 2 := ⟨ax_tc3 (i := 208) rfl (by decide +kernel), ax_tw (i := 687) (by decide +kernel) (by decide +kernel), ax_tw (i := 2) (by decide +kernel) (by decide +kernel), ⟨by decide +kernel, by decide +kernel, by decide +kernel⟩⟩
def y_M_isHidden : MethodName := ⟨"VoteAuctionsModel", "isHidden", "(I)Z"⟩
abbrev b_M_isHidden : ByteArray := prog_5_method_15_code
set_option maxRecDepth 100000 in
theorem m_M_isHidden : ax_mv y_M_isHidden b_M_isHidden 2 (some (.boolean)) 1 3 := ⟨ax_tc3 (i := 212) rfl (by decide +kernel), ax_tw (i := 691) (by decide +kernel) (by decide +kernel), ax_ts0 (i := 36) (by decide +kernel) (by decide +kernel), ax_tw (i := 2) (by decide +kernel) (by decide +kernel), ⟨by decide +kernel, by decide +kernel, by decide +kernel⟩, _, rfl, rfl⟩
def y_M_hide : MethodName := ⟨"VoteAuctionsModel", "hide", "(IIJ)I"⟩
abbrev b_M_hide : ByteArray := prog_5_method_20_code
set_option maxRecDepth 100000 in
theorem m_M_hide : ax_mv y_M_hide b_M_hide 5 (some (.int)) 3 3 := ⟨ax_tc3 (i := 216) rfl (by decide +kernel), ax_tw (i := 694) (by decide +kernel) (by decide +kernel), ax_tw (i := 695) (by decide +kernel) (by decide +kernel), ax_tw (i := 2) (by decide +kernel) (by decide +kernel), ⟨by decide +kernel, by decide +kernel, by decide +kernel⟩, _, rfl, rfl⟩
def y_M_reveal : MethodName := ⟨"VoteAuctionsModel", "reveal", "(IIII)I"⟩
abbrev b_M_reveal : ByteArray := prog_5_method_21_code
set_option maxRecDepth 100000 in
theorem m_M_reveal : ax_mv y_M_reveal b_M_reveal 6 (some (.int)) 4 3 := ⟨ax_tc3 (i := 220) rfl (by decide +kernel), ax_tw (i := 698) (by decide +kernel) (by decide +kernel), ax_tw (i := 699) (by decide +kernel) (by decide +kernel), ax_tw (i := 2) (by decide +kernel) (by decide +kernel), ⟨by decide +kernel, by decide +kernel, by decide +kernel⟩, _, rfl, rfl⟩
def y_M_count : MethodName := ⟨"VoteAuctionsModel", "count", "(II)I"⟩
abbrev b_M_count : ByteArray := prog_5_method_28_code
set_option maxRecDepth 100000 in
theorem m_M_count : ax_mv y_M_count b_M_count 3 (some (.int)) 2 3 := ⟨ax_tc3 (i := 225) rfl (by decide +kernel), ax_tw (i := 703) (by decide +kernel) (by decide +kernel), ax_tw (i := 704) (by decide +kernel) (by decide +kernel), ax_tw (i := 2) (by decide +kernel) (by decide +kernel), ⟨by decide +kernel, by decide +kernel, by decide +kernel⟩, _, rfl, rfl⟩
def y_M_findCounts : MethodName := ⟨"VoteAuctionsModel", "findCounts", "(I)V"⟩
abbrev b_M_findCounts : ByteArray := prog_5_method_25_code
set_option maxRecDepth 100000 in
theorem m_M_findCounts : ax_mv y_M_findCounts b_M_findCounts 5 none 1 3 := ⟨ax_tc3 (i := 229) rfl (by decide +kernel), ax_tw (i := 708) (by decide +kernel) (by decide +kernel), ax_ts0 (i := 37) (by decide +kernel) (by decide +kernel), ax_tw (i := 2) (by decide +kernel) (by decide +kernel), ⟨by decide +kernel, by decide +kernel, by decide +kernel⟩, _, rfl, rfl⟩
def y_M_findVoices : MethodName := ⟨"VoteAuctionsModel", "findVoices", "(I)V"⟩
abbrev b_M_findVoices : ByteArray := prog_5_method_23_code
set_option maxRecDepth 100000 in
theorem m_M_findVoices : ax_mv y_M_findVoices b_M_findVoices 4 none 1 3 := ⟨ax_tc3 (i := 233) rfl (by decide +kernel), ax_tw (i := 712) (by decide +kernel) (by decide +kernel), ax_ts0 (i := 38) (by decide +kernel) (by decide +kernel), ax_tw (i := 2) (by decide +kernel) (by decide +kernel), ⟨by decide +kernel, by decide +kernel, by decide +kernel⟩, _, rfl, rfl⟩
def y_M_speakerOf : MethodName := ⟨"VoteAuctionsModel", "speakerOf", "(II)I"⟩
abbrev b_M_speakerOf : ByteArray := prog_5_method_22_code
set_option maxRecDepth 100000 in
theorem m_M_speakerOf : ax_mv y_M_speakerOf b_M_speakerOf 3 (some (.int)) 2 3 := ⟨ax_tc3 (i := 237) rfl (by decide +kernel), ax_tw (i := 716) (by decide +kernel) (by decide +kernel), ax_ts0 (i := 39) (by decide +kernel) (by decide +kernel), ax_tw (i := 2) (by decide +kernel) (by decide +kernel), ⟨by decide +kernel, by decide +kernel, by decide +kernel⟩, _, rfl, rfl⟩
def y_M_weightOf : MethodName := ⟨"VoteAuctionsModel", "weightOf", "(II)I"⟩
abbrev b_M_weightOf : ByteArray := prog_5_method_24_code
set_option maxRecDepth 100000 in
theorem m_M_weightOf : ax_mv y_M_weightOf b_M_weightOf 3 (some (.int)) 2 3 := ⟨ax_tc4 (i := 1) rfl (by decide +kernel), ax_tw (i := 720) (by decide +kernel) (by decide +kernel), ax_ts0 (i := 40) (by decide +kernel) (by decide +kernel), ax_tw (i := 2) (by decide +kernel) (by decide +kernel), ⟨by decide +kernel, by decide +kernel, by decide +kernel⟩, _, rfl, rfl⟩
def y_M_runOff : MethodName := ⟨"VoteAuctionsModel", "runOff", "(I)V"⟩
abbrev b_M_runOff : ByteArray := prog_5_method_27_code
set_option maxRecDepth 100000 in
theorem m_M_runOff : ax_mv y_M_runOff b_M_runOff 7 none 1 3 := ⟨ax_tc4 (i := 5) rfl (by decide +kernel), ax_tw (i := 724) (by decide +kernel) (by decide +kernel), ax_ts0 (i := 41) (by decide +kernel) (by decide +kernel), ax_tw (i := 2) (by decide +kernel) (by decide +kernel), ⟨by decide +kernel, by decide +kernel, by decide +kernel⟩, _, rfl, rfl⟩
def y_M_rankOf : MethodName := ⟨"VoteAuctionsModel", "rankOf", "(I)I"⟩
abbrev b_M_rankOf : ByteArray := prog_5_method_26_code
set_option maxRecDepth 100000 in
theorem m_M_rankOf : ax_mv y_M_rankOf b_M_rankOf 3 (some (.int)) 1 3 := ⟨ax_tc4 (i := 9) rfl (by decide +kernel), ax_tw (i := 728) (by decide +kernel) (by decide +kernel), ax_ts0 (i := 42) (by decide +kernel) (by decide +kernel), ax_tw (i := 2) (by decide +kernel) (by decide +kernel), ⟨by decide +kernel, by decide +kernel, by decide +kernel⟩, _, rfl, rfl⟩
def y_M_fallen : MethodName := ⟨"VoteAuctionsModel", "fallen", "(II)I"⟩
abbrev b_M_fallen : ByteArray := prog_5_method_29_code
set_option maxRecDepth 100000 in
theorem m_M_fallen : ax_mv y_M_fallen b_M_fallen 3 (some (.int)) 2 3 := ⟨ax_tc4 (i := 13) rfl (by decide +kernel), ax_tw (i := 731) (by decide +kernel) (by decide +kernel), ax_tw (i := 732) (by decide +kernel) (by decide +kernel), ax_tw (i := 2) (by decide +kernel) (by decide +kernel), ⟨by decide +kernel, by decide +kernel, by decide +kernel⟩, _, rfl, rfl⟩
def y_M_winner : MethodName := ⟨"VoteAuctionsModel", "winner", "(I)I"⟩
abbrev b_M_winner : ByteArray := prog_5_method_31_code
set_option maxRecDepth 100000 in
theorem m_M_winner : ax_mv y_M_winner b_M_winner 2 (some (.int)) 1 3 := ⟨ax_tc4 (i := 17) rfl (by decide +kernel), ax_tw (i := 735) (by decide +kernel) (by decide +kernel), ax_tw (i := 736) (by decide +kernel) (by decide +kernel), ax_tw (i := 2) (by decide +kernel) (by decide +kernel), ⟨by decide +kernel, by decide +kernel, by decide +kernel⟩, _, rfl, rfl⟩
def y_M_first : MethodName := ⟨"VoteAuctionsModel", "first", "(I)I"⟩
abbrev b_M_first : ByteArray := prog_5_method_30_code
set_option maxRecDepth 100000 in
theorem m_M_first : ax_mv y_M_first b_M_first 4 (some (.int)) 1 3 := ⟨ax_tc4 (i := 21) rfl (by decide +kernel), ax_tw (i := 740) (by decide +kernel) (by decide +kernel), ax_ts0 (i := 43) (by decide +kernel) (by decide +kernel), ax_tw (i := 2) (by decide +kernel) (by decide +kernel), ⟨by decide +kernel, by decide +kernel, by decide +kernel⟩, _, rfl, rfl⟩
def y_M_passed : MethodName := ⟨"VoteAuctionsModel", "passed", "(I)I"⟩
abbrev b_M_passed : ByteArray := prog_5_method_33_code
set_option maxRecDepth 100000 in
theorem m_M_passed : ax_mv y_M_passed b_M_passed 2 (some (.int)) 1 3 := ⟨ax_tc4 (i := 25) rfl (by decide +kernel), ax_tw (i := 743) (by decide +kernel) (by decide +kernel), ax_tw (i := 744) (by decide +kernel) (by decide +kernel), ax_tw (i := 2) (by decide +kernel) (by decide +kernel), ⟨by decide +kernel, by decide +kernel, by decide +kernel⟩, _, rfl, rfl⟩
def y_M_isPassed : MethodName := ⟨"VoteAuctionsModel", "isPassed", "(I)Z"⟩
abbrev b_M_isPassed : ByteArray := prog_5_method_32_code
set_option maxRecDepth 100000 in
theorem m_M_isPassed : ax_mv y_M_isPassed b_M_isPassed 4 (some (.boolean)) 1 3 := ⟨ax_tc4 (i := 29) rfl (by decide +kernel), ax_tw (i := 748) (by decide +kernel) (by decide +kernel), ax_ts0 (i := 44) (by decide +kernel) (by decide +kernel), ax_tw (i := 2) (by decide +kernel) (by decide +kernel), ⟨by decide +kernel, by decide +kernel, by decide +kernel⟩, _, rfl, rfl⟩
def y_M_run : MethodName := ⟨"VoteAuctionsModel", "run", "(I)I"⟩
abbrev b_M_run : ByteArray := prog_5_method_34_code
set_option maxRecDepth 100000 in
theorem m_M_run : ax_mv y_M_run b_M_run 2 (some (.int)) 1 3 := ⟨ax_tc4 (i := 33) rfl (by decide +kernel), ax_tw (i := 751) (by decide +kernel) (by decide +kernel), ax_tw (i := 752) (by decide +kernel) (by decide +kernel), ax_tw (i := 2) (by decide +kernel) (by decide +kernel), ⟨by decide +kernel, by decide +kernel, by decide +kernel⟩, _, rfl, rfl⟩
def y_M_auction : MethodName := ⟨"VoteAuctionsModel", "auction", "(IIIII)I"⟩
abbrev b_M_auction : ByteArray := prog_5_method_36_code
set_option maxRecDepth 100000 in
theorem m_M_auction : ax_mv y_M_auction b_M_auction 8 (some (.int)) 5 3 := ⟨ax_tc4 (i := 37) rfl (by decide +kernel), ax_tw (i := 755) (by decide +kernel) (by decide +kernel), ax_tw (i := 756) (by decide +kernel) (by decide +kernel), ax_tw (i := 2) (by decide +kernel) (by decide +kernel), ⟨by decide +kernel, by decide +kernel, by decide +kernel⟩, _, rfl, rfl⟩
def y_M_bid : MethodName := ⟨"VoteAuctionsModel", "bid", "(IIII)I"⟩
abbrev b_M_bid : ByteArray := prog_5_method_42_code
set_option maxRecDepth 100000 in
theorem m_M_bid : ax_mv y_M_bid b_M_bid 7 (some (.int)) 4 3 := ⟨ax_tc4 (i := 42) rfl (by decide +kernel), ax_tw (i := 760) (by decide +kernel) (by decide +kernel), ax_tw (i := 761) (by decide +kernel) (by decide +kernel), ax_tw (i := 2) (by decide +kernel) (by decide +kernel), ⟨by decide +kernel, by decide +kernel, by decide +kernel⟩, _, rfl, rfl⟩
def y_M_isAuction : MethodName := ⟨"VoteAuctionsModel", "isAuction", "(I)Z"⟩
abbrev b_M_isAuction : ByteArray := prog_5_method_35_code
set_option maxRecDepth 100000 in
theorem m_M_isAuction : ax_mv y_M_isAuction b_M_isAuction 2 (some (.boolean)) 1 3 := ⟨ax_tc4 (i := 46) rfl (by decide +kernel), ax_tw (i := 765) (by decide +kernel) (by decide +kernel), ax_ts0 (i := 45) (by decide +kernel) (by decide +kernel), ax_tw (i := 2) (by decide +kernel) (by decide +kernel), ⟨by decide +kernel, by decide +kernel, by decide +kernel⟩, _, rfl, rfl⟩
def y_M_isOver : MethodName := ⟨"VoteAuctionsModel", "isOver", "(I)Z"⟩
abbrev b_M_isOver : ByteArray := prog_5_method_37_code
set_option maxRecDepth 100000 in
theorem m_M_isOver : ax_mv y_M_isOver b_M_isOver 2 (some (.boolean)) 1 3 := ⟨ax_tc4 (i := 50) rfl (by decide +kernel), ax_tw (i := 769) (by decide +kernel) (by decide +kernel), ax_ts0 (i := 46) (by decide +kernel) (by decide +kernel), ax_tw (i := 2) (by decide +kernel) (by decide +kernel), ⟨by decide +kernel, by decide +kernel, by decide +kernel⟩, _, rfl, rfl⟩
def y_M_seal : MethodName := ⟨"VoteAuctionsModel", "seal", "(IIJ)I"⟩
abbrev b_M_seal : ByteArray := prog_5_method_43_code
set_option maxRecDepth 100000 in
theorem m_M_seal : ax_mv y_M_seal b_M_seal 6 (some (.int)) 3 3 := ⟨ax_tc4 (i := 54) rfl (by decide +kernel), ax_tw (i := 772) (by decide +kernel) (by decide +kernel), ax_tw (i := 773) (by decide +kernel) (by decide +kernel), ax_tw (i := 2) (by decide +kernel) (by decide +kernel), ⟨by decide +kernel, by decide +kernel, by decide +kernel⟩, _, rfl, rfl⟩
def y_M_unseal : MethodName := ⟨"VoteAuctionsModel", "unseal", "(IIII)I"⟩
abbrev b_M_unseal : ByteArray := prog_5_method_44_code
set_option maxRecDepth 100000 in
theorem m_M_unseal : ax_mv y_M_unseal b_M_unseal 6 (some (.int)) 4 3 := ⟨ax_tc4 (i := 58) rfl (by decide +kernel), ax_tw (i := 776) (by decide +kernel) (by decide +kernel), ax_tw (i := 777) (by decide +kernel) (by decide +kernel), ax_tw (i := 2) (by decide +kernel) (by decide +kernel), ⟨by decide +kernel, by decide +kernel, by decide +kernel⟩, _, rfl, rfl⟩
def y_M_take : MethodName := ⟨"VoteAuctionsModel", "take", "(II)I"⟩
abbrev b_M_take : ByteArray := prog_5_method_46_code
set_option maxRecDepth 100000 in
theorem m_M_take : ax_mv y_M_take b_M_take 3 (some (.int)) 2 3 := ⟨ax_tc4 (i := 62) rfl (by decide +kernel), ax_tw (i := 780) (by decide +kernel) (by decide +kernel), ax_tw (i := 781) (by decide +kernel) (by decide +kernel), ax_tw (i := 2) (by decide +kernel) (by decide +kernel), ⟨by decide +kernel, by decide +kernel, by decide +kernel⟩, _, rfl, rfl⟩
def y_M_nowPrice : MethodName := ⟨"VoteAuctionsModel", "nowPrice", "(I)J"⟩
abbrev b_M_nowPrice : ByteArray := prog_5_method_45_code
set_option maxRecDepth 100000 in
theorem m_M_nowPrice : ax_mv y_M_nowPrice b_M_nowPrice 2 (some (.long)) 1 3 := ⟨ax_tc4 (i := 66) rfl (by decide +kernel), ax_tw (i := 785) (by decide +kernel) (by decide +kernel), ax_ts0 (i := 47) (by decide +kernel) (by decide +kernel), ax_tw (i := 2) (by decide +kernel) (by decide +kernel), ⟨by decide +kernel, by decide +kernel, by decide +kernel⟩, _, rfl, rfl⟩
def y_M_price : MethodName := ⟨"VoteAuctionsModel", "price", "(I)I"⟩
abbrev b_M_price : ByteArray := prog_5_method_49_code
set_option maxRecDepth 100000 in
theorem m_M_price : ax_mv y_M_price b_M_price 4 (some (.int)) 1 3 := ⟨ax_tc4 (i := 70) rfl (by decide +kernel), ax_tw (i := 788) (by decide +kernel) (by decide +kernel), ax_tw (i := 789) (by decide +kernel) (by decide +kernel), ax_tw (i := 2) (by decide +kernel) (by decide +kernel), ⟨by decide +kernel, by decide +kernel, by decide +kernel⟩, _, rfl, rfl⟩
def y_M_won : MethodName := ⟨"VoteAuctionsModel", "won", "(II)I"⟩
abbrev b_M_won : ByteArray := prog_5_method_50_code
set_option maxRecDepth 100000 in
theorem m_M_won : ax_mv y_M_won b_M_won 3 (some (.int)) 2 3 := ⟨ax_tc4 (i := 74) rfl (by decide +kernel), ax_tw (i := 792) (by decide +kernel) (by decide +kernel), ax_tw (i := 793) (by decide +kernel) (by decide +kernel), ax_tw (i := 2) (by decide +kernel) (by decide +kernel), ⟨by decide +kernel, by decide +kernel, by decide +kernel⟩, _, rfl, rfl⟩
theorem l_L_9 : ax_ml "VoteAuctionsLaw" 9 y_V_init := Or.inl (ax_tw (i := 9) (by decide +kernel) (by decide +kernel))
theorem l_L_13 : ax_ml "VoteAuctionsLaw" 13 y_V_account := Or.inl (ax_tw (i := 67) (by decide +kernel) (by decide +kernel))
theorem l_V_44 : ax_ml "VoteAuctions" 44 y_V_isOutside := Or.inl (ax_tw (i := 71) (by decide +kernel) (by decide +kernel))
theorem l_L_18 : ax_ml "VoteAuctionsLaw" 18 y_V_weigh := Or.inl (ax_tw (i := 75) (by decide +kernel) (by decide +kernel))
theorem l_V_53 : ax_ml "VoteAuctions" 53 y_V_isNoAccount := Or.inl (ax_tw (i := 79) (by decide +kernel) (by decide +kernel))
theorem l_L_22 : ax_ml "VoteAuctionsLaw" 22 y_V_fund := Or.inl (ax_tw (i := 83) (by decide +kernel) (by decide +kernel))
theorem l_L_26 : ax_ml "VoteAuctionsLaw" 26 y_V_speak := Or.inl (ax_tw (i := 88) (by decide +kernel) (by decide +kernel))
theorem l_L_30 : ax_ml "VoteAuctionsLaw" 30 y_V_holds := Or.inl (ax_tw (i := 92) (by decide +kernel) (by decide +kernel))
theorem l_L_35 : ax_ml "VoteAuctionsLaw" 35 y_V_pot := Or.inl (ax_tw (i := 98) (by decide +kernel) (by decide +kernel))
theorem l_L_40 : ax_ml "VoteAuctionsLaw" 40 y_V_tick := Or.inl (ax_tw (i := 102) (by decide +kernel) (by decide +kernel))
theorem l_V_69 : ax_ml "VoteAuctions" 69 y_V_endQuestions := Or.inl (ax_tw (i := 106) (by decide +kernel) (by decide +kernel))
theorem l_V_72 : ax_ml "VoteAuctions" 72 y_V_endAuctions := Or.inl (ax_tw (i := 113) (by decide +kernel) (by decide +kernel))
theorem l_V_282 : ax_ml "VoteAuctions" 282 y_V_endAuction := Or.inl (ax_tw (i := 117) (by decide +kernel) (by decide +kernel))
theorem l_V_211 : ax_ml "VoteAuctions" 211 y_A_isSealed := Or.inr ⟨"VoteAuctions", ax_tn (i := 121) (by decide +kernel) (by decide +kernel)⟩
theorem l_V_286 : ax_ml "VoteAuctions" 286 y_V_payUnopened := Or.inl (ax_tw (i := 126) (by decide +kernel) (by decide +kernel))
theorem l_V_223 : ax_ml "VoteAuctions" 223 y_V_payAside := Or.inl (ax_tw (i := 130) (by decide +kernel) (by decide +kernel))
theorem l_V_289 : ax_ml "VoteAuctions" 289 y_V_shareUnits := Or.inl (ax_tw (i := 134) (by decide +kernel) (by decide +kernel))
theorem l_V_292 : ax_ml "VoteAuctions" 292 y_A_bestWithout := Or.inr ⟨"VoteAuctions", ax_tn (i := 137) (by decide +kernel) (by decide +kernel)⟩
theorem l_A_53 : ax_ml "VoteAuctions$Auction" 53 y_A_isAhead := Or.inl (ax_tw (i := 141) (by decide +kernel) (by decide +kernel))
theorem l_V_296 : ax_ml "VoteAuctions" 296 y_V_settleBids := Or.inl (ax_tw (i := 148) (by decide +kernel) (by decide +kernel))
theorem l_V_180 : ax_ml "VoteAuctions" 180 y_A_costOf := Or.inr ⟨"VoteAuctions", ax_tn (i := 152) (by decide +kernel) (by decide +kernel)⟩
theorem l_V_216 : ax_ml "VoteAuctions" 216 y_V_giveBack := Or.inl (ax_tw (i := 156) (by decide +kernel) (by decide +kernel))
theorem l_L_45 : ax_ml "VoteAuctionsLaw" 45 y_V_mark := Or.inl (ax_tw (i := 160) (by decide +kernel) (by decide +kernel))
theorem l_L_50 : ax_ml "VoteAuctionsLaw" 50 y_V_question := Or.inl (ax_tw (i := 166) (by decide +kernel) (by decide +kernel))
theorem l_V_82 : ax_ml "VoteAuctions" 82 y_Q_init := Or.inr ⟨"VoteAuctions", ax_tn (i := 171) (by decide +kernel) (by decide +kernel)⟩
theorem l_L_55 : ax_ml "VoteAuctionsLaw" 55 y_V_call := Or.inl (ax_tw (i := 230) (by decide +kernel) (by decide +kernel))
theorem l_V_92 : ax_ml "VoteAuctions" 92 y_V_questionAt := Or.inl (ax_tw (i := 234) (by decide +kernel) (by decide +kernel))
theorem l_L_60 : ax_ml "VoteAuctionsLaw" 60 y_V_vote := Or.inl (ax_tw (i := 238) (by decide +kernel) (by decide +kernel))
theorem l_V_111 : ax_ml "VoteAuctions" 111 y_V_isVote := Or.inl (ax_tw (i := 242) (by decide +kernel) (by decide +kernel))
theorem l_V_229 : ax_ml "VoteAuctions" 229 y_V_isRanks := Or.inl (ax_tw (i := 245) (by decide +kernel) (by decide +kernel))
theorem l_V_236 : ax_ml "VoteAuctions" 236 y_V_hasChoice := Or.inl (ax_tw (i := 248) (by decide +kernel) (by decide +kernel))
theorem l_V_233 : ax_ml "VoteAuctions" 233 y_V_isStrengths := Or.inl (ax_tw (i := 251) (by decide +kernel) (by decide +kernel))
theorem l_V_239 : ax_ml "VoteAuctions" 239 y_V_strengthOf := Or.inl (ax_tw (i := 254) (by decide +kernel) (by decide +kernel))
theorem l_V_115 : ax_ml "VoteAuctions" 115 y_Q_isHidden := Or.inr ⟨"VoteAuctions", ax_tn (i := 257) (by decide +kernel) (by decide +kernel)⟩
theorem l_L_67 : ax_ml "VoteAuctionsLaw" 67 y_V_hide := Or.inl (ax_tw (i := 261) (by decide +kernel) (by decide +kernel))
theorem l_L_72 : ax_ml "VoteAuctionsLaw" 72 y_V_reveal := Or.inl (ax_tw (i := 265) (by decide +kernel) (by decide +kernel))
theorem l_V_129 : ax_ml "VoteAuctions" 129 y_V_mark := Or.inl (ax_tw (i := 269) (by decide +kernel) (by decide +kernel))
theorem l_L_76 : ax_ml "VoteAuctionsLaw" 76 y_V_count := Or.inl (ax_tw (i := 270) (by decide +kernel) (by decide +kernel))
theorem l_V_136 : ax_ml "VoteAuctions" 136 y_V_countVotes := Or.inl (ax_tw (i := 274) (by decide +kernel) (by decide +kernel))
theorem l_V_243 : ax_ml "VoteAuctions" 243 y_V_findVoices := Or.inl (ax_tw (i := 278) (by decide +kernel) (by decide +kernel))
theorem l_V_257 : ax_ml "VoteAuctions" 257 y_V_voiceOf := Or.inl (ax_tw (i := 282) (by decide +kernel) (by decide +kernel))
theorem l_V_246 : ax_ml "VoteAuctions" 246 y_V_countRound := Or.inl (ax_tw (i := 286) (by decide +kernel) (by decide +kernel))
theorem l_V_263 : ax_ml "VoteAuctions" 263 y_V_shareOf := Or.inl (ax_tw (i := 290) (by decide +kernel) (by decide +kernel))
theorem l_V_267 : ax_ml "VoteAuctions" 267 y_V_firstOfRanks := Or.inl (ax_tw (i := 293) (by decide +kernel) (by decide +kernel))
theorem l_V_250 : ax_ml "VoteAuctions" 250 y_V_hasMoreThanHalf := Or.inl (ax_tw (i := 296) (by decide +kernel) (by decide +kernel))
theorem l_V_253 : ax_ml "VoteAuctions" 253 y_V_leastCounted := Or.inl (ax_tw (i := 303) (by decide +kernel) (by decide +kernel))
theorem l_L_80 : ax_ml "VoteAuctionsLaw" 80 y_V_fallen := Or.inl (ax_tw (i := 307) (by decide +kernel) (by decide +kernel))
theorem l_L_84 : ax_ml "VoteAuctionsLaw" 84 y_V_winner := Or.inl (ax_tw (i := 311) (by decide +kernel) (by decide +kernel))
theorem l_V_146 : ax_ml "VoteAuctions" 146 y_V_mostCounted := Or.inl (ax_tw (i := 315) (by decide +kernel) (by decide +kernel))
theorem l_L_88 : ax_ml "VoteAuctionsLaw" 88 y_V_passed := Or.inl (ax_tw (i := 319) (by decide +kernel) (by decide +kernel))
theorem l_V_150 : ax_ml "VoteAuctions" 150 y_V_isPassed := Or.inl (ax_tw (i := 323) (by decide +kernel) (by decide +kernel))
theorem l_L_92 : ax_ml "VoteAuctionsLaw" 92 y_V_run := Or.inl (ax_tw (i := 327) (by decide +kernel) (by decide +kernel))
theorem l_L_96 : ax_ml "VoteAuctionsLaw" 96 y_V_auction := Or.inl (ax_tw (i := 331) (by decide +kernel) (by decide +kernel))
theorem l_V_161 : ax_ml "VoteAuctions" 161 y_A_init := Or.inr ⟨"VoteAuctions", ax_tn (i := 335) (by decide +kernel) (by decide +kernel)⟩
theorem l_L_100 : ax_ml "VoteAuctionsLaw" 100 y_V_bid := Or.inl (ax_tw (i := 394) (by decide +kernel) (by decide +kernel))
theorem l_V_164 : ax_ml "VoteAuctions" 164 y_V_auctionAt := Or.inl (ax_tw (i := 398) (by decide +kernel) (by decide +kernel))
theorem l_V_176 : ax_ml "VoteAuctions" 176 y_V_isBelowStep := Or.inl (ax_tw (i := 402) (by decide +kernel) (by decide +kernel))
theorem l_V_187 : ax_ml "VoteAuctions" 187 y_V_dropBid := Or.inl (ax_tw (i := 405) (by decide +kernel) (by decide +kernel))
theorem l_V_194 : ax_ml "VoteAuctions" 194 y_A_tell := Or.inr ⟨"VoteAuctions", ax_tn (i := 409) (by decide +kernel) (by decide +kernel)⟩
theorem l_V_204 : ax_ml "VoteAuctions" 204 y_V_setAside := Or.inl (ax_tw (i := 413) (by decide +kernel) (by decide +kernel))
theorem l_L_104 : ax_ml "VoteAuctionsLaw" 104 y_V_seal := Or.inl (ax_tw (i := 417) (by decide +kernel) (by decide +kernel))
theorem l_L_108 : ax_ml "VoteAuctionsLaw" 108 y_V_unseal := Or.inl (ax_tw (i := 421) (by decide +kernel) (by decide +kernel))
theorem l_L_112 : ax_ml "VoteAuctionsLaw" 112 y_V_take := Or.inl (ax_tw (i := 425) (by decide +kernel) (by decide +kernel))
theorem l_V_219 : ax_ml "VoteAuctions" 219 y_V_fallingPrice := Or.inl (ax_tw (i := 429) (by decide +kernel) (by decide +kernel))
theorem l_L_116 : ax_ml "VoteAuctionsLaw" 116 y_V_price := Or.inl (ax_tw (i := 433) (by decide +kernel) (by decide +kernel))
theorem l_L_120 : ax_ml "VoteAuctionsLaw" 120 y_V_won := Or.inl (ax_tw (i := 437) (by decide +kernel) (by decide +kernel))
theorem l_L_12 : ax_ml "VoteAuctionsLaw" 12 y_M_init := Or.inl (ax_tw (i := 443) (by decide +kernel) (by decide +kernel))
theorem l_L_17 : ax_ml "VoteAuctionsLaw" 17 y_M_account := Or.inl (ax_tw (i := 597) (by decide +kernel) (by decide +kernel))
theorem l_M_139 : ax_ml "VoteAuctionsModel" 139 y_M_isIn := Or.inl (ax_tw (i := 601) (by decide +kernel) (by decide +kernel))
theorem l_L_21 : ax_ml "VoteAuctionsLaw" 21 y_M_weigh := Or.inl (ax_tw (i := 605) (by decide +kernel) (by decide +kernel))
theorem l_M_143 : ax_ml "VoteAuctionsModel" 143 y_M_isAccount := Or.inl (ax_tw (i := 609) (by decide +kernel) (by decide +kernel))
theorem l_L_25 : ax_ml "VoteAuctionsLaw" 25 y_M_fund := Or.inl (ax_tw (i := 613) (by decide +kernel) (by decide +kernel))
theorem l_L_29 : ax_ml "VoteAuctionsLaw" 29 y_M_speak := Or.inl (ax_tw (i := 618) (by decide +kernel) (by decide +kernel))
theorem l_L_34 : ax_ml "VoteAuctionsLaw" 34 y_M_holds := Or.inl (ax_tw (i := 622) (by decide +kernel) (by decide +kernel))
theorem l_L_39 : ax_ml "VoteAuctionsLaw" 39 y_M_pot := Or.inl (ax_tw (i := 628) (by decide +kernel) (by decide +kernel))
theorem l_L_44 : ax_ml "VoteAuctionsLaw" 44 y_M_tick := Or.inl (ax_tw (i := 632) (by decide +kernel) (by decide +kernel))
theorem l_M_165 : ax_ml "VoteAuctionsModel" 165 y_M_end := Or.inl (ax_tw (i := 636) (by decide +kernel) (by decide +kernel))
theorem l_M_251 : ax_ml "VoteAuctionsModel" 251 y_M_endUnits := Or.inl (ax_tw (i := 640) (by decide +kernel) (by decide +kernel))
theorem l_M_234 : ax_ml "VoteAuctionsModel" 234 y_M_greatest := Or.inl (ax_tw (i := 644) (by decide +kernel) (by decide +kernel))
theorem l_M_237 : ax_ml "VoteAuctionsModel" 237 y_M_costOf := Or.inl (ax_tw (i := 648) (by decide +kernel) (by decide +kernel))
theorem l_M_254 : ax_ml "VoteAuctionsModel" 254 y_M_pay := Or.inl (ax_tw (i := 652) (by decide +kernel) (by decide +kernel))
theorem l_M_241 : ax_ml "VoteAuctionsModel" 241 y_M_setAside := Or.inl (ax_tw (i := 656) (by decide +kernel) (by decide +kernel))
theorem l_L_49 : ax_ml "VoteAuctionsLaw" 49 y_M_mark := Or.inl (ax_tw (i := 660) (by decide +kernel) (by decide +kernel))
theorem l_L_54 : ax_ml "VoteAuctionsLaw" 54 y_M_question := Or.inl (ax_tw (i := 666) (by decide +kernel) (by decide +kernel))
theorem l_L_59 : ax_ml "VoteAuctionsLaw" 59 y_M_call := Or.inl (ax_tw (i := 670) (by decide +kernel) (by decide +kernel))
theorem l_M_173 : ax_ml "VoteAuctionsModel" 173 y_M_isQuestion := Or.inl (ax_tw (i := 674) (by decide +kernel) (by decide +kernel))
theorem l_L_64 : ax_ml "VoteAuctionsLaw" 64 y_M_vote := Or.inl (ax_tw (i := 678) (by decide +kernel) (by decide +kernel))
theorem l_M_180 : ax_ml "VoteAuctionsModel" 180 y_M_isVote := Or.inl (ax_tw (i := 682) (by decide +kernel) (by decide +kernel))
theorem l_M_176 : ax_ml "VoteAuctionsModel" 176 y_M_isRanks := Or.inl (ax_tw (i := 686) (by decide +kernel) (by decide +kernel))
theorem l_M_183 : ax_ml "VoteAuctionsModel" 183 y_M_isHidden := Or.inl (ax_tw (i := 689) (by decide +kernel) (by decide +kernel))
theorem l_L_71 : ax_ml "VoteAuctionsLaw" 71 y_M_hide := Or.inl (ax_tw (i := 693) (by decide +kernel) (by decide +kernel))
theorem l_L_75 : ax_ml "VoteAuctionsLaw" 75 y_M_reveal := Or.inl (ax_tw (i := 697) (by decide +kernel) (by decide +kernel))
theorem l_M_186 : ax_ml "VoteAuctionsModel" 186 y_M_mark := Or.inl (ax_tw (i := 701) (by decide +kernel) (by decide +kernel))
theorem l_L_79 : ax_ml "VoteAuctionsLaw" 79 y_M_count := Or.inl (ax_tw (i := 702) (by decide +kernel) (by decide +kernel))
theorem l_M_217 : ax_ml "VoteAuctionsModel" 217 y_M_findCounts := Or.inl (ax_tw (i := 706) (by decide +kernel) (by decide +kernel))
theorem l_M_194 : ax_ml "VoteAuctionsModel" 194 y_M_findVoices := Or.inl (ax_tw (i := 710) (by decide +kernel) (by decide +kernel))
theorem l_M_190 : ax_ml "VoteAuctionsModel" 190 y_M_speakerOf := Or.inl (ax_tw (i := 714) (by decide +kernel) (by decide +kernel))
theorem l_M_203 : ax_ml "VoteAuctionsModel" 203 y_M_weightOf := Or.inl (ax_tw (i := 718) (by decide +kernel) (by decide +kernel))
theorem l_M_206 : ax_ml "VoteAuctionsModel" 206 y_M_runOff := Or.inl (ax_tw (i := 722) (by decide +kernel) (by decide +kernel))
theorem l_M_213 : ax_ml "VoteAuctionsModel" 213 y_M_rankOf := Or.inl (ax_tw (i := 726) (by decide +kernel) (by decide +kernel))
theorem l_L_83 : ax_ml "VoteAuctionsLaw" 83 y_M_fallen := Or.inl (ax_tw (i := 730) (by decide +kernel) (by decide +kernel))
theorem l_L_87 : ax_ml "VoteAuctionsLaw" 87 y_M_winner := Or.inl (ax_tw (i := 734) (by decide +kernel) (by decide +kernel))
theorem l_M_220 : ax_ml "VoteAuctionsModel" 220 y_M_first := Or.inl (ax_tw (i := 738) (by decide +kernel) (by decide +kernel))
theorem l_L_91 : ax_ml "VoteAuctionsLaw" 91 y_M_passed := Or.inl (ax_tw (i := 742) (by decide +kernel) (by decide +kernel))
theorem l_M_223 : ax_ml "VoteAuctionsModel" 223 y_M_isPassed := Or.inl (ax_tw (i := 746) (by decide +kernel) (by decide +kernel))
theorem l_L_95 : ax_ml "VoteAuctionsLaw" 95 y_M_run := Or.inl (ax_tw (i := 750) (by decide +kernel) (by decide +kernel))
theorem l_L_99 : ax_ml "VoteAuctionsLaw" 99 y_M_auction := Or.inl (ax_tw (i := 754) (by decide +kernel) (by decide +kernel))
theorem l_L_103 : ax_ml "VoteAuctionsLaw" 103 y_M_bid := Or.inl (ax_tw (i := 759) (by decide +kernel) (by decide +kernel))
theorem l_M_228 : ax_ml "VoteAuctionsModel" 228 y_M_isAuction := Or.inl (ax_tw (i := 763) (by decide +kernel) (by decide +kernel))
theorem l_M_231 : ax_ml "VoteAuctionsModel" 231 y_M_isOver := Or.inl (ax_tw (i := 767) (by decide +kernel) (by decide +kernel))
theorem l_L_107 : ax_ml "VoteAuctionsLaw" 107 y_M_seal := Or.inl (ax_tw (i := 771) (by decide +kernel) (by decide +kernel))
theorem l_L_111 : ax_ml "VoteAuctionsLaw" 111 y_M_unseal := Or.inl (ax_tw (i := 775) (by decide +kernel) (by decide +kernel))
theorem l_L_115 : ax_ml "VoteAuctionsLaw" 115 y_M_take := Or.inl (ax_tw (i := 779) (by decide +kernel) (by decide +kernel))
theorem l_M_248 : ax_ml "VoteAuctionsModel" 248 y_M_nowPrice := Or.inl (ax_tw (i := 783) (by decide +kernel) (by decide +kernel))
theorem l_L_119 : ax_ml "VoteAuctionsLaw" 119 y_M_price := Or.inl (ax_tw (i := 787) (by decide +kernel) (by decide +kernel))
theorem l_L_123 : ax_ml "VoteAuctionsLaw" 123 y_M_won := Or.inl (ax_tw (i := 791) (by decide +kernel) (by decide +kernel))
theorem j_L_7 : Cond.classLink "VoteAuctionsLaw" 7 "VoteAuctions" ∈ ax_ws := ax_tw (i := 7) (by decide +kernel) (by decide +kernel)
theorem j_V_23 : Cond.classLink "VoteAuctions" 23 "VoteAuctions$Question" ∈ ax_ws := ax_tw (i := 15) (by decide +kernel) (by decide +kernel)
theorem j_V_29 : Cond.classLink "VoteAuctions" 29 "VoteAuctions$Auction" ∈ ax_ws := ax_tw (i := 17) (by decide +kernel) (by decide +kernel)
theorem a_0 : Cond.arrayClass (ax_el 0) ∈ ax_ws := ax_tw (i := 65) (by decide +kernel) (by decide +kernel)
theorem a_1 : Cond.arrayClass (ax_el 1) ∈ ax_ws := ax_tw (i := 66) (by decide +kernel) (by decide +kernel)
theorem n_V_48 : Cond.constant "VoteAuctions" 48 (1000000) ∈ ax_ws := ax_tw (i := 74) (by decide +kernel) (by decide +kernel)
theorem n_V_57 : Cond.constant "VoteAuctions" 57 (100000) ∈ ax_ws := ax_tw (i := 87) (by decide +kernel) (by decide +kernel)
theorem n_V_58 : Cond.constantLong "VoteAuctions" 58 (-1) ∈ ax_ws := ax_tw (i := 96) (by decide +kernel) (by decide +kernel)
theorem n_V_60 : Cond.constantLong "VoteAuctions" 60 (-2) ∈ ax_ws := ax_tw (i := 97) (by decide +kernel) (by decide +kernel)
theorem n_V_75 : Cond.constantLong "VoteAuctions" 75 (-7046029254386353131) ∈ ax_ws := ax_tw (i := 164) (by decide +kernel) (by decide +kernel)
theorem n_V_77 : Cond.constantLong "VoteAuctions" 77 (-4658895280553007687) ∈ ax_ws := ax_tw (i := 165) (by decide +kernel) (by decide +kernel)
theorem a_2 : Cond.arrayClass (ax_el 2) ∈ ax_ws := ax_tw (i := 229) (by decide +kernel) (by decide +kernel)
theorem j_L_10 : Cond.classLink "VoteAuctionsLaw" 10 "VoteAuctionsModel" ∈ ax_ws := ax_tw (i := 441) (by decide +kernel) (by decide +kernel)
theorem n_M_142 : Cond.constant "VoteAuctionsModel" 142 (1000000) ∈ ax_ws := ax_tw (i := 604) (by decide +kernel) (by decide +kernel)
theorem n_M_147 : Cond.constant "VoteAuctionsModel" 147 (100000) ∈ ax_ws := ax_tw (i := 617) (by decide +kernel) (by decide +kernel)
theorem n_M_148 : Cond.constantLong "VoteAuctionsModel" 148 (-1) ∈ ax_ws := ax_tw (i := 626) (by decide +kernel) (by decide +kernel)
theorem n_M_150 : Cond.constantLong "VoteAuctionsModel" 150 (-2) ∈ ax_ws := ax_tw (i := 627) (by decide +kernel) (by decide +kernel)
theorem n_M_169 : Cond.constantLong "VoteAuctionsModel" 169 (-7046029254386353131) ∈ ax_ws := ax_tw (i := 664) (by decide +kernel) (by decide +kernel)
theorem n_M_171 : Cond.constantLong "VoteAuctionsModel" 171 (-4658895280553007687) ∈ ax_ws := ax_tw (i := 665) (by decide +kernel) (by decide +kernel)
theorem n_M_226 : Cond.constantLong "VoteAuctionsModel" 226 (-3) ∈ ax_ws := ax_tw (i := 758) (by decide +kernel) (by decide +kernel)
theorem n_L_65 : Cond.constantLong "VoteAuctionsLaw" 65 (4294967295) ∈ ax_ws := ax_tw (i := 795) (by decide +kernel) (by decide +kernel)
theorem x_native : Cond.native arraycopyName ∈ ax_ws := ax_tw (i := 112) (by decide +kernel) (by decide +kernel)
theorem x_static : Cond.static arraycopyName ∈ ax_ws := ax_tw (i := 111) (by decide +kernel) (by decide +kernel)
theorem x_sys : Cond.initialized "java/lang/System" ∈ ax_ws := ax_tw (i := 3) (by decide +kernel) (by decide +kernel)
theorem x_mth : Cond.initialized "java/lang/Math" ∈ ax_ws := ax_tw (i := 4) (by decide +kernel) (by decide +kernel)
theorem x_oi : Cond.instanceMethod Lib.objectInit ∈ ax_ws := ax_tw (i := 13) (by decide +kernel) (by decide +kernel)
set_option maxRecDepth 100000 in
theorem x_oc : Cond.code Lib.objectInit ⟨#[0xb1]⟩ 1 none ∈ ax_ws := ax_tc1 (i := 14) rfl (by decide +kernel)
set_option maxRecDepth 100000 in
theorem x_maxc : Cond.code Lib.Math.max.name Lib.Math.max.code 2 (some .int) ∈ ax_ws := ax_tc2 (i := 62) rfl (by decide +kernel)
theorem x_maxs : Cond.static Lib.Math.max.name ∈ ax_ws := ax_tw (i := 301) (by decide +kernel) (by decide +kernel)
set_option maxRecDepth 100000 in
theorem x_minc : Cond.code Lib.Math.min.name Lib.Math.min.code 2 (some .int) ∈ ax_ws := ax_tc1 (i := 147) rfl (by decide +kernel)
theorem x_mins : Cond.static Lib.Math.min.name ∈ ax_ws := ax_tw (i := 146) (by decide +kernel) (by decide +kernel)
theorem l_V_1 : Cond.methodLink "VoteAuctions" 1 Lib.objectInit ∈ ax_ws := ax_tw (i := 12) (by decide +kernel) (by decide +kernel)
theorem l_V_86 : Cond.methodLink "VoteAuctions" 86 arraycopyName ∈ ax_ws := ax_tw (i := 110) (by decide +kernel) (by decide +kernel)
theorem l_V_299 : Cond.methodLink "VoteAuctions" 299 Lib.Math.min.name ∈ ax_ws := ax_tw (i := 145) (by decide +kernel) (by decide +kernel)
theorem l_Q_3 : Cond.methodLink "VoteAuctions$Question" 3 Lib.objectInit ∈ ax_ws := ax_tw (i := 174) (by decide +kernel) (by decide +kernel)
theorem l_V_271 : Cond.methodLink "VoteAuctions" 271 Lib.Math.max.name ∈ ax_ws := ax_tw (i := 300) (by decide +kernel) (by decide +kernel)
theorem l_A_3 : Cond.methodLink "VoteAuctions$Auction" 3 Lib.objectInit ∈ ax_ws := ax_tw (i := 338) (by decide +kernel) (by decide +kernel)
theorem l_M_1 : Cond.methodLink "VoteAuctionsModel" 1 Lib.objectInit ∈ ax_ws := ax_tw (i := 446) (by decide +kernel) (by decide +kernel)
