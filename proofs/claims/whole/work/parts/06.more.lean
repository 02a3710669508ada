/-! RETURNS, NEW CELLS, FIELDS WRITTEN -/
/-- a value is none of these ids -/
def ax_nr (gs : List Nat) (v : ax_U) : Prop := ∀ a, v = ax_O (some a) → a ∉ gs
theorem ax_nr_int {gs : List Nat} {x : Int32} : ax_nr gs (ax_I x) := fun a h => by cases h
theorem ax_nr_long {gs : List Nat} {x : Int64} : ax_nr gs (ax_L x) := fun a h => by cases h
theorem ax_nr_rf {gs : List Nat} {o : Option Nat} (h : ∀ g ∈ gs, o ≠ some g) : ax_nr gs (ax_O o) := by
  intro a e
  cases e
  exact fun z => h _ z rfl
theorem ax_v_nr {gs : List Nat} {ad ad' : Nat → Nat} (h : ∀ a, a ∉ gs → ad' a = ad a) {v : ax_U} (hv : ax_nr gs v) : ax_v ad' v = ax_v ad v := by
  rcases v with x | x | o
  · rfl
  · rfl
  · cases o with
    | none => rfl
    | some a => simp only [ax_v, Option.map_some, h a (hv a rfl)]
theorem ax_lv_nr {gs : List Nat} {ad ad' : Nat → Nat} (h : ∀ a, a ∉ gs → ad' a = ad a) {lv : List (Nat × ax_U)} (hv : ∀ q ∈ lv, ax_nr gs q.2) : ax_lv ad' lv = ax_lv ad lv := by
  unfold ax_lv
  exact List.map_congr_left (fun q hq => by rw [ax_v_nr h (hv q hq)])
theorem ax_st_nr {gs : List Nat} {ad ad' : Nat → Nat} (h : ∀ a, a ∉ gs → ad' a = ad a) {st : List ax_U} (hv : ∀ v ∈ st, ax_nr gs v) : st.map (ax_v ad') = st.map (ax_v ad) := List.map_congr_left (fun v hq => ax_v_nr h (hv v hq))
/-- a new cell at the id g: it isn't there yet, and none of these references is it -/
def ax_nw (M : ax_M) (g : Nat) (x : ax_X) (refs : List (Option Nat)) : Option ax_M := if ax_s M g = none ∧ ∀ o ∈ refs, o ≠ some g then some (ax_wn M g x) else none
section
variable {Z : ax_Z} {own : String} {cc : ByteArray} {ret : Option FieldType} {ad : Nat → Nat} {cells slots pc : Nat} {lv : List (Nat × ax_U)} {st : List ax_U} {M : ax_M}
theorem ax_ireturn {ty : FieldType} (B : ax_B Z own cc (some ty)) {ad0 : Nat → Nat} {gs : List Nat} {mc ms : Nat} {q : Int32 × ax_M} (hE : ax_E Z ad0 gs mc ms (some (ax_I q.1)) q.2) {v : Int32} (hd : decode cc pc = .ok (.ireturn, 1)) (hf : some (v, M) = some q) (hn : narrow ty (.int v) = .int v) (hag : ∀ a, a ∉ gs → ad a = ad0 a) (hc : cells ≤ mc) (hs : slots ≤ ms) : ax_W Z ad cells slots pc lv [ax_I v] M := by
  intro H locs ls h1 h2 h3
  cases hf
  rw [hE]
  refine W.widen hc hs ?_
  exact W.zret B.1 B.2.1 B.2.2.2.1 hn (fun t ht hW => ⟨⟨ad, hag, rfl, by rw [ht]; exact h2⟩, h3.F ht⟩) h3.2.2 hd B.2.2.2.2.2.2.1
theorem ax_lreturn (B : ax_B Z own cc (some .long)) {ad0 : Nat → Nat} {gs : List Nat} {mc ms : Nat} {q : Int64 × ax_M} (hE : ax_E Z ad0 gs mc ms (some (ax_L q.1)) q.2) {v : Int64} (hd : decode cc pc = .ok (.lreturn, 1)) (hf : some (v, M) = some q) (hag : ∀ a, a ∉ gs → ad a = ad0 a) (hc : cells ≤ mc) (hs : slots ≤ ms) : ax_W Z ad cells slots pc lv [ax_L v] M := by
  intro H locs ls h1 h2 h3
  cases hf
  rw [hE]
  refine W.widen hc hs ?_
  exact W.lret B.1 B.2.1 B.2.2.2.1 (fun t ht hW => ⟨⟨ad, hag, rfl, by rw [ht]; exact h2⟩, h3.F ht⟩) h3.2.2 hd B.2.2.2.2.2.2.1
theorem ax_areturn {ty : FieldType} (B : ax_B Z own cc (some ty)) {ad0 : Nat → Nat} {gs : List Nat} {mc ms : Nat} {q : Option Nat × ax_M} (hE : ax_E Z ad0 gs mc ms (some (ax_O q.1)) q.2) {v : Option Nat} (hd : decode cc pc = .ok (.areturn, 1)) (hf : some (v, M) = some q) (hty : (∃ n, ty = .object n) ∨ ∃ t, ty = .array t) (hag : ∀ a, a ∉ gs → ad a = ad0 a) (hc : cells ≤ mc) (hs : slots ≤ ms) : ax_W Z ad cells slots pc lv [ax_O v] M := by
  intro H locs ls h1 h2 h3
  cases hf
  rw [hE]
  refine W.widen hc hs ?_
  exact W.aret B.1 B.2.1 B.2.2.2.1 hty (by rw [ax_v_rf]; exact va_rf_or _) (fun t ht hW => ⟨⟨ad, hag, rfl, by rw [ht]; exact h2⟩, h3.F ht⟩) h3.2.2 hd B.2.2.2.2.2.2.1
theorem ax_vreturn (B : ax_B Z own cc none) {ad0 : Nat → Nat} {gs : List Nat} {mc ms : Nat} {q : ax_M} (hE : ax_E Z ad0 gs mc ms none q) (hd : decode cc pc = .ok (.return_, 1)) (hf : some M = some q) (hag : ∀ a, a ∉ gs → ad a = ad0 a) (hc : cells ≤ mc) (hs : slots ≤ ms) : ax_W Z ad cells slots pc lv [] M := by
  intro H locs ls h1 h2 h3
  cases hf
  rw [hE]
  refine W.widen hc hs ?_
  exact W.vret B.1 B.2.1 B.2.2.2.1 (fun t ht hW => ⟨⟨ad, hag, rfl, by rw [ht]; exact h2⟩, h3.F ht⟩) h3.2.2 hd B.2.2.2.2.2.2.1
end
