/-! FOR THE LAW: its script, its end, a method that makes cells -/
def ax_sr (xs : Nat → Int32) (L : Nat) (i : Int32) : Option Int32 := if ¬ (i < 0 ∨ L ≤ i.toNatClampNeg) then some (xs i.toNatClampNeg) else none
theorem ax_sr_inv {xs : Nat → Int32} {L : Nat} {i x : Int32} (h : ax_sr xs L i = some x) : vp_in i L ∧ x = xs i.toNatClampNeg := by
  unfold ax_sr at h
  split at h
  · next hc => cases h; exact ⟨hc, rfl⟩
  · cases h
section
variable {Z : ax_Z} {own : String} {cc : ByteArray} {ret : Option FieldType} {ad : Nat → Nat} {cells slots pc : Nat} {lv : List (Nat × ax_U)} {st : List ax_U} {M : ax_M}
/-- the script lies where the machine had it, below all that is ours -/
def ax_scr (Z : ax_Z) (b L : Nat) (xs : Nat → Int32) : Prop := va_X b L xs Z.2.2.2.2.1 Z.2.2.2.2.1.heap ∧ b < Z.2.2.2.2.1.heap.size ∧ Z.2.2.2.2.2.2.2.2.2.2.1.2.2.2 = Z.2.2.2.2.1.heap.size
theorem ax_sld (B : ax_B Z own cc ret) {b L sc : Nat} {xs : Nat → Int32} (hX : ax_scr Z b L xs) (had : ad sc = b) {i : Int32} {β : Type} {f : Int32 → Option β} {r : β} (hd : decode cc pc = .ok (.iaload, 1)) (hf : (ax_sr xs L i).bind f = some r) (kk : ∀ x, f x = some r → ax_W Z ad cells slots (pc + 1) lv (ax_I x :: st) M) : ax_W Z ad cells slots pc lv (ax_I i :: ax_O (some sc) :: st) M := by
  intro H locs ls h1 h2 h3
  obtain ⟨x, e1, e2⟩ := ax_bd hf
  obtain ⟨hi, hx⟩ := ax_sr_inv e1
  subst had
  have hw := kk x e2 H locs ls h1 h2 h3
  rw [hx] at hw
  exact va_sld B.1 B.2.1 hX.1 hX.2.1 (fun z => absurd (show Z.2.2.2.2.1.heap.size ≤ ad sc by rw [← hX.2.2]; exact z) (Nat.not_le.mpr hX.2.1)) h3 hi hd hw
theorem ax_slen (B : ax_B Z own cc ret) {b L sc : Nat} {xs : Nat → Int32} (hX : ax_scr Z b L xs) (had : ad sc = b) (hd : decode cc pc = .ok (.arraylength, 1)) (kk : ax_W Z ad cells slots (pc + 1) lv (ax_I (Int32.ofNat L) :: st) M) : ax_W Z ad cells slots pc lv (ax_O (some sc) :: st) M := by
  intro H locs ls h1 h2 h3
  subst had
  exact va_slen B.1 B.2.1 hX.1 hX.2.1 (fun z => absurd (show Z.2.2.2.2.1.heap.size ≤ ad sc by rw [← hX.2.2]; exact z) (Nat.not_le.mpr hX.2.1)) h3 hd (kk H locs ls h1 h2 h3)
theorem ax_widen {k n : Nat} (h1 : cells ≤ k) (h2 : slots ≤ n) (kk : ax_W Z ad k n pc lv st M) : ax_W Z ad cells slots pc lv st M := fun H locs ls g1 g2 g3 => W.widen h1 h2 (kk H locs ls g1 g2 g3)
theorem ax_tswI (B : ax_B Z own cc ret) {x : Int32} {dflt lo hi : Int} {offs : Array Int} {len tgt : Nat} {off : Int} (hd : decode cc pc = .ok (.tableswitch dflt lo hi offs, len)) (a1 : ¬ x.toInt < lo) (a2 : ¬ hi < x.toInt) (ho : offs[(x.toInt - lo).toNat]? = some off) (ht : (pc : Int) + off = (tgt : Int)) (k : ax_W Z ad cells slots tgt lv st M) : ax_W Z ad cells slots pc lv (ax_I x :: st) M := fun H locs ls h1 h2 h3 => lv_tableIn B.1 B.2.1 hd a1 a2 ho ht (k H locs ls h1 h2 h3)
theorem ax_tswO (B : ax_B Z own cc ret) {x : Int32} {dflt lo hi : Int} {offs : Array Int} {len tgt : Nat} (hd : decode cc pc = .ok (.tableswitch dflt lo hi offs, len)) (a1 : x.toInt < lo ∨ hi < x.toInt) (ht : (pc : Int) + dflt = (tgt : Int)) (k : ax_W Z ad cells slots tgt lv st M) : ax_W Z ad cells slots pc lv (ax_I x :: st) M := fun H locs ls h1 h2 h3 => lv_tableOut B.1 B.2.1 hd a1 ht (k H locs ls h1 h2 h3)
/-- a method of an object that makes cells -/
theorem ax_cVA (B : ax_B Z own cc ret) {d0 mc0 ms0 : Nat} (hR : ax_R Z d0 mc0 ms0) {idx : Nat} {y : MethodName} {bytes : ByteArray} {maxL n d mc ms ci : Nat} {o : Option Nat} {rt : Option FieldType} {gs : List Nat} {refs : List (Option Nat)} {as : List ax_U} {stk : List ax_U} {α β : Type} {φ : Option α} {g : α → Option β} {r : β} {V : α → ax_U} {N : α → ax_M} (hd : decode cc pc = .ok (.invokevirtual idx, 3)) (hl : ax_ml own idx y) (hw : ax_mv y bytes maxL rt n ci) (h1v : ax_cv refs (lv.map (·.2))) (h2v : ax_cv refs st) (hf : ((ax_gf refs gs).bind fun _ => (ax_ob M ci o).bind fun _ => φ.bind g) = some r) (hC : ∀ q, φ = some q → ax_C Z.2.1 Z.2.2.2.2.2.2.2.2.2.2.1 y bytes maxL rt gs d mc ms (ax_O o :: as) M (some (V q)) (N q)) (hst : stk = as.reverse ++ ax_O o :: st) (hn : as.length = n) (hf' : d + 1 ≤ d0) (hm : maxL ≤ 18) (hc : cells + mc ≤ mc0) (hs : slots + ms ≤ ms0) (h8 : (st.map ax_ct).sum ≤ 8)
    (kk : ∀ q ad', (∀ a, a ∉ gs → ad' a = ad a) → g q = some r → ax_W Z ad' (cells + mc) (slots + ms) (pc + 3) lv (V q :: st) (N q)) : ax_W Z ad cells slots pc lv stk M := by
  obtain ⟨u, e0, e3⟩ := ax_bd hf
  obtain ⟨o', e4, e5⟩ := ax_bd e3
  obtain ⟨rfl, hs'⟩ := ax_ob_inv e4
  obtain ⟨q, e1, e2⟩ := ax_bd e5
  exact ax_callV B hR hd hl hw hs' (hC q e1) hst hn hf' hm hc hs h8 (ax_kkA h1v h2v (ax_gf_inv e0) (fun ad' h => kk q ad' h e2))
end
