/-! THE REST: references into arrays, copies, Object's constructor, Math, switches, calls that make cells -/
section
variable {Z : ax_Z} {own : String} {cc : ByteArray} {ret : Option FieldType} {ad : Nat → Nat} {cells slots pc : Nat} {lv : List (Nat × ax_U)} {st : List ax_U} {M : ax_M}
theorem ax_ldcw (B : ax_B Z own cc ret) {idx : Nat} {v : Int32} (hw : Cond.constant own idx v ∈ ax_ws) (hd : decode cc pc = .ok (.ldc_w idx, 3)) (k : ax_W Z ad cells slots (pc + 3) lv (ax_I v :: st) M) : ax_W Z ad cells slots pc lv st M := fun H locs ls h1 h2 h3 => lv_ldcw B.1 B.2.1 B.2.2.2.2.2.1 (B.2.2.2.2.1 _ hw) hd (k H locs ls h1 h2 h3)
theorem ax_aast (B : ax_B Z own cc ret) {t ci : Nat} {q0 : vw_C} {o v : Option Nat} {i : Int32} {β : Type} {f : ax_M → Option β} {r : β} (hd : decode cc pc = .ok (.aastore, 1)) (ht : t < ax_nt) (hq : ax_cl[ci]? = some q0) (he : ax_el t = .object q0.1) (hf : (ax_tr M t ci o i v).bind f = some r) (kk : ∀ M1, f M1 = some r → ax_W Z ad cells slots (pc + 1) lv st M1) : ax_W Z ad cells slots pc lv (ax_O v :: ax_I i :: ax_O o :: st) M := by
  intro H locs ls h1 h2 h3
  obtain ⟨M1, e1, e2⟩ := ax_bd hf
  obtain ⟨v', hv', e1⟩ := ax_bd e1
  obtain ⟨⟨a, j⟩, ha, hx⟩ := Option.map_eq_some_iff.mp e1
  obtain ⟨rfl, hsv⟩ := ax_ob_inv hv'
  obtain ⟨n, rfl, hs, hi, hj⟩ := ax_ix_inv ha
  dsimp only at hx hs hj
  subst hj
  obtain ⟨dom, q, g1, g2, g3, g4, g5, g6, g7⟩ := h2.at hs
  obtain ⟨qv, hqv, g8⟩ := ax_ls_at (G := Z.2.2.2.2.2.2.2.2.2.2.1) (ad := ad) ((g2 v').mpr (by rw [hsv]; exact fun z => by cases z)) hsv
  simp only [ax_ce, he, ax_py] at g7 g8
  refine va_astq B.1 B.2.1 B.2.2.2.2.2.2.2.1.1 g3 g4 h3 q t qv ci g7 (by rw [← he]; exact ax_ts_at ht) g8 hq hi hd (fun H1 locs1 k1 k2 k3 => ?_)
  have h2' : ax_P Z.2.2.2.2.2.2.2.2.2.2.1 ad M1 H1 := by
    subst hx
    refine ax_P.write (M := M) g1 g2 (fun b j c hb hc => ?_) g6 (fun _ => rfl) hs ?_ ?_ ?_ ?_ k1 k2
    · rw [ax_r_wr] at hc
      by_cases hbj : b = a ∧ j = i.toNatClampNeg
      · rw [if_pos hbj] at hc
        cases hc
        exact (g2 v').mpr (by rw [hsv]; exact fun z => by cases z)
      · rw [if_neg hbj] at hc
        exact g5 b j c hb hc
    · intro b j hb; rfl
    · intro b j hb; rfl
    · intro b j hb; simp [ax_r_wr, hb]
    · simp only [ax_ce, he, ax_py]
      have e : (va_up (fun j => Option.map ad (ax_r M a j)) i.toNatClampNeg (some (ad v'))) = fun j => Option.map ad (ax_r (ax_wr M a i.toNatClampNeg (some v')) a j) := by
        funext j
        by_cases hj : j = i.toNatClampNeg <;> simp [va_up, ax_r_wr, hj]
      rw [e]
  exact kk M1 e2 H1 locs1 ls h1 h2' k3
theorem ax_cp_inv {t : Nat} {a b : Option Nat} {sp dp n : Int32} {M1 : ax_M} (h : ax_cp M t a sp b dp n = some M1) : ∃ a' b' n0 n1, a = some a' ∧ b = some b' ∧ ax_s M a' = some (.inr (t, n0)) ∧ ax_s M b' = some (.inr (t, n1)) ∧ ¬ sp < 0 ∧ ¬ dp < 0 ∧ ¬ n < 0 ∧ sp.toNatClampNeg + n.toNatClampNeg ≤ n0 ∧ dp.toNatClampNeg + n.toNatClampNeg ≤ n1 ∧ M1 = ax_wc M a' b' sp.toNatClampNeg dp.toNatClampNeg n.toNatClampNeg := by
  cases a with
  | none => simp [ax_cp] at h
  | some a' =>
    cases b with
    | none => simp [ax_cp] at h
    | some b' =>
      simp only [ax_cp, Option.bind_some] at h
      split at h
      · next t0 n0 t1 n1 hs0 hs1 =>
        split at h
        · next hc =>
          obtain ⟨rfl, rfl, c1, c2, c3, c4, c5⟩ := hc
          cases h
          exact ⟨a', b', n0, n1, rfl, rfl, hs0, hs1, c1, c2, c3, c4, c5, rfl⟩
        · cases h
      · cases h
theorem ax_copy (B : ax_B Z own cc ret) {d0 mc0 ms0 : Nat} (hR : ax_R Z d0 mc0 ms0) {idx : Nat} {a b : Option Nat} {sp dp n : Int32} {β : Type} {f : ax_M → Option β} {r : β} (hd : decode cc pc = .ok (.invokestatic idx, 3)) (hl : Cond.methodLink own idx arraycopyName ∈ ax_ws) (h1d : 1 ≤ d0) (h8 : (st.map ax_ct).sum ≤ 8) (hf : (ax_cp M 0 a sp b dp n).bind f = some r) (kk : ∀ M1, f M1 = some r → ax_W Z ad cells slots (pc + 3) lv st M1) : ax_W Z ad cells slots pc lv (ax_I n :: ax_I dp :: ax_O b :: ax_I sp :: ax_O a :: st) M := by
  intro H locs ls h1 h2 h3
  obtain ⟨hx, hb, hml, hr, hts, hown, hlk, hK, hsz⟩ := B
  obtain ⟨M1, e1, e2⟩ := ax_bd hf
  obtain ⟨a', b', n0, n1, rfl, rfl, hs0, hs1, c1, c2, c3, c4, c5, e1⟩ := ax_cp_inv e1
  obtain ⟨dom, q, g1, g2, g3, g4, g5, g6, g7⟩ := h2.at hs1
  obtain ⟨qa, hqa, g8⟩ := ax_ls_at (G := Z.2.2.2.2.2.2.2.2.2.2.1) (ad := ad) ((g2 a').mpr (by rw [hs0]; exact fun z => by cases z)) hs0
  simp only [ax_ce, ax_el, ax_py] at g7 g8
  refine va_copyi (ty := .int) hx hb (by rw [hml, ← h1.1]) hown (hts _ hl) (hts _ x_native) (hts _ x_static) (hts _ x_sys) hK.1 g3 g4 h3 qa q 0 0 g8 g7 (ax_ts_at (by decide)) (ax_ts_at (by decide)) rfl c1 c2 c3 c4 c5 (fun i _ => rfl) (Nat.le_trans h1d hR.1) (by
    have := hR.2.1
    have e : ((List.map (ax_v ad) st).map fun v => v.category).sum ≤ 8 := by rw [ax_v_st]; exact h8
    show ((List.map (ax_v ad) st).map fun v => v.category).sum + (7 + 11) ≤ _
    omega) hd (fun H1 locs1 k1 k2 k3 => ?_)
  have h2' : ax_P Z.2.2.2.2.2.2.2.2.2.2.1 ad M1 H1 := by
    subst e1
    refine ax_P.write (M := M) g1 g2 g5 g6 (fun _ => rfl) hs1 ?_ ?_ ?_ ?_ k1 k2
    · intro b j hb; simp [ax_i_wc, hb]
    · intro b j hb; rfl
    · intro b j hb; rfl
    · simp only [ax_ce, ax_el, ax_py]
      have e : va_cpy (ax_i M a') (ax_i M b') sp.toNatClampNeg dp.toNatClampNeg n.toNatClampNeg = ax_i (ax_wc M a' b' sp.toNatClampNeg dp.toNatClampNeg n.toNatClampNeg) b' := by
        funext j
        simp [ax_i_wc]
      rw [e]
  exact kk M1 e2 H1 locs1 ls h1 h2' k3
theorem ax_objInit (B : ax_B Z own cc ret) {d0 mc0 ms0 : Nat} (hR : ax_R Z d0 mc0 ms0) {idx : Nat} {o : Nat} (hd : decode cc pc = .ok (.invokespecial idx, 3)) (hl : Cond.methodLink own idx Lib.objectInit ∈ ax_ws) (h1d : 1 ≤ d0) (h8 : (st.map ax_ct).sum ≤ 8) (k : ax_W Z ad cells slots (pc + 3) lv st M) : ax_W Z ad cells slots pc lv (ax_O (some o) :: st) M := by
  intro H locs ls h1 h2 h3
  obtain ⟨hx, hb, hml, hr, hts, hown, hlk, hK, hsz⟩ := B
  exact W.objInit hx hb hown (hts _ hl) (hts _ x_oi) (hts _ x_oc) rfl (by rw [hml]; exact h1.1) rfl hd (Nat.le_trans h1d hR.1) (by
    have := hR.2.1
    have e : ((List.map (ax_v ad) st).map fun v => v.category).sum ≤ 8 := by rw [ax_v_st]; exact h8
    show 2 * 0 + ((List.map (ax_v ad) st).map fun v => v.category).sum + 12 ≤ _
    omega) (k H locs ls h1 h2 h3)
theorem ax_mmax (B : ax_B Z own cc ret) {d0 mc0 ms0 : Nat} (hR : ax_R Z d0 mc0 ms0) {idx : Nat} {x y : Int32} (hd : decode cc pc = .ok (.invokestatic idx, 3)) (hl : Cond.methodLink own idx Lib.Math.max.name ∈ ax_ws) (h1d : 1 ≤ d0) (hc : cells ≤ mc0) (hs : slots ≤ ms0) (h8 : (st.map ax_ct).sum ≤ 8) (k : ax_W Z ad cells slots (pc + 3) lv (ax_I (if x < y then y else x) :: st) M) : ax_W Z ad cells slots pc lv (ax_I y :: ax_I x :: st) M := by
  intro H locs ls h1 h2 h3
  obtain ⟨hx, hb, hml, hr, hts, hown, hlk, hK, hsz⟩ := B
  exact va_mmax hx hb (by rw [hml, ← h1.1]) hown (hts _ hl) (hts _ x_maxs) (hts _ x_mth) (hts _ x_maxc) (Nat.le_trans h1d hR.1) (by
    have := hR.2.1
    have e : ((List.map (ax_v ad) st).map fun v => v.category).sum ≤ 8 := by rw [ax_v_st]; exact h8
    omega) (Nat.le_trans hc hR.2.2.1) (Nat.le_trans hs hR.2.2.2) hd (k H locs ls h1 h2 h3)
theorem ax_mmin (B : ax_B Z own cc ret) {d0 mc0 ms0 : Nat} (hR : ax_R Z d0 mc0 ms0) {idx : Nat} {x y : Int32} (hd : decode cc pc = .ok (.invokestatic idx, 3)) (hl : Cond.methodLink own idx Lib.Math.min.name ∈ ax_ws) (h1d : 1 ≤ d0) (hc : cells ≤ mc0) (hs : slots ≤ ms0) (h8 : (st.map ax_ct).sum ≤ 8) (k : ax_W Z ad cells slots (pc + 3) lv (ax_I (if y < x then y else x) :: st) M) : ax_W Z ad cells slots pc lv (ax_I y :: ax_I x :: st) M := by
  intro H locs ls h1 h2 h3
  obtain ⟨hx, hb, hml, hr, hts, hown, hlk, hK, hsz⟩ := B
  exact va_mmin hx hb (by rw [hml, ← h1.1]) hown (hts _ hl) (hts _ x_mins) (hts _ x_mth) (hts _ x_minc) (Nat.le_trans h1d hR.1) (by
    have := hR.2.1
    have e : ((List.map (ax_v ad) st).map fun v => v.category).sum ≤ 8 := by rw [ax_v_st]; exact h8
    omega) (Nat.le_trans hc hR.2.2.1) (Nat.le_trans hs hR.2.2.2) hd (k H locs ls h1 h2 h3)
theorem ax_tsw3 (B : ax_B Z own cc ret) {x : Int32} {dflt o0 o1 o2 : Int} {len t0 t1 t2 t3 : Nat} {β : Type} {P0 P1 P2 P3 : Option β} {r : β} (hd : decode cc pc = .ok (.tableswitch dflt 0 2 #[o0, o1, o2], len)) (e0 : (pc : Int) + o0 = (t0 : Int)) (e1 : (pc : Int) + o1 = (t1 : Int)) (e2 : (pc : Int) + o2 = (t2 : Int)) (e3 : (pc : Int) + dflt = (t3 : Int))
    (hf : (if x = 0 then P0 else if x = 1 then P1 else if x = 2 then P2 else P3) = some r) (k0 : P0 = some r → ax_W Z ad cells slots t0 lv st M) (k1 : P1 = some r → ax_W Z ad cells slots t1 lv st M) (k2 : P2 = some r → ax_W Z ad cells slots t2 lv st M) (k3 : P3 = some r → ax_W Z ad cells slots t3 lv st M) : ax_W Z ad cells slots pc lv (ax_I x :: st) M := by
  intro H locs ls h1 h2 h3
  by_cases h : x = 0
  · subst h
    rw [if_pos rfl] at hf
    exact lv_tableIn B.1 B.2.1 hd (by decide) (by decide) (off := o0) rfl e0 (k0 hf H locs ls h1 h2 h3)
  · rw [if_neg h] at hf
    by_cases h' : x = 1
    · subst h'
      rw [if_pos rfl] at hf
      exact lv_tableIn B.1 B.2.1 hd (by decide) (by decide) (off := o1) rfl e1 (k1 hf H locs ls h1 h2 h3)
    · rw [if_neg h'] at hf
      by_cases h'' : x = 2
      · subst h''
        rw [if_pos rfl] at hf
        exact lv_tableIn B.1 B.2.1 hd (by decide) (by decide) (off := o2) rfl e2 (k2 hf H locs ls h1 h2 h3)
      · rw [if_neg h''] at hf
        refine lv_tableOut B.1 B.2.1 hd ?_ e3 (k3 hf H locs ls h1 h2 h3)
        have a0 := lv_neT h (a := 0) rfl
        have a1 := lv_neT h' (a := 1) rfl
        have a2 := lv_neT h'' (a := 2) rfl
        omega
/-- behind a call that made cells: the walk goes on with the ids' new places -/
theorem ax_kkA {gs : List Nat} {r : Option ax_U} {M' : ax_M} {refs : List (Option Nat)} (h1v : ax_cv refs (lv.map (·.2))) (h2v : ax_cv refs st) (hg : ∀ o ∈ refs, ∀ g ∈ gs, o ≠ some g) (k : ∀ ad', (∀ a, a ∉ gs → ad' a = ad a) → ax_W Z ad' cells slots (pc + 3) lv (r.toList ++ st) M') : ax_KK Z ad gs cells slots pc lv st M r M' := by
  intro ad' H locs ls h1 g1 g3 g4
  have h := k ad' g1 H locs ls (by rw [ax_lv_nr g1 (ax_cv_lv h1v hg)]; exact h1) g3 g4
  rw [List.map_append, ax_st_nr g1 (ax_cv_nr h2v hg)] at h
  cases r <;> exact h
theorem ax_cSV (B : ax_B Z own cc ret) {d0 mc0 ms0 : Nat} (hR : ax_R Z d0 mc0 ms0) {idx : Nat} {y : MethodName} {bytes : ByteArray} {maxL n d : Nat} {rt : Option FieldType} {as : List ax_U} {stk : List ax_U} {α β : Type} {φ : Option α} {g : α → Option β} {r : β} {V : α → ax_U} {N : α → ax_M} (hd : decode cc pc = .ok (.invokestatic idx, 3)) (hl : ax_ml own idx y) (hw : ax_ms y bytes maxL rt n) (hf : φ.bind g = some r) (hC : ∀ q, φ = some q → ax_C Z.2.1 Z.2.2.2.2.2.2.2.2.2.2.1 y bytes maxL rt [] d 0 0 as M (some (V q)) (N q)) (hst : stk = as.reverse ++ st) (hn : as.length = n) (hf' : d + 1 ≤ d0) (hm : maxL ≤ 18) (hc : cells ≤ mc0) (hs : slots ≤ ms0) (h8 : (st.map ax_ct).sum ≤ 8)
    (kk : ∀ q, g q = some r → ax_W Z ad cells slots (pc + 3) lv (V q :: st) (N q)) : ax_W Z ad cells slots pc lv stk M := by
  obtain ⟨q, e1, e2⟩ := ax_bd hf
  exact ax_callS B hR hd hl hw (hC q e1) hst hn hf' hm hc hs h8 (ax_kkV (kk q e2))
theorem ax_cVV (B : ax_B Z own cc ret) {d0 mc0 ms0 : Nat} (hR : ax_R Z d0 mc0 ms0) {idx : Nat} {y : MethodName} {bytes : ByteArray} {maxL n d : Nat} {rt : Option FieldType} {as : List ax_U} {stk : List ax_U} {α β : Type} {φ : Option α} {g : α → Option β} {r : β} {ci : Nat} {o : Option Nat} {V : α → ax_U} {N : α → ax_M} (hd : decode cc pc = .ok (.invokevirtual idx, 3)) (hl : ax_ml own idx y) (hw : ax_mv y bytes maxL rt n ci) (hf : ((ax_ob M ci o).bind fun _ => φ.bind g) = some r) (hC : ∀ q, φ = some q → ax_C Z.2.1 Z.2.2.2.2.2.2.2.2.2.2.1 y bytes maxL rt [] d 0 0 (ax_O o :: as) M (some (V q)) (N q)) (hst : stk = as.reverse ++ ax_O o :: st) (hn : as.length = n) (hf' : d + 1 ≤ d0) (hm : maxL ≤ 18) (hc : cells ≤ mc0) (hs : slots ≤ ms0) (h8 : (st.map ax_ct).sum ≤ 8)
    (kk : ∀ q, g q = some r → ax_W Z ad cells slots (pc + 3) lv (V q :: st) (N q)) : ax_W Z ad cells slots pc lv stk M := by
  obtain ⟨o', e0, e3⟩ := ax_bd hf
  obtain ⟨rfl, hs'⟩ := ax_ob_inv e0
  obtain ⟨q, e1, e2⟩ := ax_bd e3
  exact ax_callV B hR hd hl hw hs' (hC q e1) hst hn hf' hm hc hs h8 (ax_kkV (kk q e2))
theorem ax_cSN (B : ax_B Z own cc ret) {d0 mc0 ms0 : Nat} (hR : ax_R Z d0 mc0 ms0) {idx : Nat} {y : MethodName} {bytes : ByteArray} {maxL n d : Nat} {rt : Option FieldType} {as : List ax_U} {stk : List ax_U} {α β : Type} {φ : Option α} {g : α → Option β} {r : β} {N : α → ax_M} (hd : decode cc pc = .ok (.invokestatic idx, 3)) (hl : ax_ml own idx y) (hw : ax_ms y bytes maxL rt n) (hf : φ.bind g = some r) (hC : ∀ q, φ = some q → ax_C Z.2.1 Z.2.2.2.2.2.2.2.2.2.2.1 y bytes maxL rt [] d 0 0 as M none (N q)) (hst : stk = as.reverse ++ st) (hn : as.length = n) (hf' : d + 1 ≤ d0) (hm : maxL ≤ 18) (hc : cells ≤ mc0) (hs : slots ≤ ms0) (h8 : (st.map ax_ct).sum ≤ 8)
    (kk : ∀ q, g q = some r → ax_W Z ad cells slots (pc + 3) lv st (N q)) : ax_W Z ad cells slots pc lv stk M := by
  obtain ⟨q, e1, e2⟩ := ax_bd hf
  exact ax_callS B hR hd hl hw (hC q e1) hst hn hf' hm hc hs h8 (ax_kkN (kk q e2))
theorem ax_cVN (B : ax_B Z own cc ret) {d0 mc0 ms0 : Nat} (hR : ax_R Z d0 mc0 ms0) {idx : Nat} {y : MethodName} {bytes : ByteArray} {maxL n d : Nat} {rt : Option FieldType} {as : List ax_U} {stk : List ax_U} {α β : Type} {φ : Option α} {g : α → Option β} {r : β} {ci : Nat} {o : Option Nat} {N : α → ax_M} (hd : decode cc pc = .ok (.invokevirtual idx, 3)) (hl : ax_ml own idx y) (hw : ax_mv y bytes maxL rt n ci) (hf : ((ax_ob M ci o).bind fun _ => φ.bind g) = some r) (hC : ∀ q, φ = some q → ax_C Z.2.1 Z.2.2.2.2.2.2.2.2.2.2.1 y bytes maxL rt [] d 0 0 (ax_O o :: as) M none (N q)) (hst : stk = as.reverse ++ ax_O o :: st) (hn : as.length = n) (hf' : d + 1 ≤ d0) (hm : maxL ≤ 18) (hc : cells ≤ mc0) (hs : slots ≤ ms0) (h8 : (st.map ax_ct).sum ≤ 8)
    (kk : ∀ q, g q = some r → ax_W Z ad cells slots (pc + 3) lv st (N q)) : ax_W Z ad cells slots pc lv stk M := by
  obtain ⟨o', e0, e3⟩ := ax_bd hf
  obtain ⟨rfl, hs'⟩ := ax_ob_inv e0
  obtain ⟨q, e1, e2⟩ := ax_bd e3
  exact ax_callV B hR hd hl hw hs' (hC q e1) hst hn hf' hm hc hs h8 (ax_kkN (kk q e2))
def ax_gf (refs : List (Option Nat)) (gs : List Nat) : Option Unit := if ∀ o ∈ refs, ∀ g ∈ gs, o ≠ some g then some () else none
theorem ax_gf_inv {refs : List (Option Nat)} {gs : List Nat} {u : Unit} (h : ax_gf refs gs = some u) : ∀ o ∈ refs, ∀ g ∈ gs, o ≠ some g := by
  unfold ax_gf at h
  split at h
  · next hc => exact hc
  · cases h
/-- a constructor that makes cells -/
theorem ax_cI (B : ax_B Z own cc ret) {d0 mc0 ms0 : Nat} (hR : ax_R Z d0 mc0 ms0) {idx o : Nat} {y : MethodName} {bytes : ByteArray} {maxL n d mc ms : Nat} {gs : List Nat} {refs : List (Option Nat)} {as : List ax_U} {stk : List ax_U} {β : Type} {φ : Option ax_M} {g : ax_M → Option β} {r : β} (hd : decode cc pc = .ok (.invokespecial idx, 3)) (hl : ax_ml own idx y) (hw : ax_mi y bytes maxL n) (h1v : ax_cv refs (lv.map (·.2))) (h2v : ax_cv refs st) (hf : ((ax_gf refs gs).bind fun _ => φ.bind g) = some r) (hC : ∀ q, φ = some q → ax_C Z.2.1 Z.2.2.2.2.2.2.2.2.2.2.1 y bytes maxL none gs d mc ms (ax_O (some o) :: as) M none q) (hst : stk = as.reverse ++ ax_O (some o) :: st) (hn : as.length = n) (hf' : d + 1 ≤ d0) (hm : maxL ≤ 18) (hc : cells + mc ≤ mc0) (hs : slots + ms ≤ ms0) (h8 : (st.map ax_ct).sum ≤ 8)
    (kk : ∀ q ad', (∀ a, a ∉ gs → ad' a = ad a) → g q = some r → ax_W Z ad' (cells + mc) (slots + ms) (pc + 3) lv st q) : ax_W Z ad cells slots pc lv stk M := by
  obtain ⟨u, e0, e3⟩ := ax_bd hf
  obtain ⟨q, e1, e2⟩ := ax_bd e3
  exact ax_callI B hR hd hl hw rfl (hC q e1) hst hn hf' hm hc hs h8 (ax_kkA h1v h2v (ax_gf_inv e0) (fun ad' h => kk q ad' h e2))
theorem ax_iincN (B : ax_B Z own cc ret) {i j : Nat} {n : Int} {x v0 : Int32} {lv' : Int32 → List (Nat × ax_U)} {β : Type} {f : Int32 → Option β} {r : β} (hd : decode cc pc = .ok (.iinc i n, 3)) (hk : lv[j]? = some (i, ax_I x)) (hf : (some v0).bind f = some r) (hv : x + Int32.ofInt n = v0) (hn : i < Z.2.2.2.2.2.2.2.2.2.2.2.1) (hl : ∀ y, (i, ax_I y) :: lv.filter (fun q => !(q.1 == i) && !(q.1 + 1 == i && ax_ct q.2 == 2)) = lv' y) (kk : ∀ y, f y = some r → ax_W Z ad cells slots (pc + 3) (lv' y) st M) : ax_W Z ad cells slots pc lv st M := ax_iinc B hd hk hv hn (hl v0) (kk v0 hf)
end
def ax_bo (v : Int32) : Option Int32 := if v = 0 ∨ v = 1 then some v else none
theorem ax_bo_inv {v x : Int32} (h : ax_bo v = some x) : v = 0 ∨ v = 1 := by
  unfold ax_bo at h
  split at h
  · next hc => exact hc
  · cases h
theorem ax_bo_n {v x : Int32} (h : ax_bo v = some x) : narrow .boolean (.int v) = .int v := by
  rcases ax_bo_inv h with rfl | rfl <;> rfl
theorem ax_bo_f {v x : Int32} (h : ax_bo v = some x) : fits .boolean (.int v) = true := by
  rcases ax_bo_inv h with rfl | rfl <;> rfl
theorem ax_bo_v {v x : Int32} (h : ax_bo v = some x) : vp_nar .boolean v = v := by
  rcases ax_bo_inv h with rfl | rfl <;> decide
theorem ax_ag {gs gs' : List Nat} {ad ad2 ad0 : Nat → Nat} (h2 : ∀ a, a ∉ gs' → ad2 a = ad a) (hs : ∀ a, a ∈ gs' → a ∈ gs) (h : ∀ a, a ∉ gs → ad a = ad0 a) : ∀ a, a ∉ gs → ad2 a = ad0 a := fun a ha => (h2 a (fun z => ha (hs a z))).trans (h a ha)
