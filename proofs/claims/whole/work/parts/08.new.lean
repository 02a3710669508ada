/-! NEW CELLS -/
def ax_dv (ty : FieldType) : Value := match ty with
  | .long => .long 0
  | .object _ => .null
  | .array _ => .null
  | _ => .int 0
theorem ax_dv_fv (M : ax_M) (g : Nat) (x : ax_X) (ad : Nat → Nat) (ty : FieldType) (j : Nat) : ax_v ad (ax_fv (ax_wn M g x) ty g j) = ax_dv ty := by
  cases ty <;> simp [ax_fv, ax_dv, ax_i_wn, ax_l_wn, ax_r_wn, ax_v, va_rf]
theorem ax_df0 : ∀ j, j < 15 → defaultValue (ax_ty 0 j) = ax_dv (ax_ty 0 j) := by decide +kernel
theorem ax_df1 : ∀ j, j < 14 → defaultValue (ax_ty 1 j) = ax_dv (ax_ty 1 j) := by decide +kernel
theorem ax_df2 : ∀ j, j < 14 → defaultValue (ax_ty 2 j) = ax_dv (ax_ty 2 j) := by decide +kernel
theorem ax_df3 : ∀ j, j < 50 → defaultValue (ax_ty 3 j) = ax_dv (ax_ty 3 j) := by decide +kernel
theorem ax_df {ci : Nat} {q : vw_C} (h : ax_cl[ci]? = some q) : ∀ j, j < q.2.2 → defaultValue (ax_ty ci j) = ax_dv (ax_ty ci j) := by
  match ci, h with
  | 0, h => cases h; exact ax_df0
  | 1, h => cases h; exact ax_df1
  | 2, h => cases h; exact ax_df2
  | 3, h => cases h; exact ax_df3
  | n + 4, h => simp [ax_cl] at h
/-- a new id takes an address -/
def ax_na (ad : Nat → Nat) (g q : Nat) : Nat → Nat := fun a => if a = g then q else ad a
theorem ax_na_ne {ad : Nat → Nat} {g q : Nat} : ∀ a, a ∉ [g] → ax_na ad g q a = ad a := fun a h => by
  have : a ≠ g := fun e => h (by simp [e])
  simp [ax_na, this]
theorem ax_P.new {G : ax_G} {ad : Nat → Nat} {M : ax_M} {H1 : Heap} {dom : List Nat} {g q : Nat} {x : ax_X} {E : va_E} (hn : dom.Nodup) (hm : ∀ a, a ∈ dom ↔ ax_s M a ≠ none) (hc : ∀ a k b, a ∈ dom → ax_r M a k = some b → b ∈ dom) (hg : ax_s M g = none) (hE : E = ax_ce G (ax_na ad g q) (ax_wn M g x) g x)
    (hP : va_P (G.1, G.2.1) ax_cl (ax_ls G ad M dom ++ [(q, E)]) H1) (hD : va_D (ax_A G) (ax_ls G ad M dom ++ [(q, E)])) : ax_P G (ax_na ad g q) (ax_wn M g x) H1 := by
  have hgd : g ∉ dom := fun h => (hm g).mp h hg
  have hne : ∀ a, a ∈ dom → a ≠ g := fun a h e => hgd (e ▸ h)
  have e : ax_ls G ad M dom ++ [(q, E)] = ax_ls G (ax_na ad g q) (ax_wn M g x) (dom ++ [g]) := by
    unfold ax_ls
    rw [List.map_append]
    congr 1
    · apply List.map_congr_left
      intro a ha
      have h1 := hne a ha
      rw [ax_c1_congr (G := G) (ad := ad) (ad' := ax_na ad g q) (M := M) (M' := ax_wn M g x) (b := a) (fun j => by simp [ax_i_wn, h1]) (fun j => by simp [ax_l_wn, h1]) (fun j => by simp [ax_r_wn, h1]) (by simp [ax_s_wn, h1]) (fun j c hj => by
        have := hne c (hc a j c ha hj)
        simp [ax_na, this])]
      simp [ax_na, h1]
    · rw [hE]
      simp [ax_na, ax_c1, ax_s_wn]
  rw [e] at hP hD
  refine ⟨dom ++ [g], ?_, ?_, hP, hD, ?_⟩
  · rw [List.nodup_append]
    refine ⟨hn, by simp, ?_⟩
    intro a ha b hb
    rw [List.mem_singleton.mp hb]
    exact hne a ha
  · intro a
    rw [ax_s_wn]
    by_cases h : a = g
    · simp [h]
    · simp [h, hm a]
  · intro a k b ha hb
    rw [ax_r_wn] at hb
    by_cases h : a = g
    · rw [if_pos h] at hb; cases hb
    · rw [if_neg h] at hb
      rcases List.mem_append.mp ha with ha | ha
      · exact List.mem_append_left _ (hc a k b ha hb)
      · exact absurd (List.mem_singleton.mp ha) h
theorem ax_nw_inv {M M1 : ax_M} {g : Nat} {x : ax_X} {refs : List (Option Nat)} (h : ax_nw M g x refs = some M1) : ax_s M g = none ∧ (∀ o ∈ refs, o ≠ some g) ∧ M1 = ax_wn M g x := by
  unfold ax_nw at h
  by_cases hc : ax_s M g = none ∧ ∀ o ∈ refs, o ≠ some g
  · rw [if_pos hc] at h
    cases h
    exact ⟨hc.1, hc.2, rfl⟩
  · rw [if_neg hc] at h
    cases h
/-- the values of a list are none of the new id, if its references are among these -/
def ax_cv (refs : List (Option Nat)) (vs : List ax_U) : Prop := ∀ v ∈ vs, (∃ x : Int32, v = ax_I x) ∨ (∃ x : Int64, v = ax_L x) ∨ ∃ o ∈ refs, v = ax_O o
theorem ax_cv0 {refs : List (Option Nat)} : ax_cv refs [] := fun v h => by cases h
theorem ax_cvi {refs : List (Option Nat)} {vs : List ax_U} {x : Int32} (h : ax_cv refs vs) : ax_cv refs (ax_I x :: vs) := fun v hv => (List.mem_cons.mp hv).elim (fun e => Or.inl ⟨x, e⟩) (h v)
theorem ax_cvl {refs : List (Option Nat)} {vs : List ax_U} {x : Int64} (h : ax_cv refs vs) : ax_cv refs (ax_L x :: vs) := fun v hv => (List.mem_cons.mp hv).elim (fun e => Or.inr (Or.inl ⟨x, e⟩)) (h v)
theorem ax_cvr {refs : List (Option Nat)} {vs : List ax_U} {o : Option Nat} (ho : o ∈ refs) (h : ax_cv refs vs) : ax_cv refs (ax_O o :: vs) := fun v hv => (List.mem_cons.mp hv).elim (fun e => Or.inr (Or.inr ⟨o, ho, e⟩)) (h v)
theorem ax_cv_nr {refs : List (Option Nat)} {vs : List ax_U} {gs : List Nat} (h : ax_cv refs vs) (hg : ∀ o ∈ refs, ∀ g ∈ gs, o ≠ some g) : ∀ v ∈ vs, ax_nr gs v := by
  intro v hv
  rcases h v hv with ⟨x, rfl⟩ | ⟨x, rfl⟩ | ⟨o, ho, rfl⟩
  · exact ax_nr_int
  · exact ax_nr_long
  · exact ax_nr_rf (hg o ho)
theorem ax_cv_lv {refs : List (Option Nat)} {lv : List (Nat × ax_U)} {gs : List Nat} (h : ax_cv refs (lv.map (·.2))) (hg : ∀ o ∈ refs, ∀ g ∈ gs, o ≠ some g) : ∀ q ∈ lv, ax_nr gs q.2 := fun q hq => ax_cv_nr h hg q.2 (List.mem_map.mpr ⟨q, hq, rfl⟩)
section
variable {Z : ax_Z} {own : String} {cc : ByteArray} {ret : Option FieldType} {ad : Nat → Nat} {cells slots pc : Nat} {lv : List (Nat × ax_U)} {st : List ax_U} {M : ax_M}
theorem ax_new (B : ax_B Z own cc ret) {d0 mc0 ms0 : Nat} (hR : ax_R Z d0 mc0 ms0) {idx ci g n : Nat} {C : String} {refs : List (Option Nat)} {β : Type} {f : ax_M → Option β} {r : β} (hd : decode cc pc = .ok (.new idx, 3)) (hw : Cond.classLink own idx C ∈ ax_ws) (hC : (ax_cl[ci]?).map (fun q => (q.1, q.2.2)) = some (C, n)) (h1v : ax_cv refs (lv.map (·.2))) (h2v : ax_cv refs st) (hc : cells + 1 ≤ mc0) (hs : slots + n ≤ ms0)
    (hf : (ax_nw M g (.inl ci) refs).bind f = some r) (kk : ∀ M1 ad', (∀ a, a ∉ [g] → ad' a = ad a) → f M1 = some r → ax_W Z ad' (cells + 1) (slots + n) (pc + 3) lv (ax_O (some g) :: st) M1) : ax_W Z ad cells slots pc lv st M := by
  intro H locs ls h1 h2 h3
  obtain ⟨hx, hb, hml, hr, hts, hown, hlk, hK, hsz⟩ := B
  obtain ⟨M1, e1, e2⟩ := ax_bd hf
  obtain ⟨hg, href, rfl⟩ := ax_nw_inv e1
  obtain ⟨⟨C', T, N⟩, hcl, hCn⟩ := Option.map_eq_some_iff.mp hC
  cases hCn
  obtain ⟨o1, o2, o3, o4, o5, o6⟩ := ax_cl_ok hcl
  obtain ⟨dom, g1, g2, g3, g4, g5⟩ := h2
  have hA : ∀ q, Z.2.2.2.2.1.heap.size ≤ q → ax_A Z.2.2.2.2.2.2.2.2.2.2.1 q := fun q h => Nat.le_trans hsz h
  refine va_new (fs := (List.range (ax_nf ci)).map fun j => ax_dv (ax_ty ci j)) hx hb hts o1 (ax_ty ci) o2 hown (hts _ hw) (hts _ o4) (hts _ o5) hK.1 g3 g4 h3 hA hcl (fun j hj => ?_) (Nat.le_trans hc hR.2.2.1) (Nat.le_trans hs hR.2.2.2) hd (fun q H1 k1 k2 k3 => ?_)
  · rw [ax_df hcl j hj]
    have : j < ax_nf ci := by rw [ax_nf_at hcl]; exact hj
    simp [vp_V, this]
  · have h2' : ax_P Z.2.2.2.2.2.2.2.2.2.2.1 (ax_na ad g q) (ax_wn M g (.inl ci)) H1 := ax_P.new g1 g2 g5 hg (by simp only [ax_ce, ax_fs, ax_dv_fv]) k1 k2
    have hrg : ∀ o ∈ refs, ∀ g' ∈ [g], o ≠ some g' := fun o ho g' hg' => by rw [List.mem_singleton.mp hg']; exact href o ho
    have hw2 := kk _ (ax_na ad g q) ax_na_ne e2 H1 locs ls (by rw [ax_lv_nr ax_na_ne (ax_cv_lv h1v hrg)]; exact h1) h2' k3
    rw [List.map_cons, ax_st_nr ax_na_ne (ax_cv_nr h2v hrg)] at hw2
    have e : ax_v (ax_na ad g q) (ax_O (some g)) = .ref q := by simp [va_rf, ax_v, ax_na]
    rw [e] at hw2
    exact hw2
theorem ax_newarray (B : ax_B Z own cc ret) {d0 mc0 ms0 : Nat} (hR : ax_R Z d0 mc0 ms0) {aty : ArrayType} {t g N : Nat} {n : Int32} {refs : List (Option Nat)} {β : Type} {f : ax_M → Option β} {r : β} (hd : decode cc pc = .ok (.newarray aty, 2)) (hta : newarray.typeOf aty = ax_el t) (ht : t < 3) (hn : ¬ n < 0) (hN : n.toNatClampNeg = N) (hN2 : N ≤ 1000) (h1v : ax_cv refs (lv.map (·.2))) (h2v : ax_cv refs st) (hc : cells + 1 ≤ mc0) (hs : slots + N ≤ ms0)
    (hf : (ax_nw M g (.inr (t, N)) refs).bind f = some r) (kk : ∀ M1 ad', (∀ a, a ∉ [g] → ad' a = ad a) → f M1 = some r → ax_W Z ad' (cells + 1) (slots + N) (pc + 2) lv (ax_O (some g) :: st) M1) : ax_W Z ad cells slots pc lv (ax_I n :: st) M := by
  intro H locs ls h1 h2 h3
  obtain ⟨hx, hb, hml, hr, hts, hown, hlk, hK, hsz⟩ := B
  obtain ⟨M1, e1, e2⟩ := ax_bd hf
  obtain ⟨hg, href, rfl⟩ := ax_nw_inv e1
  obtain ⟨dom, g1, g2, g3, g4, g5⟩ := h2
  have hA : ∀ q, Z.2.2.2.2.1.heap.size ≤ q → ax_A Z.2.2.2.2.2.2.2.2.2.2.1 q := fun q h => Nat.le_trans hsz h
  have htt : t = 0 ∨ t = 1 ∨ t = 2 := by omega
  have hac : Cond.arrayClass (ax_el t) ∈ ax_ws := by rcases htt with rfl | rfl | rfl; exact a_0; exact a_1; exact a_2
  have hby : N * componentBytes (ax_el t) ≤ 536870912 := by
    have : componentBytes (ax_el t) ≤ 8 := by rcases htt with rfl | rfl | rfl <;> decide
    exact Nat.le_trans (Nat.mul_le_mul hN2 this) (by decide)
  have hRA := hK.1.2 t (Z.2.2.2.2.2.2.2.2.2.2.1.2.2.1 t, ax_el t) (ax_ts_at (Nat.lt_of_lt_of_le ht (by decide)))
  have hpy : ∀ (ad0 : Nat → Nat) (cA : ClassId), vp_cell cA (N, ax_py (ax_wn M g (.inr (t, N))) ad0 (ax_el t) g) = arrV cA N (fun _ => defaultValue (ax_el t)) := by
    intro ad0 cA
    rcases htt with rfl | rfl | rfl <;> simp [ax_el, ax_py, vp_cell, ax_i_wn, ax_l_wn, defaultValue]
  have hpe : ∀ ad1 ad2 : Nat → Nat, ax_py (ax_wn M g (.inr (t, N))) ad1 (ax_el t) g = ax_py (ax_wn M g (.inr (t, N))) ad2 (ax_el t) g := by
    intro ad1 ad2
    rcases htt with rfl | rfl | rfl <;> rfl
  refine va_newa (a0 := (N, ax_py (ax_wn M g (.inr (t, N))) ad (ax_el t) g)) hx hb (by rw [hta]; exact hts _ hac) hta hK.1 g3 g4 h3 hA (hpy ad) hn hN hby (Nat.le_trans hc hR.2.2.1) (Nat.le_trans hs hR.2.2.2) hd (fun q cA H1 k0 k1 k2 k3 => ?_)
  have hcA : cA = Z.2.2.2.2.2.2.2.2.2.2.1.2.2.1 t := by
    have h9 := (k0.2 (ax_ts Z.2.2.2.2.2.2.2.2.2.2.1).length (cA, ax_el t) (by simp)).2
    have h8 := hRA.2
    rcases htt with rfl | rfl | rfl <;> exact Option.some.inj (h9.symm.trans h8)
  subst hcA
  have h2' : ax_P Z.2.2.2.2.2.2.2.2.2.2.1 (ax_na ad g q) (ax_wn M g (.inr (t, N))) H1 := ax_P.new g1 g2 g5 hg (by simp only [ax_ce]; rw [hpe ad (ax_na ad g q)]) k1 k2
  have hrg : ∀ o ∈ refs, ∀ g' ∈ [g], o ≠ some g' := fun o ho g' hg' => by rw [List.mem_singleton.mp hg']; exact href o ho
  have hw2 := kk _ (ax_na ad g q) ax_na_ne e2 H1 locs ls (by rw [ax_lv_nr ax_na_ne (ax_cv_lv h1v hrg)]; exact h1) h2' k3
  rw [List.map_cons, ax_st_nr ax_na_ne (ax_cv_nr h2v hrg)] at hw2
  have e : ax_v (ax_na ad g q) (ax_O (some g)) = .ref q := by simp [va_rf, ax_v, ax_na]
  rw [e] at hw2
  exact hw2
theorem ax_anewarray (B : ax_B Z own cc ret) {d0 mc0 ms0 : Nat} (hR : ax_R Z d0 mc0 ms0) {idx t g N : Nat} {C : String} {n : Int32} {refs : List (Option Nat)} {β : Type} {f : ax_M → Option β} {r : β} (hd : decode cc pc = .ok (.anewarray idx, 3)) (hw : Cond.classLink own idx C ∈ ax_ws) (hao : C ∈ ax_ao) (hta : ax_el t = .object C) (ht : t < ax_nt) (hn : ¬ n < 0) (hN : n.toNatClampNeg = N) (hN2 : N ≤ 1000) (h1v : ax_cv refs (lv.map (·.2))) (h2v : ax_cv refs st) (hc : cells + 1 ≤ mc0) (hs : slots + N ≤ ms0)
    (hf : (ax_nw M g (.inr (t, N)) refs).bind f = some r) (kk : ∀ M1 ad', (∀ a, a ∉ [g] → ad' a = ad a) → f M1 = some r → ax_W Z ad' (cells + 1) (slots + N) (pc + 3) lv (ax_O (some g) :: st) M1) : ax_W Z ad cells slots pc lv (ax_I n :: st) M := by
  intro H locs ls h1 h2 h3
  obtain ⟨hx, hb, hml, hr, hts, hown, hlk, hK, hsz⟩ := B
  obtain ⟨M1, e1, e2⟩ := ax_bd hf
  obtain ⟨hg, href, rfl⟩ := ax_nw_inv e1
  obtain ⟨dom, g1, g2, g3, g4, g5⟩ := h2
  have hA : ∀ q, Z.2.2.2.2.1.heap.size ≤ q → ax_A Z.2.2.2.2.2.2.2.2.2.2.1 q := fun q h => Nat.le_trans hsz h
  have hRA := hK.1.2 t (Z.2.2.2.2.2.2.2.2.2.2.1.2.2.1 t, ax_el t) (ax_ts_at ht)
  have hpy : ∀ ad0 : Nat → Nat, ax_py (ax_wn M g (.inr (t, N))) ad0 (ax_el t) g = .inr (.inr (.inr (.inr (fun _ => none)))) := by
    intro ad0
    simp [hta, ax_py, ax_r_wn]
  refine va_newq hx hb hown (hts _ hw) (hK.2.2 _ hao) hK.1 g3 g4 h3 hA hn hN (Nat.le_trans (Nat.mul_le_mul hN2 (Nat.le_refl 4)) (by decide)) (Nat.le_trans hc hR.2.2.1) (Nat.le_trans hs hR.2.2.2) hd (fun q cA H1 k0 k1 k2 k3 => ?_)
  have hcA : cA = Z.2.2.2.2.2.2.2.2.2.2.1.2.2.1 t := by
    have h9 := (k0.2 (ax_ts Z.2.2.2.2.2.2.2.2.2.2.1).length (cA, .object C) (by simp)).2
    have h8 := hRA.2
    dsimp only at h8
    rw [hta] at h8
    obtain ⟨_, _, _, _, _, h9⟩ := h9
    obtain ⟨_, _, _, _, _, h8⟩ := h8
    exact Option.some.inj (h9.symm.trans h8)
  subst hcA
  have h2' : ax_P Z.2.2.2.2.2.2.2.2.2.2.1 (ax_na ad g q) (ax_wn M g (.inr (t, N))) H1 := ax_P.new g1 g2 g5 hg (by simp only [ax_ce]; rw [hpy]) k1 k2
  have hrg : ∀ o ∈ refs, ∀ g' ∈ [g], o ≠ some g' := fun o ho g' hg' => by rw [List.mem_singleton.mp hg']; exact href o ho
  have hw2 := kk _ (ax_na ad g q) ax_na_ne e2 H1 locs ls (by rw [ax_lv_nr ax_na_ne (ax_cv_lv h1v hrg)]; exact h1) h2' k3
  rw [List.map_cons, ax_st_nr ax_na_ne (ax_cv_nr h2v hrg)] at hw2
  have e : ax_v (ax_na ad g q) (ax_O (some g)) = .ref q := by simp [va_rf, ax_v, ax_na]
  rw [e] at hw2
  exact hw2
end
