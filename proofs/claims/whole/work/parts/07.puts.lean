/-! FIELDS WRITTEN -/
def ax_fin (ci k : Nat) : Bool := match ax_cl[ci]? with
  | some q => (q.2.1 k).2.2.2
  | none => false
theorem ax_nar_r {ci k : Nat} (h : ax_kr ci k = true) (o : Option Nat) : narrow (ax_ty ci k) (va_rf o) = va_rf o ∧ fits (ax_ty ci k) (va_rf o) = true := by
  unfold ax_kr at h
  cases hty : ax_ty ci k <;> simp [hty] at h <;> cases o <;> exact ⟨rfl, rfl⟩
theorem ax_nar_l {ci k : Nat} (h : ax_kl ci k = true) (v : Int64) : narrow (ax_ty ci k) (.long v) = .long v ∧ fits (ax_ty ci k) (.long v) = true := by
  unfold ax_kl at h
  cases hty : ax_ty ci k <;> simp [hty] at h <;> exact ⟨rfl, rfl⟩
theorem ax_fs_set {M M' : ax_M} {ad : Nat → Nat} {ci a k : Nat} {v : Value} (hv : ax_v ad (ax_fv M' (ax_ty ci k) a k) = v) (ho : ∀ j ty, j ≠ k → ax_fv M' ty a j = ax_fv M ty a j) : (ax_fs M ad ci a).set k v = ax_fs M' ad ci a := ax_rm_set hv (fun j hj => by rw [ho j _ hj])
section
variable {Z : ax_Z} {own : String} {cc : ByteArray} {ret : Option FieldType} {ad : Nat → Nat} {cells slots pc : Nat} {lv : List (Nat × ax_U)} {st : List ax_U} {M : ax_M}
theorem ax_putV (B : ax_B Z own cc ret) {idx ci k q a' : Nat} {H : Heap} {locs : List Loc} {ls : Array Slot} {ws : va_W} {fs rest : List Value} {v : Value} (hd : decode cc pc = .ok (.putfield idx, 3)) (hl : ax_fl own idx ci k) (hfin : ax_fin ci k = false) (hP : va_P (Z.2.2.2.2.2.2.2.2.2.2.1.1, Z.2.2.2.2.2.2.2.2.2.2.1.2.1) ax_cl ws H) (hD : va_D (ax_A Z.2.2.2.2.2.2.2.2.2.2.1) ws) (hS : va_S (ax_A Z.2.2.2.2.2.2.2.2.2.2.1) Z.2.2.2.2.1.heap H locs) (he : ws[q]? = some (a', .inr (ci, fs))) (hfl : fs.length = ax_nf ci) (hn : narrow (ax_ty ci k) v = v) (hfit : fits (ax_ty ci k) v = true)
    (kk : ∀ (H1 : Heap) (locs1 : List Loc), va_P (Z.2.2.2.2.2.2.2.2.2.2.1.1, Z.2.2.2.2.2.2.2.2.2.2.1.2.1) ax_cl (ws.set q (a', .inr (ci, fs.set k v))) H1 → va_D (ax_A Z.2.2.2.2.2.2.2.2.2.2.1) (ws.set q (a', .inr (ci, fs.set k v))) → va_S (ax_A Z.2.2.2.2.2.2.2.2.2.2.1) Z.2.2.2.2.1.heap H1 locs1 → W Z.1 Z.2.1 Z.2.2.1 Z.2.2.2.1 Z.2.2.2.2.1 Z.2.2.2.2.2.1 Z.2.2.2.2.2.2.1 Z.2.2.2.2.2.2.2.1 Z.2.2.2.2.2.2.2.2.1 Z.2.2.2.2.2.2.2.2.2.1 H1 locs1 cells slots Z.2.2.2.2.2.2.2.2.2.2.2.2 (F0 Z.2.2.2.2.2.1 (pc + 3) ls rest)) : W Z.1 Z.2.1 Z.2.2.1 Z.2.2.2.1 Z.2.2.2.2.1 Z.2.2.2.2.2.1 Z.2.2.2.2.2.2.1 Z.2.2.2.2.2.2.2.1 Z.2.2.2.2.2.2.2.2.1 Z.2.2.2.2.2.2.2.2.2.1 H locs cells slots Z.2.2.2.2.2.2.2.2.2.2.2.2 (F0 Z.2.2.2.2.2.1 pc ls (v :: .ref a' :: rest)) := by
  obtain ⟨hx, hb, hml, hr, hts, hown, hlk, hK, hsz⟩ := B
  obtain ⟨⟨C, T, N⟩, hc, hk, hlk⟩ := hl
  obtain ⟨o1, o2, o3, o4, o5, o6⟩ := ax_cl_ok hc
  have hsame : ∀ x, Z.2.2.2.2.1.fieldFound? (T k).1 (T k).2.1 (T k).2.2.1 = some x → Z.2.2.2.2.1.fieldFound? C (T k).2.1 (T k).2.2.1 = some x := fun x h => by rw [o6 k hk] at h; exact h
  have hfin' : (T k).2.2.2 = false := by simpa [ax_fin, hc] using hfin
  have hkl : k < fs.length := by rw [hfl, ax_nf_at hc]; exact hk
  rcases hlk with w | ⟨host, w⟩
  · exact va_put hx hb hts o1 (ax_ty ci) o2 o3 hown hK.1 hP hD hS q he hc k hk (hts _ w) hsame hfin' (o2 k hk) hn hfit hkl hd kk
  · exact va_putN hx hb hts o1 (ax_ty ci) o2 o3 hown hK.1 hP hD hS q he hc k hk (va_Nw.use (ax_nest_tab _ w) (hK.2.1 _ w)) hsame hfin' (o2 k hk) hn hfit hkl hd kk
theorem ax_putW (B : ax_B Z own cc ret) {idx ci k q a' : Nat} {H : Heap} {locs : List Loc} {ls : Array Slot} {ws : va_W} {fs rest : List Value} {v : Value} (hd : decode cc pc = .ok (.putfield idx, 3)) (hl : ax_ff own idx ci k) (hin : Z.2.2.2.2.2.2.2.2.1.name = "<init>") (hP : va_P (Z.2.2.2.2.2.2.2.2.2.2.1.1, Z.2.2.2.2.2.2.2.2.2.2.1.2.1) ax_cl ws H) (hD : va_D (ax_A Z.2.2.2.2.2.2.2.2.2.2.1) ws) (hS : va_S (ax_A Z.2.2.2.2.2.2.2.2.2.2.1) Z.2.2.2.2.1.heap H locs) (he : ws[q]? = some (a', .inr (ci, fs))) (hfl : fs.length = ax_nf ci) (hn : narrow (ax_ty ci k) v = v) (hfit : fits (ax_ty ci k) v = true)
    (kk : ∀ (H1 : Heap) (locs1 : List Loc), va_P (Z.2.2.2.2.2.2.2.2.2.2.1.1, Z.2.2.2.2.2.2.2.2.2.2.1.2.1) ax_cl (ws.set q (a', .inr (ci, fs.set k v))) H1 → va_D (ax_A Z.2.2.2.2.2.2.2.2.2.2.1) (ws.set q (a', .inr (ci, fs.set k v))) → va_S (ax_A Z.2.2.2.2.2.2.2.2.2.2.1) Z.2.2.2.2.1.heap H1 locs1 → W Z.1 Z.2.1 Z.2.2.1 Z.2.2.2.1 Z.2.2.2.2.1 Z.2.2.2.2.2.1 Z.2.2.2.2.2.2.1 Z.2.2.2.2.2.2.2.1 Z.2.2.2.2.2.2.2.2.1 Z.2.2.2.2.2.2.2.2.2.1 H1 locs1 cells slots Z.2.2.2.2.2.2.2.2.2.2.2.2 (F0 Z.2.2.2.2.2.1 (pc + 3) ls rest)) : W Z.1 Z.2.1 Z.2.2.1 Z.2.2.2.1 Z.2.2.2.2.1 Z.2.2.2.2.2.1 Z.2.2.2.2.2.2.1 Z.2.2.2.2.2.2.2.1 Z.2.2.2.2.2.2.2.2.1 Z.2.2.2.2.2.2.2.2.2.1 H locs cells slots Z.2.2.2.2.2.2.2.2.2.2.2.2 (F0 Z.2.2.2.2.2.1 pc ls (v :: .ref a' :: rest)) := by
  obtain ⟨hx, hb, hml, hr, hts, hown, hlk, hK, hsz⟩ := B
  obtain ⟨⟨C, T, N⟩, hc, hk, hlk, hCo, hfin⟩ := hl
  obtain ⟨o1, o2, o3, o4, o5, o6⟩ := ax_cl_ok hc
  have hsame : ∀ x, Z.2.2.2.2.1.fieldFound? (T k).1 (T k).2.1 (T k).2.2.1 = some x → Z.2.2.2.2.1.fieldFound? C (T k).2.1 (T k).2.2.1 = some x := fun x h => by rw [o6 k hk] at h; exact h
  have hkl : k < fs.length := by rw [hfl, ax_nf_at hc]; exact hk
  exact va_putF hx hb hts o1 (ax_ty ci) o2 o3 hown hK.1 hP hD hS q he hc k hk (hts _ hlk) hsame hfin hin ((o6 k hk).trans hCo) (o2 k hk) hn hfit hkl hd kk
theorem ax_putI (B : ax_B Z own cc ret) {idx ci k : Nat} {o : Option Nat} {v : Int32} {β : Type} {f : ax_M → Option β} {r : β} (hd : decode cc pc = .ok (.putfield idx, 3)) (hl : ax_fl own idx ci k) (hfin : ax_fin ci k = false) (ht : ax_ki ci k = true) (hn : narrow (ax_ty ci k) (.int v) = .int v) (hfit : fits (ax_ty ci k) (.int v) = true) (hf : (ax_pi M ci k o v).bind f = some r) (kk : ∀ M1, f M1 = some r → ax_W Z ad cells slots (pc + 3) lv st M1) : ax_W Z ad cells slots pc lv (ax_I v :: ax_O o :: st) M := by
  intro H locs ls h1 h2 h3
  obtain ⟨M1, e1, e2⟩ := ax_bd hf
  obtain ⟨a, ha, hx⟩ := Option.map_eq_some_iff.mp e1
  obtain ⟨rfl, hs⟩ := ax_ob_inv ha
  obtain ⟨dom, q, g1, g2, g3, g4, g5, g6, g7⟩ := h2.at hs
  refine ax_putV B hd hl hfin g3 g4 h3 g7 (by simp [ax_fs]) hn hfit (fun H1 locs1 k1 k2 k3 => ?_)
  have h2' : ax_P Z.2.2.2.2.2.2.2.2.2.2.1 ad M1 H1 := by
    subst hx
    refine ax_P.write (M := M) g1 g2 g5 g6 (fun _ => rfl) hs ?_ ?_ ?_ ?_ k1 k2
    · intro b j hb; simp [ax_i_wi, ax_i_wl, ax_i_wr, hb]
    · intro b j hb; simp [ax_l_wi, ax_l_wl, ax_l_wr, hb]
    · intro b j hb; simp [ax_r_wi, ax_r_wl, ax_r_wr, hb]
    · simp only [ax_ce]
      rw [ax_fs_set (M' := ax_wi M a k v)]
      · rw [ax_ki_fv ht]; simp [ax_i_wi, ax_v]
      · intro j ty hj; cases ty <;> simp [ax_fv, ax_i_wi, ax_l_wi, ax_r_wi, ax_i_wl, ax_l_wl, ax_r_wl, ax_i_wr, ax_l_wr, ax_r_wr, hj]
  exact kk M1 e2 H1 locs1 ls h1 h2' k3
theorem ax_putFI (B : ax_B Z own cc ret) {idx ci k : Nat} {o : Option Nat} {v : Int32} {β : Type} {f : ax_M → Option β} {r : β} (hd : decode cc pc = .ok (.putfield idx, 3)) (hl : ax_ff own idx ci k) (hin : Z.2.2.2.2.2.2.2.2.1.name = "<init>") (ht : ax_ki ci k = true) (hn : narrow (ax_ty ci k) (.int v) = .int v) (hfit : fits (ax_ty ci k) (.int v) = true) (hf : (ax_pi M ci k o v).bind f = some r) (kk : ∀ M1, f M1 = some r → ax_W Z ad cells slots (pc + 3) lv st M1) : ax_W Z ad cells slots pc lv (ax_I v :: ax_O o :: st) M := by
  intro H locs ls h1 h2 h3
  obtain ⟨M1, e1, e2⟩ := ax_bd hf
  obtain ⟨a, ha, hx⟩ := Option.map_eq_some_iff.mp e1
  obtain ⟨rfl, hs⟩ := ax_ob_inv ha
  obtain ⟨dom, q, g1, g2, g3, g4, g5, g6, g7⟩ := h2.at hs
  refine ax_putW B hd hl hin g3 g4 h3 g7 (by simp [ax_fs]) hn hfit (fun H1 locs1 k1 k2 k3 => ?_)
  have h2' : ax_P Z.2.2.2.2.2.2.2.2.2.2.1 ad M1 H1 := by
    subst hx
    refine ax_P.write (M := M) g1 g2 g5 g6 (fun _ => rfl) hs ?_ ?_ ?_ ?_ k1 k2
    · intro b j hb; simp [ax_i_wi, ax_i_wl, ax_i_wr, hb]
    · intro b j hb; simp [ax_l_wi, ax_l_wl, ax_l_wr, hb]
    · intro b j hb; simp [ax_r_wi, ax_r_wl, ax_r_wr, hb]
    · simp only [ax_ce]
      rw [ax_fs_set (M' := ax_wi M a k v)]
      · rw [ax_ki_fv ht]; simp [ax_i_wi, ax_v]
      · intro j ty hj; cases ty <;> simp [ax_fv, ax_i_wi, ax_l_wi, ax_r_wi, ax_i_wl, ax_l_wl, ax_r_wl, ax_i_wr, ax_l_wr, ax_r_wr, hj]
  exact kk M1 e2 H1 locs1 ls h1 h2' k3
theorem ax_putL (B : ax_B Z own cc ret) {idx ci k : Nat} {o : Option Nat} {v : Int64} {β : Type} {f : ax_M → Option β} {r : β} (hd : decode cc pc = .ok (.putfield idx, 3)) (hl : ax_fl own idx ci k) (hfin : ax_fin ci k = false) (ht : ax_kl ci k = true) (hf : (ax_pl M ci k o v).bind f = some r) (kk : ∀ M1, f M1 = some r → ax_W Z ad cells slots (pc + 3) lv st M1) : ax_W Z ad cells slots pc lv (ax_L v :: ax_O o :: st) M := by
  intro H locs ls h1 h2 h3
  obtain ⟨M1, e1, e2⟩ := ax_bd hf
  obtain ⟨a, ha, hx⟩ := Option.map_eq_some_iff.mp e1
  obtain ⟨rfl, hs⟩ := ax_ob_inv ha
  obtain ⟨dom, q, g1, g2, g3, g4, g5, g6, g7⟩ := h2.at hs
  refine ax_putV B hd hl hfin g3 g4 h3 g7 (by simp [ax_fs]) (ax_nar_l ht v).1 (ax_nar_l ht v).2 (fun H1 locs1 k1 k2 k3 => ?_)
  have h2' : ax_P Z.2.2.2.2.2.2.2.2.2.2.1 ad M1 H1 := by
    subst hx
    refine ax_P.write (M := M) g1 g2 g5 g6 (fun _ => rfl) hs ?_ ?_ ?_ ?_ k1 k2
    · intro b j hb; simp [ax_i_wi, ax_i_wl, ax_i_wr, hb]
    · intro b j hb; simp [ax_l_wi, ax_l_wl, ax_l_wr, hb]
    · intro b j hb; simp [ax_r_wi, ax_r_wl, ax_r_wr, hb]
    · simp only [ax_ce]
      rw [ax_fs_set (M' := ax_wl M a k v)]
      · rw [ax_kl_fv ht]; simp [ax_l_wl, ax_v]
      · intro j ty hj; cases ty <;> simp [ax_fv, ax_i_wi, ax_l_wi, ax_r_wi, ax_i_wl, ax_l_wl, ax_r_wl, ax_i_wr, ax_l_wr, ax_r_wr, hj]
  exact kk M1 e2 H1 locs1 ls h1 h2' k3
theorem ax_putFL (B : ax_B Z own cc ret) {idx ci k : Nat} {o : Option Nat} {v : Int64} {β : Type} {f : ax_M → Option β} {r : β} (hd : decode cc pc = .ok (.putfield idx, 3)) (hl : ax_ff own idx ci k) (hin : Z.2.2.2.2.2.2.2.2.1.name = "<init>") (ht : ax_kl ci k = true) (hf : (ax_pl M ci k o v).bind f = some r) (kk : ∀ M1, f M1 = some r → ax_W Z ad cells slots (pc + 3) lv st M1) : ax_W Z ad cells slots pc lv (ax_L v :: ax_O o :: st) M := by
  intro H locs ls h1 h2 h3
  obtain ⟨M1, e1, e2⟩ := ax_bd hf
  obtain ⟨a, ha, hx⟩ := Option.map_eq_some_iff.mp e1
  obtain ⟨rfl, hs⟩ := ax_ob_inv ha
  obtain ⟨dom, q, g1, g2, g3, g4, g5, g6, g7⟩ := h2.at hs
  refine ax_putW B hd hl hin g3 g4 h3 g7 (by simp [ax_fs]) (ax_nar_l ht v).1 (ax_nar_l ht v).2 (fun H1 locs1 k1 k2 k3 => ?_)
  have h2' : ax_P Z.2.2.2.2.2.2.2.2.2.2.1 ad M1 H1 := by
    subst hx
    refine ax_P.write (M := M) g1 g2 g5 g6 (fun _ => rfl) hs ?_ ?_ ?_ ?_ k1 k2
    · intro b j hb; simp [ax_i_wi, ax_i_wl, ax_i_wr, hb]
    · intro b j hb; simp [ax_l_wi, ax_l_wl, ax_l_wr, hb]
    · intro b j hb; simp [ax_r_wi, ax_r_wl, ax_r_wr, hb]
    · simp only [ax_ce]
      rw [ax_fs_set (M' := ax_wl M a k v)]
      · rw [ax_kl_fv ht]; simp [ax_l_wl, ax_v]
      · intro j ty hj; cases ty <;> simp [ax_fv, ax_i_wi, ax_l_wi, ax_r_wi, ax_i_wl, ax_l_wl, ax_r_wl, ax_i_wr, ax_l_wr, ax_r_wr, hj]
  exact kk M1 e2 H1 locs1 ls h1 h2' k3
theorem ax_putR (B : ax_B Z own cc ret) {idx ci k : Nat} {o : Option Nat} {v : Option Nat} {β : Type} {f : ax_M → Option β} {r : β} (hd : decode cc pc = .ok (.putfield idx, 3)) (hl : ax_fl own idx ci k) (hfin : ax_fin ci k = false) (ht : ax_kr ci k = true) (hf : (ax_pr M ci k o v).bind f = some r) (kk : ∀ M1, f M1 = some r → ax_W Z ad cells slots (pc + 3) lv st M1) : ax_W Z ad cells slots pc lv (ax_O v :: ax_O o :: st) M := by
  intro H locs ls h1 h2 h3
  obtain ⟨M1, e1, e2⟩ := ax_bd hf
  have hlk : ax_lk M v = true := by
    by_cases h : ax_lk M v = true
    · exact h
    · simp [ax_pr, h] at e1
  rw [ax_pr, if_pos hlk] at e1
  obtain ⟨a, ha, hx⟩ := Option.map_eq_some_iff.mp e1
  obtain ⟨rfl, hs⟩ := ax_ob_inv ha
  obtain ⟨dom, q, g1, g2, g3, g4, g5, g6, g7⟩ := h2.at hs
  refine ax_putV B hd hl hfin g3 g4 h3 g7 (by simp [ax_fs]) (by rw [ax_v_rf]; exact (ax_nar_r ht _).1) (by rw [ax_v_rf]; exact (ax_nar_r ht _).2) (fun H1 locs1 k1 k2 k3 => ?_)
  have h2' : ax_P Z.2.2.2.2.2.2.2.2.2.2.1 ad M1 H1 := by
    subst hx
    refine ax_P.write (M := M) g1 g2 (fun b j c hb hc => by
      rw [ax_r_wr] at hc
      by_cases hbj : b = a ∧ j = k
      · rw [if_pos hbj] at hc
        subst hc
        exact (g2 c).mpr (Option.isSome_iff_ne_none.mp (by simpa [ax_lk] using hlk))
      · rw [if_neg hbj] at hc
        exact g5 b j c hb hc) g6 (fun _ => rfl) hs ?_ ?_ ?_ ?_ k1 k2
    · intro b j hb; simp [ax_i_wi, ax_i_wl, ax_i_wr, hb]
    · intro b j hb; simp [ax_l_wi, ax_l_wl, ax_l_wr, hb]
    · intro b j hb; simp [ax_r_wi, ax_r_wl, ax_r_wr, hb]
    · simp only [ax_ce]
      rw [ax_fs_set (M' := ax_wr M a k v)]
      · rw [ax_kr_fv ht]; simp [ax_r_wr, ax_v]
      · intro j ty hj; cases ty <;> simp [ax_fv, ax_i_wi, ax_l_wi, ax_r_wi, ax_i_wl, ax_l_wl, ax_r_wl, ax_i_wr, ax_l_wr, ax_r_wr, hj]
  exact kk M1 e2 H1 locs1 ls h1 h2' k3
theorem ax_putFR (B : ax_B Z own cc ret) {idx ci k : Nat} {o : Option Nat} {v : Option Nat} {β : Type} {f : ax_M → Option β} {r : β} (hd : decode cc pc = .ok (.putfield idx, 3)) (hl : ax_ff own idx ci k) (hin : Z.2.2.2.2.2.2.2.2.1.name = "<init>") (ht : ax_kr ci k = true) (hf : (ax_pr M ci k o v).bind f = some r) (kk : ∀ M1, f M1 = some r → ax_W Z ad cells slots (pc + 3) lv st M1) : ax_W Z ad cells slots pc lv (ax_O v :: ax_O o :: st) M := by
  intro H locs ls h1 h2 h3
  obtain ⟨M1, e1, e2⟩ := ax_bd hf
  have hlk : ax_lk M v = true := by
    by_cases h : ax_lk M v = true
    · exact h
    · simp [ax_pr, h] at e1
  rw [ax_pr, if_pos hlk] at e1
  obtain ⟨a, ha, hx⟩ := Option.map_eq_some_iff.mp e1
  obtain ⟨rfl, hs⟩ := ax_ob_inv ha
  obtain ⟨dom, q, g1, g2, g3, g4, g5, g6, g7⟩ := h2.at hs
  refine ax_putW B hd hl hin g3 g4 h3 g7 (by simp [ax_fs]) (by rw [ax_v_rf]; exact (ax_nar_r ht _).1) (by rw [ax_v_rf]; exact (ax_nar_r ht _).2) (fun H1 locs1 k1 k2 k3 => ?_)
  have h2' : ax_P Z.2.2.2.2.2.2.2.2.2.2.1 ad M1 H1 := by
    subst hx
    refine ax_P.write (M := M) g1 g2 (fun b j c hb hc => by
      rw [ax_r_wr] at hc
      by_cases hbj : b = a ∧ j = k
      · rw [if_pos hbj] at hc
        subst hc
        exact (g2 c).mpr (Option.isSome_iff_ne_none.mp (by simpa [ax_lk] using hlk))
      · rw [if_neg hbj] at hc
        exact g5 b j c hb hc) g6 (fun _ => rfl) hs ?_ ?_ ?_ ?_ k1 k2
    · intro b j hb; simp [ax_i_wi, ax_i_wl, ax_i_wr, hb]
    · intro b j hb; simp [ax_l_wi, ax_l_wl, ax_l_wr, hb]
    · intro b j hb; simp [ax_r_wi, ax_r_wl, ax_r_wr, hb]
    · simp only [ax_ce]
      rw [ax_fs_set (M' := ax_wr M a k v)]
      · rw [ax_kr_fv ht]; simp [ax_r_wr, ax_v]
      · intro j ty hj; cases ty <;> simp [ax_fv, ax_i_wi, ax_l_wi, ax_r_wi, ax_i_wl, ax_l_wl, ax_r_wl, ax_i_wr, ax_l_wr, ax_r_wr, hj]
  exact kk M1 e2 H1 locs1 ls h1 h2' k3
end
