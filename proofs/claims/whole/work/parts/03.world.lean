/-! HOW THE MEMORY LIES IN THE MACHINE'S HEAP -/
/-- a value with ids: an int, a long, a reference -/
abbrev ax_U : Type := Int32 ⊕ Int64 ⊕ Option Nat
abbrev ax_I (x : Int32) : ax_U := .inl x
abbrev ax_L (x : Int64) : ax_U := .inr (.inl x)
abbrev ax_O (o : Option Nat) : ax_U := .inr (.inr o)
def ax_ct (v : ax_U) : Nat := match v with
  | .inl _ => 1
  | .inr (.inl _) => 2
  | .inr (.inr _) => 1
/-- as the machine has it -/
def ax_v (ad : Nat → Nat) (v : ax_U) : Value := match v with
  | .inl x => .int x
  | .inr (.inl x) => .long x
  | .inr (.inr o) => va_rf (o.map ad)
theorem ax_v_rf (ad : Nat → Nat) (o : Option Nat) : ax_v ad (ax_O o) = va_rf (o.map ad) := rfl
theorem ax_v_cat (ad : Nat → Nat) (v : ax_U) : (ax_v ad v).category = ax_ct v := by
  rcases v with x | x | o
  · rfl
  · rfl
  · cases o <;> rfl
/-- what a field of a type shows -/
def ax_fv (M : ax_M) (ty : FieldType) (a k : Nat) : ax_U := match ty with
  | .long => ax_L (ax_l M a k)
  | .object _ => ax_O (ax_r M a k)
  | .array _ => ax_O (ax_r M a k)
  | _ => ax_I (ax_i M a k)
/-- what an array of a type holds -/
def ax_py (M : ax_M) (ad : Nat → Nat) (ty : FieldType) (a : Nat) : (Nat → Int32) ⊕ (Nat → Int64) ⊕ (Nat → UInt32) ⊕ (Nat → UInt64) ⊕ (Nat → Option Nat) := match ty with
  | .long => .inr (.inl (ax_l M a))
  | .object _ => .inr (.inr (.inr (.inr (fun j => (ax_r M a j).map ad))))
  | .array _ => .inr (.inr (.inr (.inr (fun j => (ax_r M a j).map ad))))
  | _ => .inl (ax_i M a)
/-- the classes' numbers, their slots, the array classes, the first address that is ours -/
abbrev ax_G : Type := (Nat → ClassId) × (Nat → Nat → Nat) × (Nat → ClassId) × Nat
abbrev ax_A (G : ax_G) : Nat → Prop := fun q => G.2.2.2 ≤ q
def ax_nf (ci : Nat) : Nat := match ax_cl[ci]? with
  | some q => q.2.2
  | none => 0
def ax_fs (M : ax_M) (ad : Nat → Nat) (ci a : Nat) : List Value := (List.range (ax_nf ci)).map fun k => ax_v ad (ax_fv M (ax_ty ci k) a k)
def ax_ce (G : ax_G) (ad : Nat → Nat) (M : ax_M) (a : Nat) (x : ax_X) : va_E := match x with
  | .inl ci => .inr (ci, ax_fs M ad ci a)
  | .inr (t, n) => .inl (G.2.2.1 t, n, ax_py M ad (ax_el t) a)
def ax_c1 (G : ax_G) (ad : Nat → Nat) (M : ax_M) (a : Nat) : va_E := ax_ce G ad M a ((ax_s M a).getD (.inl 0))
def ax_ls (G : ax_G) (ad : Nat → Nat) (M : ax_M) (dom : List Nat) : va_W := dom.map fun a => (ad a, ax_c1 G ad M a)
def ax_P (G : ax_G) (ad : Nat → Nat) (M : ax_M) (H : Heap) : Prop := ∃ dom : List Nat, dom.Nodup ∧ (∀ a, a ∈ dom ↔ ax_s M a ≠ none) ∧ va_P (G.1, G.2.1) ax_cl (ax_ls G ad M dom) H ∧ va_D (ax_A G) (ax_ls G ad M dom) ∧ ∀ a k b, a ∈ dom → ax_r M a k = some b → b ∈ dom
abbrev ax_ts (G : ax_G) : List (ClassId × FieldType) := (List.range ax_nt).map fun t => (G.2.2.1 t, ax_el t)
/-- the tables: classes, array classes, links to nest mates, arrays over classes -/
def ax_K (G : ax_G) (U : State) : Prop := va_K (G.1, G.2.1) ax_cl (ax_ts G) U ∧ (∀ w ∈ ax_nest, va_Nw w U) ∧ ∀ C ∈ ax_ao, va_AO C U
theorem ax_K.moved {G : ax_G} {s U : State} (hW : s.WarmedH U.vm) (h : ax_K G s) : ax_K G U :=
  ⟨va_K.moved hW.alike h.1, fun w hw => ax_nest_warm w hw hW (h.2.1 w hw), fun C hC => va_AO.moved hW.alike (h.2.2 C hC)⟩
theorem ax_K.same {G : ax_G} {u U : State} (e : u.vm = U.vm) (h : ax_K G u) : ax_K G U :=
  ⟨va_K.moved (by rw [e]; exact Vm.Alike.refl _) h.1, fun w hw => va_Nw.same (ax_nest_tab w hw) e (h.2.1 w hw), fun C hC => va_AO.moved (by rw [e]; exact Vm.Alike.refl _) (h.2.2 C hC)⟩
theorem ax_ls_at {G : ax_G} {ad : Nat → Nat} {M : ax_M} {dom : List Nat} {a : Nat} {x : ax_X} (h : a ∈ dom) (hs : ax_s M a = some x) : ∃ q : Nat, dom[q]? = some a ∧ (ax_ls G ad M dom)[q]? = some (ad a, ax_ce G ad M a x) := by
  obtain ⟨q, hq⟩ := List.getElem?_of_mem h
  refine ⟨q, hq, ?_⟩
  simp [ax_ls, hq, ax_c1, hs]
/-- an id's cell, in the list of all -/
theorem ax_P.at {G : ax_G} {ad : Nat → Nat} {M : ax_M} {H : Heap} {a : Nat} {x : ax_X} (h : ax_P G ad M H) (hs : ax_s M a = some x) : ∃ (dom : List Nat) (q : Nat), dom.Nodup ∧ (∀ a, a ∈ dom ↔ ax_s M a ≠ none) ∧ va_P (G.1, G.2.1) ax_cl (ax_ls G ad M dom) H ∧ va_D (ax_A G) (ax_ls G ad M dom) ∧ (∀ a k b, a ∈ dom → ax_r M a k = some b → b ∈ dom) ∧ dom[q]? = some a ∧ (ax_ls G ad M dom)[q]? = some (ad a, ax_ce G ad M a x) := by
  obtain ⟨dom, h1, h2, h3, h4, h5⟩ := h
  obtain ⟨q, hq, he⟩ := ax_ls_at (G := G) (ad := ad) ((h2 a).mpr (by rw [hs]; exact fun z => by cases z)) hs
  exact ⟨dom, q, h1, h2, h3, h4, h5, hq, he⟩
/-- one cell is written: the list of all behind it -/
theorem ax_ls_set {G : ax_G} {ad : Nat → Nat} {M M' : ax_M} {dom : List Nat} {q a : Nat} {x : ax_X} (hn : dom.Nodup) (hq : dom[q]? = some a) (hs : ax_s M' a = some x) (ho : ∀ b, b ≠ a → ax_c1 G ad M' b = ax_c1 G ad M b) : (ax_ls G ad M dom).set q (ad a, ax_ce G ad M' a x) = ax_ls G ad M' dom := by
  have hl : q < dom.length := (List.getElem?_eq_some_iff.mp hq).1
  have hqe : dom[q] = a := (List.getElem?_eq_some_iff.mp hq).2
  apply List.ext_getElem?
  intro i
  by_cases hi : i = q
  · subst hi
    rw [List.getElem?_set_self (by simpa [ax_ls] using hl)]
    simp [ax_ls, hq, ax_c1, hs]
  · rw [List.getElem?_set_ne (fun z => hi z.symm)]
    simp only [ax_ls, List.getElem?_map]
    cases hb : dom[i]? with
    | none => rfl
    | some b =>
      have hba : b ≠ a := fun z => hi (by
        have hil : i < dom.length := (List.getElem?_eq_some_iff.mp hb).1
        have hbe : dom[i] = b := (List.getElem?_eq_some_iff.mp hb).2
        exact (List.getElem_inj (h₀ := hil) (h₁ := hl) hn).mp (by rw [hbe, hqe, z]))
      simp [ho b hba]
theorem ax_rm_set {N k : Nat} {f g : Nat → Value} {v : Value} (hv : g k = v) (ho : ∀ j, j ≠ k → g j = f j) : ((List.range N).map f).set k v = (List.range N).map g := by
  apply List.ext_getElem?
  intro i
  by_cases hi : i = k
  · subst hi
    by_cases hl : i < N
    · rw [List.getElem?_set_self (by simpa using hl)]
      simp [hl, hv]
    · rw [List.getElem?_eq_none (by simp; omega), List.getElem?_eq_none (by simp; omega)]
  · rw [List.getElem?_set_ne (fun z => hi z.symm)]
    simp only [List.getElem?_map]
    cases hb : (List.range N)[i]? with
    | none => rfl
    | some b =>
      have hbi : b = i := by
        have := List.getElem?_eq_some_iff.mp hb
        obtain ⟨h1, h2⟩ := this
        simpa using h2.symm
      simp [ho b (by rw [hbi]; exact hi)]
theorem ax_fs_at {M : ax_M} {ad : Nat → Nat} {ci a k : Nat} (hk : k < ax_nf ci) : (ax_fs M ad ci a)[k]? = some (ax_v ad (ax_fv M (ax_ty ci k) a k)) := by
  simp [ax_fs, hk]
theorem ax_c1_congr {G : ax_G} {ad ad' : Nat → Nat} {M M' : ax_M} {b : Nat} (hi : ∀ j, ax_i M' b j = ax_i M b j) (hl : ∀ j, ax_l M' b j = ax_l M b j) (hr : ∀ j, ax_r M' b j = ax_r M b j) (hs : ax_s M' b = ax_s M b) (ha : ∀ j c, ax_r M b j = some c → ad' c = ad c) : ax_c1 G ad' M' b = ax_c1 G ad M b := by
  have ei : ax_i M' b = ax_i M b := funext hi
  have el : ax_l M' b = ax_l M b := funext hl
  have er : ∀ j, (ax_r M' b j).map ad' = (ax_r M b j).map ad := fun j => by
    rw [hr j]
    cases hc : ax_r M b j with
    | none => rfl
    | some c => simp [ha j c hc]
  have ef : ∀ ty k, ax_v ad' (ax_fv M' ty b k) = ax_v ad (ax_fv M ty b k) := fun ty k => by
    cases ty <;> simp only [ax_fv, hi, hl, ax_v_rf, er, ax_v]
  have ep : ∀ ty, ax_py M' ad' ty b = ax_py M ad ty b := fun ty => by
    cases ty <;> simp only [ax_py, ei, el, er]
  unfold ax_c1
  rw [hs]
  generalize (ax_s M b).getD (.inl 0) = x
  cases x with
  | inl ci =>
    simp only [ax_ce, ax_fs]
    congr 2
    exact List.map_congr_left (fun k _ => ef _ k)
  | inr q =>
    obtain ⟨t, n⟩ := q
    simp only [ax_ce, ep]
/-- a write that leaves shapes and links alone -/
theorem ax_P.write {G : ax_G} {ad : Nat → Nat} {M M' : ax_M} {H1 : Heap} {dom : List Nat} {q a : Nat} {x : ax_X} {E : va_E} (hn : dom.Nodup) (hm : ∀ a, a ∈ dom ↔ ax_s M a ≠ none) (hc : ∀ a k b, a ∈ dom → ax_r M' a k = some b → b ∈ dom) (hq : dom[q]? = some a) (hs : ∀ b, ax_s M' b = ax_s M b) (hx : ax_s M a = some x)
    (hi : ∀ b j, b ≠ a → ax_i M' b j = ax_i M b j) (hl : ∀ b j, b ≠ a → ax_l M' b j = ax_l M b j) (hr : ∀ b j, b ≠ a → ax_r M' b j = ax_r M b j) (hE : E = ax_ce G ad M' a x) (hP : va_P (G.1, G.2.1) ax_cl ((ax_ls G ad M dom).set q (ad a, E)) H1) (hD : va_D (ax_A G) ((ax_ls G ad M dom).set q (ad a, E))) : ax_P G ad M' H1 := by
  have e := ax_ls_set (G := G) (ad := ad) (M := M) (M' := M') hn hq ((hs a).trans hx) (fun b hb => ax_c1_congr (fun j => hi b j hb) (fun j => hl b j hb) (fun j => hr b j hb) (hs b) (fun _ _ _ => rfl))
  rw [hE, e] at hP hD
  exact ⟨dom, hn, fun b => by rw [hs b]; exact hm b, hP, hD, hc⟩
theorem ax_ts_at {G : ax_G} {t : Nat} (h : t < ax_nt) : (ax_ts G)[t]? = some (G.2.2.1 t, ax_el t) := by simp [ax_ts, h]
def ax_ki (ci k : Nat) : Bool := match ax_ty ci k with
  | .long => false
  | .object _ => false
  | .array _ => false
  | .float => false
  | .double => false
  | _ => true
def ax_kl (ci k : Nat) : Bool := match ax_ty ci k with
  | .long => true
  | _ => false
def ax_kr (ci k : Nat) : Bool := match ax_ty ci k with
  | .object _ => true
  | .array _ => true
  | _ => false
theorem ax_ki_fv {ci k : Nat} (h : ax_ki ci k = true) (M : ax_M) (a j : Nat) : ax_fv M (ax_ty ci k) a j = ax_I (ax_i M a j) := by
  unfold ax_ki at h
  cases hty : ax_ty ci k <;> simp [hty] at h <;> rfl
theorem ax_kl_fv {ci k : Nat} (h : ax_kl ci k = true) (M : ax_M) (a j : Nat) : ax_fv M (ax_ty ci k) a j = ax_L (ax_l M a j) := by
  unfold ax_kl at h
  cases hty : ax_ty ci k <;> simp [hty] at h <;> rfl
theorem ax_kr_fv {ci k : Nat} (h : ax_kr ci k = true) (M : ax_M) (a j : Nat) : ax_fv M (ax_ty ci k) a j = ax_O (ax_r M a j) := by
  unfold ax_kr at h
  cases hty : ax_ty ci k <;> simp [hty] at h <;> rfl
theorem ax_nf_at {ci : Nat} {q : vw_C} (h : ax_cl[ci]? = some q) : ax_nf ci = q.2.2 := by simp [ax_nf, h]
