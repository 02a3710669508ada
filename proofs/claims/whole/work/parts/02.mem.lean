/-! THE MEMORY: ints, longs and references by id and place, and what an id is (inl: an object of a class; inr: an array of a kind and a length). Ids are mine; 'ad' takes an id to its cell. -/
abbrev ax_X : Type := Nat ⊕ Nat × Nat
abbrev ax_M : Type := (Nat → Nat → Int32) × (Nat → Nat → Int64) × (Nat → Nat → Option Nat) × (Nat → Option ax_X)
def ax_i (M : ax_M) (a k : Nat) : Int32 := M.1 a k
def ax_l (M : ax_M) (a k : Nat) : Int64 := M.2.1 a k
def ax_r (M : ax_M) (a k : Nat) : Option Nat := M.2.2.1 a k
def ax_s (M : ax_M) (a : Nat) : Option ax_X := M.2.2.2 a
def ax_wi (M : ax_M) (a k : Nat) (v : Int32) : ax_M := (fun b j => if b = a ∧ j = k then v else M.1 b j, M.2.1, M.2.2.1, M.2.2.2)
def ax_wl (M : ax_M) (a k : Nat) (v : Int64) : ax_M := (M.1, fun b j => if b = a ∧ j = k then v else M.2.1 b j, M.2.2.1, M.2.2.2)
def ax_wr (M : ax_M) (a k : Nat) (v : Option Nat) : ax_M := (M.1, M.2.1, fun b j => if b = a ∧ j = k then v else M.2.2.1 b j, M.2.2.2)
/-- a new cell -/
def ax_wn (M : ax_M) (a : Nat) (x : ax_X) : ax_M := (fun b j => if b = a then 0 else M.1 b j, fun b j => if b = a then 0 else M.2.1 b j, fun b j => if b = a then none else M.2.2.1 b j, fun b => if b = a then some x else M.2.2.2 b)
/-- a cell is forgotten -/
def ax_wd (M : ax_M) (a : Nat) : ax_M := (M.1, M.2.1, M.2.2.1, fun b => if b = a then none else M.2.2.2 b)
/-- ints are copied from an array to another -/
def ax_wc (M : ax_M) (a b sp dp n : Nat) : ax_M := (fun q j => if q = b then va_cpy (M.1 a) (M.1 b) sp dp n j else M.1 q j, M.2.1, M.2.2.1, M.2.2.2)
section
variable (M : ax_M) (a b k j : Nat)
theorem ax_i_wi (v : Int32) : ax_i (ax_wi M a k v) b j = if b = a ∧ j = k then v else ax_i M b j := rfl
theorem ax_l_wi (v : Int32) : ax_l (ax_wi M a k v) b j = ax_l M b j := rfl
theorem ax_r_wi (v : Int32) : ax_r (ax_wi M a k v) b j = ax_r M b j := rfl
theorem ax_s_wi (v : Int32) : ax_s (ax_wi M a k v) b = ax_s M b := rfl
theorem ax_i_wl (v : Int64) : ax_i (ax_wl M a k v) b j = ax_i M b j := rfl
theorem ax_l_wl (v : Int64) : ax_l (ax_wl M a k v) b j = if b = a ∧ j = k then v else ax_l M b j := rfl
theorem ax_r_wl (v : Int64) : ax_r (ax_wl M a k v) b j = ax_r M b j := rfl
theorem ax_s_wl (v : Int64) : ax_s (ax_wl M a k v) b = ax_s M b := rfl
theorem ax_i_wr (v : Option Nat) : ax_i (ax_wr M a k v) b j = ax_i M b j := rfl
theorem ax_l_wr (v : Option Nat) : ax_l (ax_wr M a k v) b j = ax_l M b j := rfl
theorem ax_r_wr (v : Option Nat) : ax_r (ax_wr M a k v) b j = if b = a ∧ j = k then v else ax_r M b j := rfl
theorem ax_s_wr (v : Option Nat) : ax_s (ax_wr M a k v) b = ax_s M b := rfl
theorem ax_i_wn (x : ax_X) : ax_i (ax_wn M a x) b j = if b = a then 0 else ax_i M b j := rfl
theorem ax_l_wn (x : ax_X) : ax_l (ax_wn M a x) b j = if b = a then 0 else ax_l M b j := rfl
theorem ax_r_wn (x : ax_X) : ax_r (ax_wn M a x) b j = if b = a then none else ax_r M b j := rfl
theorem ax_s_wn (x : ax_X) : ax_s (ax_wn M a x) b = if b = a then some x else ax_s M b := rfl
theorem ax_i_wd : ax_i (ax_wd M a) b j = ax_i M b j := rfl
theorem ax_l_wd : ax_l (ax_wd M a) b j = ax_l M b j := rfl
theorem ax_r_wd : ax_r (ax_wd M a) b j = ax_r M b j := rfl
theorem ax_s_wd : ax_s (ax_wd M a) b = if b = a then none else ax_s M b := rfl
theorem ax_i_wc (sp dp n : Nat) : ax_i (ax_wc M a k sp dp n) b j = if b = k then va_cpy (ax_i M a) (ax_i M k) sp dp n j else ax_i M b j := rfl
theorem ax_l_wc (sp dp n : Nat) : ax_l (ax_wc M a k sp dp n) b j = ax_l M b j := rfl
theorem ax_r_wc (sp dp n : Nat) : ax_r (ax_wc M a k sp dp n) b j = ax_r M b j := rfl
theorem ax_s_wc (sp dp n : Nat) : ax_s (ax_wc M a k sp dp n) b = ax_s M b := rfl
end
/-- an object of class ci -/
def ax_ob (M : ax_M) (ci : Nat) (o : Option Nat) : Option Nat := o.bind fun a => if ax_s M a = some (.inl ci) then some a else none
/-- a place in an array of kind t -/
def ax_ix (M : ax_M) (t : Nat) (o : Option Nat) (i : Int32) : Option (Nat × Nat) := o.bind fun a => match ax_s M a with
  | some (.inr (t', n)) => if t' = t ∧ ¬ (i < 0 ∨ n ≤ i.toNatClampNeg) then some (a, i.toNatClampNeg) else none
  | _ => none
theorem ax_ob_some {M : ax_M} {ci a : Nat} (h : ax_s M a = some (.inl ci)) : ax_ob M ci (some a) = some a := by simp [ax_ob, h]
theorem ax_ob_inv {M : ax_M} {ci a : Nat} {o : Option Nat} (h : ax_ob M ci o = some a) : o = some a ∧ ax_s M a = some (.inl ci) := by
  cases o with
  | none => simp [ax_ob] at h
  | some b =>
    by_cases hb : ax_s M b = some (.inl ci)
    · simp [ax_ob, hb] at h
      subst h
      exact ⟨rfl, hb⟩
    · simp [ax_ob, hb] at h
theorem ax_ix_some {M : ax_M} {t a n : Nat} {i : Int32} (h : ax_s M a = some (.inr (t, n))) (hi : vp_in i n) : ax_ix M t (some a) i = some (a, i.toNatClampNeg) := by
  have hi' : ¬ (i < 0 ∨ n ≤ i.toNatClampNeg) := hi
  simp only [ax_ix, Option.bind_some, h]
  rw [if_pos ⟨trivial, hi'⟩]
theorem ax_ix_inv {M : ax_M} {t : Nat} {o : Option Nat} {i : Int32} {q : Nat × Nat} (h : ax_ix M t o i = some q) : ∃ n, o = some q.1 ∧ ax_s M q.1 = some (.inr (t, n)) ∧ vp_in i n ∧ q.2 = i.toNatClampNeg := by
  cases o with
  | none => simp [ax_ix] at h
  | some b =>
    simp only [ax_ix, Option.bind_some] at h
    split at h
    · next t' n hs =>
      by_cases hc : t' = t ∧ ¬ (i < 0 ∨ n ≤ i.toNatClampNeg)
      · rw [if_pos hc] at h
        cases h
        obtain ⟨rfl, h2⟩ := hc
        exact ⟨n, rfl, hs, h2, rfl⟩
      · rw [if_neg hc] at h
        cases h
    · cases h
theorem ax_bd {α β : Type} {x : Option α} {f : α → Option β} {r : β} (h : x.bind f = some r) : ∃ a, x = some a ∧ f a = some r := Option.bind_eq_some_iff.mp h
/-! reads and writes, each with its own guard -/
def ax_gi (M : ax_M) (ci k : Nat) (o : Option Nat) : Option Int32 := (ax_ob M ci o).map fun a => ax_i M a k
def ax_gl (M : ax_M) (ci k : Nat) (o : Option Nat) : Option Int64 := (ax_ob M ci o).map fun a => ax_l M a k
def ax_gr (M : ax_M) (ci k : Nat) (o : Option Nat) : Option (Option Nat) := (ax_ob M ci o).map fun a => ax_r M a k
def ax_pi (M : ax_M) (ci k : Nat) (o : Option Nat) (v : Int32) : Option ax_M := (ax_ob M ci o).map fun a => ax_wi M a k v
def ax_pl (M : ax_M) (ci k : Nat) (o : Option Nat) (v : Int64) : Option ax_M := (ax_ob M ci o).map fun a => ax_wl M a k v
/-- what may be written as a reference: null, or something that is there -/
def ax_lk (M : ax_M) (v : Option Nat) : Bool := match v with
  | none => true
  | some b => (ax_s M b).isSome
def ax_pr (M : ax_M) (ci k : Nat) (o v : Option Nat) : Option ax_M := if ax_lk M v = true then (ax_ob M ci o).map fun a => ax_wr M a k v else none
def ax_ri (M : ax_M) (t : Nat) (o : Option Nat) (i : Int32) : Option Int32 := (ax_ix M t o i).map fun q => ax_i M q.1 q.2
def ax_rl (M : ax_M) (t : Nat) (o : Option Nat) (i : Int32) : Option Int64 := (ax_ix M t o i).map fun q => ax_l M q.1 q.2
def ax_rr (M : ax_M) (t : Nat) (o : Option Nat) (i : Int32) : Option (Option Nat) := (ax_ix M t o i).map fun q => ax_r M q.1 q.2
def ax_ti (M : ax_M) (t : Nat) (o : Option Nat) (i v : Int32) : Option ax_M := (ax_ix M t o i).map fun q => ax_wi M q.1 q.2 v
def ax_tl (M : ax_M) (t : Nat) (o : Option Nat) (i : Int32) (v : Int64) : Option ax_M := (ax_ix M t o i).map fun q => ax_wl M q.1 q.2 v
/-- a reference into an array of objects of class ci -/
def ax_tr (M : ax_M) (t ci : Nat) (o : Option Nat) (i : Int32) (v : Option Nat) : Option ax_M := (ax_ob M ci v).bind fun _ => (ax_ix M t o i).map fun q => ax_wr M q.1 q.2 v
def ax_al (M : ax_M) (t : Nat) (o : Option Nat) : Option Int32 := o.bind fun a => match ax_s M a with
  | some (.inr (t', n)) => if t' = t then some (Int32.ofNat n) else none
  | _ => none
/-- ints are copied, all within -/
def ax_cp (M : ax_M) (t : Nat) (a : Option Nat) (sp : Int32) (b : Option Nat) (dp n : Int32) : Option ax_M := a.bind fun a => b.bind fun b => match ax_s M a, ax_s M b with
  | some (.inr (t0, n0)), some (.inr (t1, n1)) => if t0 = t ∧ t1 = t ∧ ¬ sp < 0 ∧ ¬ dp < 0 ∧ ¬ n < 0 ∧ sp.toNatClampNeg + n.toNatClampNeg ≤ n0 ∧ dp.toNatClampNeg + n.toNatClampNeg ≤ n1 then some (ax_wc M a b sp.toNatClampNeg dp.toNatClampNeg n.toNatClampNeg) else none
  | _, _ => none
theorem ax_al_inv {M : ax_M} {t : Nat} {o : Option Nat} {x : Int32} (h : ax_al M t o = some x) : ∃ a n, o = some a ∧ ax_s M a = some (.inr (t, n)) ∧ x = Int32.ofNat n := by
  cases o with
  | none => simp [ax_al] at h
  | some b =>
    simp only [ax_al, Option.bind_some] at h
    split at h
    · next t' n hs =>
      by_cases hc : t' = t
      · rw [if_pos hc] at h
        cases h
        exact ⟨b, n, rfl, by rw [hs, hc], rfl⟩
      · rw [if_neg hc] at h
        cases h
    · cases h
