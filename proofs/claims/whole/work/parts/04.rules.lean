/-! MY OWN JUDGEMENT: the machine at a program counter, locals and stack as values with ids, the memory; it comes to Q -/
abbrev ax_Z : Type := Program × Launch × Env × Room × State × MethodId × Array Value × List Frame × Method × Code × ax_G × Nat × (State → Prop)
abbrev ax_B (Z : ax_Z) (own : String) (cc : ByteArray) (ret : Option FieldType) : Prop :=
  Z.1.tables.exec = Jvm.exec ∧ Z.2.2.2.2.2.2.2.2.2.1.code = cc ∧ Z.2.2.2.2.2.2.2.2.2.1.maxLocals = Z.2.2.2.2.2.2.2.2.2.2.2.1 ∧ Z.2.2.2.2.2.2.2.2.1.sig.returnType = ret ∧ (∀ w ∈ ax_ws, w.before Z.2.2.2.2.2.2.1 Z.2.2.2.2.1 = true) ∧ Z.2.2.2.2.1.vm.findClass own = some Z.2.2.2.2.2.1.cls ∧ Z.2.2.2.2.2.2.2.2.1.locks = false ∧ ax_K Z.2.2.2.2.2.2.2.2.2.2.1 Z.2.2.2.2.1 ∧ Z.2.2.2.2.2.2.2.2.2.2.1.2.2.2 ≤ Z.2.2.2.2.1.heap.size
def ax_lv (ad : Nat → Nat) (lv : List (Nat × ax_U)) : List (Nat × Value) := lv.map fun q => (q.1, ax_v ad q.2)
def ax_W (Z : ax_Z) (ad : Nat → Nat) (cells slots pc : Nat) (lv : List (Nat × ax_U)) (st : List ax_U) (M : ax_M) : Prop :=
  ∀ (H : Heap) (locs : List Loc) (ls : Array Slot), lv_has ls Z.2.2.2.2.2.2.2.2.2.2.2.1 (ax_lv ad lv) → ax_P Z.2.2.2.2.2.2.2.2.2.2.1 ad M H → va_S (ax_A Z.2.2.2.2.2.2.2.2.2.2.1) Z.2.2.2.2.1.heap H locs → W Z.1 Z.2.1 Z.2.2.1 Z.2.2.2.1 Z.2.2.2.2.1 Z.2.2.2.2.2.1 Z.2.2.2.2.2.2.1 Z.2.2.2.2.2.2.2.1 Z.2.2.2.2.2.2.2.2.1 Z.2.2.2.2.2.2.2.2.2.1 H locs cells slots Z.2.2.2.2.2.2.2.2.2.2.2.2 (F0 Z.2.2.2.2.2.1 pc ls (st.map (ax_v ad)))
theorem ax_updI (M : ax_M) (a k : Nat) (v : Int32) : upd (ax_i M a) k v = ax_i (ax_wi M a k v) a := by
  funext j
  simp [upd, ax_i_wi]
theorem ax_updL (M : ax_M) (a k : Nat) (v : Int64) : vp_updL (ax_l M a) k v = ax_l (ax_wl M a k v) a := by
  funext j
  simp [vp_updL, ax_l_wl]
theorem ax_lv_at {ad : Nat → Nat} {lv : List (Nat × ax_U)} {j i : Nat} {v : ax_U} (h : lv[j]? = some (i, v)) : (ax_lv ad lv)[j]? = some (i, ax_v ad v) := by simp [ax_lv, h]
theorem ax_lv_flt {ad : Nat → Nat} {lv : List (Nat × ax_U)} {F : Nat × Value → Bool} {F' : Nat × ax_U → Bool} (hF : ∀ q : Nat × ax_U, F (q.1, ax_v ad q.2) = F' q) : (ax_lv ad lv).filter F = ax_lv ad (lv.filter F') := by
  unfold ax_lv
  rw [List.filter_map]
  congr 1
  apply List.filter_congr
  intro q _
  exact hF q
theorem ax_lv_st1 {ad : Nat → Nat} {lv lv' : List (Nat × ax_U)} {i : Nat} {v : ax_U} (h : (i, v) :: lv.filter (fun q => !(q.1 == i) && !(q.1 + 1 == i && ax_ct q.2 == 2)) = lv') : (i, ax_v ad v) :: (ax_lv ad lv).filter (fun q => !(q.1 == i) && !(q.1 + 1 == i && q.2.category == 2)) = ax_lv ad lv' := by
  subst h
  rw [ax_lv_flt (F' := fun q => !(q.1 == i) && !(q.1 + 1 == i && ax_ct q.2 == 2)) (fun q => by simp only [ax_v_cat])]
  rfl
theorem ax_lv_st2 {ad : Nat → Nat} {lv lv' : List (Nat × ax_U)} {i : Nat} {v : ax_U} (h : (i, v) :: lv.filter (fun q => !(q.1 == i) && (!(q.1 == i + 1) && !(q.1 + 1 == i && ax_ct q.2 == 2))) = lv') : (i, ax_v ad v) :: (ax_lv ad lv).filter (fun q => !(q.1 == i) && (!(q.1 == i + 1) && !(q.1 + 1 == i && q.2.category == 2))) = ax_lv ad lv' := by
  subst h
  rw [ax_lv_flt (F' := fun q => !(q.1 == i) && (!(q.1 == i + 1) && !(q.1 + 1 == i && ax_ct q.2 == 2))) (fun q => by simp only [ax_v_cat])]
  rfl
def ax_pk (l : List (Nat × ax_U)) (ks : List Nat) : List (Nat × ax_U) := ks.filterMap (fun k => l[k]?)
theorem ax_lv_pick {ad : Nat → Nat} {lv lv' : List (Nat × ax_U)} {ks : List Nat} (h : ax_pk lv ks = lv') : lv_pick (ax_lv ad lv) ks = ax_lv ad lv' := by
  subst h
  induction ks with
  | nil => rfl
  | cons k ks ih =>
    simp only [lv_pick, ax_pk, List.filterMap_cons] at ih ⊢
    cases hk : lv[k]? with
    | none => simp [ax_lv, hk] at ih ⊢; exact ih
    | some q => simp [ax_lv, hk] at ih ⊢; exact ih
section
variable {Z : ax_Z} {own : String} {cc : ByteArray} {ret : Option FieldType} {ad : Nat → Nat} {cells slots pc : Nat} {lv : List (Nat × ax_U)} {st : List ax_U} {M : ax_M}
theorem ax_iconst (B : ax_B Z own cc ret) {n : Int} {v : Int32} (hv : Int32.ofInt n = v) (hd : decode cc pc = .ok (.iconst n, 1)) (k : ax_W Z ad cells slots (pc + 1) lv (ax_I v :: st) M) : ax_W Z ad cells slots (pc) lv (st) M := fun H locs ls h1 h2 h3 => lv_iconst B.1 B.2.1 hd hv (k H locs ls h1 h2 h3)
theorem ax_bipush (B : ax_B Z own cc ret) {n : Int} {v : Int32} (hv : (Int8.ofInt n).toInt32 = v) (hd : decode cc pc = .ok (.bipush n, 2)) (k : ax_W Z ad cells slots (pc + 2) lv (ax_I v :: st) M) : ax_W Z ad cells slots (pc) lv (st) M := fun H locs ls h1 h2 h3 => lv_bipush B.1 B.2.1 hd hv (k H locs ls h1 h2 h3)
theorem ax_sipush (B : ax_B Z own cc ret) {n : Int} {v : Int32} (hv : (Int16.ofInt n).toInt32 = v) (hd : decode cc pc = .ok (.sipush n, 3)) (k : ax_W Z ad cells slots (pc + 3) lv (ax_I v :: st) M) : ax_W Z ad cells slots (pc) lv (st) M := fun H locs ls h1 h2 h3 => lv_sipush B.1 B.2.1 hd hv (k H locs ls h1 h2 h3)
theorem ax_lconst (B : ax_B Z own cc ret) {n : Fin 2} {v : Int64} (hv : Int64.ofNat (n : Nat) = v) (hd : decode cc pc = .ok (.lconst n, 1)) (k : ax_W Z ad cells slots (pc + 1) lv (ax_L v :: st) M) : ax_W Z ad cells slots (pc) lv (st) M := fun H locs ls h1 h2 h3 => lv_lconst B.1 B.2.1 hd hv (k H locs ls h1 h2 h3)
theorem ax_null (B : ax_B Z own cc ret)  (hd : decode cc pc = .ok (.aconst_null, 1)) (k : ax_W Z ad cells slots (pc + 1) lv (ax_O none :: st) M) : ax_W Z ad cells slots (pc) lv (st) M := fun H locs ls h1 h2 h3 => lv_null B.1 B.2.1 hd (k H locs ls h1 h2 h3)
theorem ax_ldc (B : ax_B Z own cc ret) {idx : Nat} {v : Int32} (hw : Cond.constant own idx v ∈ ax_ws) (hd : decode cc pc = .ok (.ldc idx, 2)) (k : ax_W Z ad cells slots (pc + 2) lv (ax_I v :: st) M) : ax_W Z ad cells slots (pc) lv (st) M := fun H locs ls h1 h2 h3 => lv_ldc B.1 B.2.1 B.2.2.2.2.2.1 (B.2.2.2.2.1 _ hw) hd (k H locs ls h1 h2 h3)
theorem ax_ldc2 (B : ax_B Z own cc ret) {idx : Nat} {v : Int64} (hw : Cond.constantLong own idx v ∈ ax_ws) (hd : decode cc pc = .ok (.ldc2_w idx, 3)) (k : ax_W Z ad cells slots (pc + 3) lv (ax_L v :: st) M) : ax_W Z ad cells slots (pc) lv (st) M := fun H locs ls h1 h2 h3 => lv_ldc2 B.1 B.2.1 B.2.2.2.2.2.1 (B.2.2.2.2.1 _ hw) hd (k H locs ls h1 h2 h3)
theorem ax_iload_n (B : ax_B Z own cc ret) {f : Fin 4} {i j : Nat} {x : Int32} (hd : decode cc pc = .ok (.iload_n f, 1)) (hi : (f : Nat) = i) (hk : lv[j]? = some (i, ax_I x)) (k : ax_W Z ad cells slots (pc + 1) lv (ax_I x :: st) M) : ax_W Z ad cells slots (pc) lv (st) M := fun H locs ls h1 h2 h3 => lv_iload_n B.1 B.2.1 hd hi (lv_at h1 j (ax_lv_at hk)) (k H locs ls h1 h2 h3)
theorem ax_iload (B : ax_B Z own cc ret) {i j : Nat} {x : Int32} (hd : decode cc pc = .ok (.iload i, 2)) (hk : lv[j]? = some (i, ax_I x)) (k : ax_W Z ad cells slots (pc + 2) lv (ax_I x :: st) M) : ax_W Z ad cells slots (pc) lv (st) M := fun H locs ls h1 h2 h3 => lv_iload B.1 B.2.1 hd (lv_at h1 j (ax_lv_at hk)) (k H locs ls h1 h2 h3)
theorem ax_lload_n (B : ax_B Z own cc ret) {f : Fin 4} {i j : Nat} {x : Int64} (hd : decode cc pc = .ok (.lload_n f, 1)) (hi : (f : Nat) = i) (hk : lv[j]? = some (i, ax_L x)) (k : ax_W Z ad cells slots (pc + 1) lv (ax_L x :: st) M) : ax_W Z ad cells slots (pc) lv (st) M := fun H locs ls h1 h2 h3 => lv_lload_n B.1 B.2.1 hd hi (lv_at h1 j (ax_lv_at hk)) (k H locs ls h1 h2 h3)
theorem ax_lload (B : ax_B Z own cc ret) {i j : Nat} {x : Int64} (hd : decode cc pc = .ok (.lload i, 2)) (hk : lv[j]? = some (i, ax_L x)) (k : ax_W Z ad cells slots (pc + 2) lv (ax_L x :: st) M) : ax_W Z ad cells slots (pc) lv (st) M := fun H locs ls h1 h2 h3 => lv_lload B.1 B.2.1 hd (lv_at h1 j (ax_lv_at hk)) (k H locs ls h1 h2 h3)
theorem ax_aload_n (B : ax_B Z own cc ret) {f : Fin 4} {i j : Nat} {x : Option Nat} (hd : decode cc pc = .ok (.aload_n f, 1)) (hi : (f : Nat) = i) (hk : lv[j]? = some (i, ax_O x)) (k : ax_W Z ad cells slots (pc + 1) lv (ax_O x :: st) M) : ax_W Z ad cells slots (pc) lv (st) M := by
  intro H locs ls h1 h2 h3
  have e := lv_at h1 j (ax_lv_at hk)
  cases x with
  | none => exact lv_aload_nN B.1 B.2.1 hd hi e (k H locs ls h1 h2 h3)
  | some a => exact lv_aload_n B.1 B.2.1 hd hi e (k H locs ls h1 h2 h3)
theorem ax_aload (B : ax_B Z own cc ret) {i j : Nat} {x : Option Nat} (hd : decode cc pc = .ok (.aload i, 2)) (hk : lv[j]? = some (i, ax_O x)) (k : ax_W Z ad cells slots (pc + 2) lv (ax_O x :: st) M) : ax_W Z ad cells slots (pc) lv (st) M := by
  intro H locs ls h1 h2 h3
  have e := lv_at h1 j (ax_lv_at hk)
  cases x with
  | none => exact lv_aloadN B.1 B.2.1 hd e (k H locs ls h1 h2 h3)
  | some a => exact lv_aload B.1 B.2.1 hd e (k H locs ls h1 h2 h3)
theorem ax_istore_n (B : ax_B Z own cc ret) {f : Fin 4} {i : Nat} {x : Int32} {lv' : List (Nat × ax_U)} (hd : decode cc pc = .ok (.istore_n f, 1)) (hi : (f : Nat) = i) (hn : i < Z.2.2.2.2.2.2.2.2.2.2.2.1) (hl : (i, ax_I x) :: lv.filter (fun q => !(q.1 == i) && !(q.1 + 1 == i && ax_ct q.2 == 2)) = lv') (k : ax_W Z ad cells slots (pc + 1) lv' (st) M) : ax_W Z ad cells slots (pc) lv (ax_I x :: st) M := fun H locs ls h1 h2 h3 => lv_istore_n B.1 B.2.1 hd hi h1 hn (ax_lv_st1 hl) (fun ls' h => k H locs ls' h h2 h3)
theorem ax_istore (B : ax_B Z own cc ret) {i : Nat} {x : Int32} {lv' : List (Nat × ax_U)} (hd : decode cc pc = .ok (.istore i, 2)) (hn : i < Z.2.2.2.2.2.2.2.2.2.2.2.1) (hl : (i, ax_I x) :: lv.filter (fun q => !(q.1 == i) && !(q.1 + 1 == i && ax_ct q.2 == 2)) = lv') (k : ax_W Z ad cells slots (pc + 2) lv' (st) M) : ax_W Z ad cells slots (pc) lv (ax_I x :: st) M := fun H locs ls h1 h2 h3 => lv_istore B.1 B.2.1 hd h1 hn (ax_lv_st1 hl) (fun ls' h => k H locs ls' h h2 h3)
theorem ax_lstore_n (B : ax_B Z own cc ret) {f : Fin 4} {i : Nat} {x : Int64} {lv' : List (Nat × ax_U)} (hd : decode cc pc = .ok (.lstore_n f, 1)) (hi : (f : Nat) = i) (hn : i + 1 < Z.2.2.2.2.2.2.2.2.2.2.2.1) (hl : (i, ax_L x) :: lv.filter (fun q => !(q.1 == i) && (!(q.1 == i + 1) && !(q.1 + 1 == i && ax_ct q.2 == 2))) = lv') (k : ax_W Z ad cells slots (pc + 1) lv' (st) M) : ax_W Z ad cells slots (pc) lv (ax_L x :: st) M := fun H locs ls h1 h2 h3 => lv_lstore_n B.1 B.2.1 hd hi h1 hn (ax_lv_st2 hl) (fun ls' h => k H locs ls' h h2 h3)
theorem ax_lstore (B : ax_B Z own cc ret) {i : Nat} {x : Int64} {lv' : List (Nat × ax_U)} (hd : decode cc pc = .ok (.lstore i, 2)) (hn : i + 1 < Z.2.2.2.2.2.2.2.2.2.2.2.1) (hl : (i, ax_L x) :: lv.filter (fun q => !(q.1 == i) && (!(q.1 == i + 1) && !(q.1 + 1 == i && ax_ct q.2 == 2))) = lv') (k : ax_W Z ad cells slots (pc + 2) lv' (st) M) : ax_W Z ad cells slots (pc) lv (ax_L x :: st) M := fun H locs ls h1 h2 h3 => lv_lstore B.1 B.2.1 hd h1 hn (ax_lv_st2 hl) (fun ls' h => k H locs ls' h h2 h3)
theorem ax_astore_n (B : ax_B Z own cc ret) {f : Fin 4} {i : Nat} {x : Option Nat} {lv' : List (Nat × ax_U)} (hd : decode cc pc = .ok (.astore_n f, 1)) (hi : (f : Nat) = i) (hn : i < Z.2.2.2.2.2.2.2.2.2.2.2.1) (hl : (i, ax_O x) :: lv.filter (fun q => !(q.1 == i) && !(q.1 + 1 == i && ax_ct q.2 == 2)) = lv') (k : ax_W Z ad cells slots (pc + 1) lv' (st) M) : ax_W Z ad cells slots (pc) lv (ax_O x :: st) M := by
  intro H locs ls h1 h2 h3
  cases x with
  | none => exact lv_astore_nN B.1 B.2.1 hd hi h1 hn (ax_lv_st1 hl) (fun ls' h => k H locs ls' h h2 h3)
  | some a => exact lv_astore_n B.1 B.2.1 hd hi h1 hn (ax_lv_st1 hl) (fun ls' h => k H locs ls' h h2 h3)
theorem ax_astore (B : ax_B Z own cc ret) {i : Nat} {x : Option Nat} {lv' : List (Nat × ax_U)} (hd : decode cc pc = .ok (.astore i, 2)) (hn : i < Z.2.2.2.2.2.2.2.2.2.2.2.1) (hl : (i, ax_O x) :: lv.filter (fun q => !(q.1 == i) && !(q.1 + 1 == i && ax_ct q.2 == 2)) = lv') (k : ax_W Z ad cells slots (pc + 2) lv' (st) M) : ax_W Z ad cells slots (pc) lv (ax_O x :: st) M := by
  intro H locs ls h1 h2 h3
  cases x with
  | none => exact lv_astoreN B.1 B.2.1 hd h1 hn (ax_lv_st1 hl) (fun ls' h => k H locs ls' h h2 h3)
  | some a => exact lv_astore B.1 B.2.1 hd h1 hn (ax_lv_st1 hl) (fun ls' h => k H locs ls' h h2 h3)
theorem ax_iinc (B : ax_B Z own cc ret) {i j : Nat} {n : Int} {x v : Int32} {lv' : List (Nat × ax_U)} (hd : decode cc pc = .ok (.iinc i n, 3)) (hk : lv[j]? = some (i, ax_I x)) (hv : x + Int32.ofInt n = v) (hn : i < Z.2.2.2.2.2.2.2.2.2.2.2.1) (hl : (i, ax_I v) :: lv.filter (fun q => !(q.1 == i) && !(q.1 + 1 == i && ax_ct q.2 == 2)) = lv') (k : ax_W Z ad cells slots (pc + 3) lv' (st) M) : ax_W Z ad cells slots (pc) lv (st) M := fun H locs ls h1 h2 h3 => lv_iinc B.1 B.2.1 hd h1 (ax_lv_at hk) hv hn (ax_lv_st1 hl) (fun ls' h => k H locs ls' h h2 h3)
theorem ax_sub {lv' : List (Nat × ax_U)} (ks : List Nat) (hl : ax_pk lv ks = lv') (k : ax_W Z ad cells slots (pc) lv' (st) M) : ax_W Z ad cells slots (pc) lv (st) M := fun H locs ls h1 h2 h3 => k H locs ls (lv_sub h1 ks (ax_lv_pick hl)) h2 h3
theorem ax_iadd (B : ax_B Z own cc ret) {x y : Int32} (hd : decode cc pc = .ok (.iadd, 1)) (k : ax_W Z ad cells slots (pc + 1) lv (ax_I (x + y) :: st) M) : ax_W Z ad cells slots (pc) lv (ax_I y :: ax_I x :: st) M := fun H locs ls h1 h2 h3 => lv_iadd B.1 B.2.1 hd (k H locs ls h1 h2 h3)
theorem ax_isub (B : ax_B Z own cc ret) {x y : Int32} (hd : decode cc pc = .ok (.isub, 1)) (k : ax_W Z ad cells slots (pc + 1) lv (ax_I (x - y) :: st) M) : ax_W Z ad cells slots (pc) lv (ax_I y :: ax_I x :: st) M := fun H locs ls h1 h2 h3 => lv_isub B.1 B.2.1 hd (k H locs ls h1 h2 h3)
theorem ax_imul (B : ax_B Z own cc ret) {x y : Int32} (hd : decode cc pc = .ok (.imul, 1)) (k : ax_W Z ad cells slots (pc + 1) lv (ax_I (x * y) :: st) M) : ax_W Z ad cells slots (pc) lv (ax_I y :: ax_I x :: st) M := fun H locs ls h1 h2 h3 => lv_imul B.1 B.2.1 hd (k H locs ls h1 h2 h3)
theorem ax_iand (B : ax_B Z own cc ret) {x y : Int32} (hd : decode cc pc = .ok (.iand, 1)) (k : ax_W Z ad cells slots (pc + 1) lv (ax_I (x &&& y) :: st) M) : ax_W Z ad cells slots (pc) lv (ax_I y :: ax_I x :: st) M := fun H locs ls h1 h2 h3 => lv_iand B.1 B.2.1 hd (k H locs ls h1 h2 h3)
theorem ax_ior (B : ax_B Z own cc ret) {x y : Int32} (hd : decode cc pc = .ok (.ior, 1)) (k : ax_W Z ad cells slots (pc + 1) lv (ax_I (x ||| y) :: st) M) : ax_W Z ad cells slots (pc) lv (ax_I y :: ax_I x :: st) M := fun H locs ls h1 h2 h3 => lv_ior B.1 B.2.1 hd (k H locs ls h1 h2 h3)
theorem ax_ixor (B : ax_B Z own cc ret) {x y : Int32} (hd : decode cc pc = .ok (.ixor, 1)) (k : ax_W Z ad cells slots (pc + 1) lv (ax_I (x ^^^ y) :: st) M) : ax_W Z ad cells slots (pc) lv (ax_I y :: ax_I x :: st) M := fun H locs ls h1 h2 h3 => lv_ixor B.1 B.2.1 hd (k H locs ls h1 h2 h3)
theorem ax_ishl (B : ax_B Z own cc ret) {x y : Int32} (hd : decode cc pc = .ok (.ishl, 1)) (k : ax_W Z ad cells slots (pc + 1) lv (ax_I (x <<< (y &&& 31)) :: st) M) : ax_W Z ad cells slots (pc) lv (ax_I y :: ax_I x :: st) M := fun H locs ls h1 h2 h3 => lv_ishl B.1 B.2.1 hd (k H locs ls h1 h2 h3)
theorem ax_ishr (B : ax_B Z own cc ret) {x y : Int32} (hd : decode cc pc = .ok (.ishr, 1)) (k : ax_W Z ad cells slots (pc + 1) lv (ax_I (x >>> (y &&& 31)) :: st) M) : ax_W Z ad cells slots (pc) lv (ax_I y :: ax_I x :: st) M := fun H locs ls h1 h2 h3 => lv_ishr B.1 B.2.1 hd (k H locs ls h1 h2 h3)
theorem ax_idiv (B : ax_B Z own cc ret) {x y : Int32} (hy : ¬ y = 0) (hd : decode cc pc = .ok (.idiv, 1)) (k : ax_W Z ad cells slots (pc + 1) lv (ax_I (x / y) :: st) M) : ax_W Z ad cells slots (pc) lv (ax_I y :: ax_I x :: st) M := fun H locs ls h1 h2 h3 => lv_idiv B.1 B.2.1 hd hy (k H locs ls h1 h2 h3)
theorem ax_irem (B : ax_B Z own cc ret) {x y : Int32} (hy : ¬ y = 0) (hd : decode cc pc = .ok (.irem, 1)) (k : ax_W Z ad cells slots (pc + 1) lv (ax_I (x - x / y * y) :: st) M) : ax_W Z ad cells slots (pc) lv (ax_I y :: ax_I x :: st) M := fun H locs ls h1 h2 h3 => lv_irem B.1 B.2.1 hd hy (k H locs ls h1 h2 h3)
theorem ax_lneg (B : ax_B Z own cc ret) {x : Int64} (hd : decode cc pc = .ok (.lneg, 1)) (k : ax_W Z ad cells slots (pc + 1) lv (ax_L (-x) :: st) M) : ax_W Z ad cells slots (pc) lv (ax_L x :: st) M := fun H locs ls h1 h2 h3 => lv_lneg B.1 B.2.1 hd (k H locs ls h1 h2 h3)
theorem ax_lshl (B : ax_B Z own cc ret) {x : Int64} {y : Int32} (hd : decode cc pc = .ok (.lshl, 1)) (k : ax_W Z ad cells slots (pc + 1) lv (ax_L (x <<< (y.toInt64 &&& 63)) :: st) M) : ax_W Z ad cells slots (pc) lv (ax_I y :: ax_L x :: st) M := fun H locs ls h1 h2 h3 => lv_lshl B.1 B.2.1 hd rfl (k H locs ls h1 h2 h3)
theorem ax_ineg (B : ax_B Z own cc ret) {x : Int32} (hd : decode cc pc = .ok (.ineg, 1)) (k : ax_W Z ad cells slots (pc + 1) lv (ax_I (-x) :: st) M) : ax_W Z ad cells slots (pc) lv (ax_I x :: st) M := fun H locs ls h1 h2 h3 => lv_ineg B.1 B.2.1 hd (k H locs ls h1 h2 h3)
theorem ax_ladd (B : ax_B Z own cc ret) {x y : Int64} (hd : decode cc pc = .ok (.ladd, 1)) (k : ax_W Z ad cells slots (pc + 1) lv (ax_L (x + y) :: st) M) : ax_W Z ad cells slots (pc) lv (ax_L y :: ax_L x :: st) M := fun H locs ls h1 h2 h3 => lv_ladd B.1 B.2.1 hd (k H locs ls h1 h2 h3)
theorem ax_lsub (B : ax_B Z own cc ret) {x y : Int64} (hd : decode cc pc = .ok (.lsub, 1)) (k : ax_W Z ad cells slots (pc + 1) lv (ax_L (x - y) :: st) M) : ax_W Z ad cells slots (pc) lv (ax_L y :: ax_L x :: st) M := fun H locs ls h1 h2 h3 => lv_lsub B.1 B.2.1 hd (k H locs ls h1 h2 h3)
theorem ax_lmul (B : ax_B Z own cc ret) {x y : Int64} (hd : decode cc pc = .ok (.lmul, 1)) (k : ax_W Z ad cells slots (pc + 1) lv (ax_L (x * y) :: st) M) : ax_W Z ad cells slots (pc) lv (ax_L y :: ax_L x :: st) M := fun H locs ls h1 h2 h3 => lv_lmul B.1 B.2.1 hd (k H locs ls h1 h2 h3)
theorem ax_land (B : ax_B Z own cc ret) {x y : Int64} (hd : decode cc pc = .ok (.land, 1)) (k : ax_W Z ad cells slots (pc + 1) lv (ax_L (x &&& y) :: st) M) : ax_W Z ad cells slots (pc) lv (ax_L y :: ax_L x :: st) M := fun H locs ls h1 h2 h3 => lv_land B.1 B.2.1 hd (k H locs ls h1 h2 h3)
theorem ax_lor (B : ax_B Z own cc ret) {x y : Int64} (hd : decode cc pc = .ok (.lor, 1)) (k : ax_W Z ad cells slots (pc + 1) lv (ax_L (x ||| y) :: st) M) : ax_W Z ad cells slots (pc) lv (ax_L y :: ax_L x :: st) M := fun H locs ls h1 h2 h3 => lv_lor B.1 B.2.1 hd (k H locs ls h1 h2 h3)
theorem ax_lxor (B : ax_B Z own cc ret) {x y : Int64} (hd : decode cc pc = .ok (.lxor, 1)) (k : ax_W Z ad cells slots (pc + 1) lv (ax_L (x ^^^ y) :: st) M) : ax_W Z ad cells slots (pc) lv (ax_L y :: ax_L x :: st) M := fun H locs ls h1 h2 h3 => lv_lxor B.1 B.2.1 hd (k H locs ls h1 h2 h3)
theorem ax_lushr (B : ax_B Z own cc ret) {x : Int64} {y : Int32} (hd : decode cc pc = .ok (.lushr, 1)) (k : ax_W Z ad cells slots (pc + 1) lv (ax_L (x.toUInt64 >>> (y.toInt64.toUInt64 &&& Int64.toUInt64 63)).toInt64 :: st) M) : ax_W Z ad cells slots (pc) lv (ax_I y :: ax_L x :: st) M := fun H locs ls h1 h2 h3 => lv_lushr B.1 B.2.1 hd rfl (k H locs ls h1 h2 h3)
theorem ax_i2l (B : ax_B Z own cc ret) {x : Int32} (hd : decode cc pc = .ok (.i2l, 1)) (k : ax_W Z ad cells slots (pc + 1) lv (ax_L x.toInt64 :: st) M) : ax_W Z ad cells slots (pc) lv (ax_I x :: st) M := fun H locs ls h1 h2 h3 => lv_i2l B.1 B.2.1 hd rfl (k H locs ls h1 h2 h3)
theorem ax_l2i (B : ax_B Z own cc ret) {x : Int64} (hd : decode cc pc = .ok (.l2i, 1)) (k : ax_W Z ad cells slots (pc + 1) lv (ax_I x.toInt32 :: st) M) : ax_W Z ad cells slots (pc) lv (ax_L x :: st) M := fun H locs ls h1 h2 h3 => lv_l2i B.1 B.2.1 hd rfl (k H locs ls h1 h2 h3)
theorem ax_lcmp (B : ax_B Z own cc ret) {x y : Int64} (hd : decode cc pc = .ok (.lcmp, 1)) (k : ax_W Z ad cells slots (pc + 1) lv (ax_I (lg_cmp x y) :: st) M) : ax_W Z ad cells slots (pc) lv (ax_L y :: ax_L x :: st) M := fun H locs ls h1 h2 h3 => W.lcmp B.1 B.2.1 hd (k H locs ls h1 h2 h3)
theorem ax_dup (B : ax_B Z own cc ret) {a : ax_U} (ha : ax_ct a = 1) (hd : decode cc pc = .ok (.dup, 1)) (k : ax_W Z ad cells slots (pc + 1) lv (a :: a :: st) M) : ax_W Z ad cells slots (pc) lv (a :: st) M := fun H locs ls h1 h2 h3 => lv_dup B.1 B.2.1 hd ((ax_v_cat ad a).trans ha) (k H locs ls h1 h2 h3)
theorem ax_pop (B : ax_B Z own cc ret) {a : ax_U} (ha : ax_ct a = 1) (hd : decode cc pc = .ok (.pop, 1)) (k : ax_W Z ad cells slots (pc + 1) lv (st) M) : ax_W Z ad cells slots (pc) lv (a :: st) M := fun H locs ls h1 h2 h3 => lv_pop B.1 B.2.1 hd ((ax_v_cat ad a).trans ha) (k H locs ls h1 h2 h3)
theorem ax_dup_x1 (B : ax_B Z own cc ret) {a b : ax_U} (ha : ax_ct a = 1) (hb : ax_ct b = 1) (hd : decode cc pc = .ok (.dup_x1, 1)) (k : ax_W Z ad cells slots (pc + 1) lv (a :: b :: a :: st) M) : ax_W Z ad cells slots (pc) lv (a :: b :: st) M := fun H locs ls h1 h2 h3 => lv_dup_x1 B.1 B.2.1 hd ((ax_v_cat ad a).trans ha) ((ax_v_cat ad b).trans hb) (k H locs ls h1 h2 h3)
theorem ax_dup_x2 (B : ax_B Z own cc ret) {a b d : ax_U} (ha : ax_ct a = 1) (hb : ax_ct b = 1) (hc : ax_ct d = 1) (hd : decode cc pc = .ok (.dup_x2, 1)) (k : ax_W Z ad cells slots (pc + 1) lv (a :: b :: d :: a :: st) M) : ax_W Z ad cells slots (pc) lv (a :: b :: d :: st) M := fun H locs ls h1 h2 h3 => lv_dup_x2 B.1 B.2.1 hd ((ax_v_cat ad a).trans ha) ((ax_v_cat ad b).trans hb) ((ax_v_cat ad d).trans hc) (k H locs ls h1 h2 h3)
theorem ax_dup2_11 (B : ax_B Z own cc ret) {a b : ax_U} (ha : ax_ct a = 1) (hb : ax_ct b = 1) (hd : decode cc pc = .ok (.dup2, 1)) (k : ax_W Z ad cells slots (pc + 1) lv (a :: b :: a :: b :: st) M) : ax_W Z ad cells slots (pc) lv (a :: b :: st) M := fun H locs ls h1 h2 h3 => lv_dup2_11 B.1 B.2.1 hd ((ax_v_cat ad a).trans ha) ((ax_v_cat ad b).trans hb) (k H locs ls h1 h2 h3)
theorem ax_dup2_2 (B : ax_B Z own cc ret) {a : ax_U} (ha : ax_ct a = 2) (hd : decode cc pc = .ok (.dup2, 1)) (k : ax_W Z ad cells slots (pc + 1) lv (a :: a :: st) M) : ax_W Z ad cells slots (pc) lv (a :: st) M := fun H locs ls h1 h2 h3 => lv_dup2_2 B.1 B.2.1 hd ((ax_v_cat ad a).trans ha) (k H locs ls h1 h2 h3)
theorem ax_pop2_2 (B : ax_B Z own cc ret) {a : ax_U} (ha : ax_ct a = 2) (hd : decode cc pc = .ok (.pop2, 1)) (k : ax_W Z ad cells slots (pc + 1) lv (st) M) : ax_W Z ad cells slots (pc) lv (a :: st) M := fun H locs ls h1 h2 h3 => lv_pop2_2 B.1 B.2.1 hd ((ax_v_cat ad a).trans ha) (k H locs ls h1 h2 h3)
theorem ax_if_eq (B : ax_B Z own cc ret) {x : Int32} {off : Int} {tgt : Nat} {β : Type} {P Q : Option β} {r : β} (hd : decode cc pc = .ok (.ifCond .eq off, 3)) (ht : (pc : Int) + off = (tgt : Int)) (hf : (if x = 0 then P else Q) = some r) (kt : P = some r → ax_W Z ad cells slots (tgt) lv (st) M) (kf : Q = some r → ax_W Z ad cells slots (pc + 3) lv (st) M) : ax_W Z ad cells slots (pc) lv (ax_I x :: st) M := fun H locs ls h1 h2 h3 => lv_if_eq B.1 B.2.1 hd ht (fun h => kt (by rw [if_pos h] at hf; exact hf) H locs ls h1 h2 h3) (fun h => kf (by rw [if_neg h] at hf; exact hf) H locs ls h1 h2 h3)
theorem ax_icmp_eq (B : ax_B Z own cc ret) {x y : Int32} {off : Int} {tgt : Nat} {β : Type} {P Q : Option β} {r : β} (hd : decode cc pc = .ok (.if_icmp .eq off, 3)) (ht : (pc : Int) + off = (tgt : Int)) (hf : (if x = y then P else Q) = some r) (kt : P = some r → ax_W Z ad cells slots (tgt) lv (st) M) (kf : Q = some r → ax_W Z ad cells slots (pc + 3) lv (st) M) : ax_W Z ad cells slots (pc) lv (ax_I y :: ax_I x :: st) M := fun H locs ls h1 h2 h3 => lv_icmp_eq B.1 B.2.1 hd ht (fun h => kt (by rw [if_pos h] at hf; exact hf) H locs ls h1 h2 h3) (fun h => kf (by rw [if_neg h] at hf; exact hf) H locs ls h1 h2 h3)
theorem ax_if_lt (B : ax_B Z own cc ret) {x : Int32} {off : Int} {tgt : Nat} {β : Type} {P Q : Option β} {r : β} (hd : decode cc pc = .ok (.ifCond .lt off, 3)) (ht : (pc : Int) + off = (tgt : Int)) (hf : (if x < 0 then P else Q) = some r) (kt : P = some r → ax_W Z ad cells slots (tgt) lv (st) M) (kf : Q = some r → ax_W Z ad cells slots (pc + 3) lv (st) M) : ax_W Z ad cells slots (pc) lv (ax_I x :: st) M := fun H locs ls h1 h2 h3 => lv_if_lt B.1 B.2.1 hd ht (fun h => kt (by rw [if_pos h] at hf; exact hf) H locs ls h1 h2 h3) (fun h => kf (by rw [if_neg h] at hf; exact hf) H locs ls h1 h2 h3)
theorem ax_icmp_lt (B : ax_B Z own cc ret) {x y : Int32} {off : Int} {tgt : Nat} {β : Type} {P Q : Option β} {r : β} (hd : decode cc pc = .ok (.if_icmp .lt off, 3)) (ht : (pc : Int) + off = (tgt : Int)) (hf : (if x < y then P else Q) = some r) (kt : P = some r → ax_W Z ad cells slots (tgt) lv (st) M) (kf : Q = some r → ax_W Z ad cells slots (pc + 3) lv (st) M) : ax_W Z ad cells slots (pc) lv (ax_I y :: ax_I x :: st) M := fun H locs ls h1 h2 h3 => lv_icmp_lt B.1 B.2.1 hd ht (fun h => kt (by rw [if_pos h] at hf; exact hf) H locs ls h1 h2 h3) (fun h => kf (by rw [if_neg h] at hf; exact hf) H locs ls h1 h2 h3)
theorem ax_if_ge (B : ax_B Z own cc ret) {x : Int32} {off : Int} {tgt : Nat} {β : Type} {P Q : Option β} {r : β} (hd : decode cc pc = .ok (.ifCond .ge off, 3)) (ht : (pc : Int) + off = (tgt : Int)) (hf : (if 0 ≤ x then P else Q) = some r) (kt : P = some r → ax_W Z ad cells slots (tgt) lv (st) M) (kf : Q = some r → ax_W Z ad cells slots (pc + 3) lv (st) M) : ax_W Z ad cells slots (pc) lv (ax_I x :: st) M := fun H locs ls h1 h2 h3 => lv_if_ge B.1 B.2.1 hd ht (fun h => kt (by rw [if_pos h] at hf; exact hf) H locs ls h1 h2 h3) (fun h => kf (by rw [if_neg h] at hf; exact hf) H locs ls h1 h2 h3)
theorem ax_icmp_ge (B : ax_B Z own cc ret) {x y : Int32} {off : Int} {tgt : Nat} {β : Type} {P Q : Option β} {r : β} (hd : decode cc pc = .ok (.if_icmp .ge off, 3)) (ht : (pc : Int) + off = (tgt : Int)) (hf : (if y ≤ x then P else Q) = some r) (kt : P = some r → ax_W Z ad cells slots (tgt) lv (st) M) (kf : Q = some r → ax_W Z ad cells slots (pc + 3) lv (st) M) : ax_W Z ad cells slots (pc) lv (ax_I y :: ax_I x :: st) M := fun H locs ls h1 h2 h3 => lv_icmp_ge B.1 B.2.1 hd ht (fun h => kt (by rw [if_pos h] at hf; exact hf) H locs ls h1 h2 h3) (fun h => kf (by rw [if_neg h] at hf; exact hf) H locs ls h1 h2 h3)
theorem ax_if_gt (B : ax_B Z own cc ret) {x : Int32} {off : Int} {tgt : Nat} {β : Type} {P Q : Option β} {r : β} (hd : decode cc pc = .ok (.ifCond .gt off, 3)) (ht : (pc : Int) + off = (tgt : Int)) (hf : (if 0 < x then P else Q) = some r) (kt : P = some r → ax_W Z ad cells slots (tgt) lv (st) M) (kf : Q = some r → ax_W Z ad cells slots (pc + 3) lv (st) M) : ax_W Z ad cells slots (pc) lv (ax_I x :: st) M := fun H locs ls h1 h2 h3 => lv_if_gt B.1 B.2.1 hd ht (fun h => kt (by rw [if_pos h] at hf; exact hf) H locs ls h1 h2 h3) (fun h => kf (by rw [if_neg h] at hf; exact hf) H locs ls h1 h2 h3)
theorem ax_icmp_gt (B : ax_B Z own cc ret) {x y : Int32} {off : Int} {tgt : Nat} {β : Type} {P Q : Option β} {r : β} (hd : decode cc pc = .ok (.if_icmp .gt off, 3)) (ht : (pc : Int) + off = (tgt : Int)) (hf : (if y < x then P else Q) = some r) (kt : P = some r → ax_W Z ad cells slots (tgt) lv (st) M) (kf : Q = some r → ax_W Z ad cells slots (pc + 3) lv (st) M) : ax_W Z ad cells slots (pc) lv (ax_I y :: ax_I x :: st) M := fun H locs ls h1 h2 h3 => lv_icmp_gt B.1 B.2.1 hd ht (fun h => kt (by rw [if_pos h] at hf; exact hf) H locs ls h1 h2 h3) (fun h => kf (by rw [if_neg h] at hf; exact hf) H locs ls h1 h2 h3)
theorem ax_if_le (B : ax_B Z own cc ret) {x : Int32} {off : Int} {tgt : Nat} {β : Type} {P Q : Option β} {r : β} (hd : decode cc pc = .ok (.ifCond .le off, 3)) (ht : (pc : Int) + off = (tgt : Int)) (hf : (if x ≤ 0 then P else Q) = some r) (kt : P = some r → ax_W Z ad cells slots (tgt) lv (st) M) (kf : Q = some r → ax_W Z ad cells slots (pc + 3) lv (st) M) : ax_W Z ad cells slots (pc) lv (ax_I x :: st) M := fun H locs ls h1 h2 h3 => lv_if_le B.1 B.2.1 hd ht (fun h => kt (by rw [if_pos h] at hf; exact hf) H locs ls h1 h2 h3) (fun h => kf (by rw [if_neg h] at hf; exact hf) H locs ls h1 h2 h3)
theorem ax_icmp_le (B : ax_B Z own cc ret) {x y : Int32} {off : Int} {tgt : Nat} {β : Type} {P Q : Option β} {r : β} (hd : decode cc pc = .ok (.if_icmp .le off, 3)) (ht : (pc : Int) + off = (tgt : Int)) (hf : (if x ≤ y then P else Q) = some r) (kt : P = some r → ax_W Z ad cells slots (tgt) lv (st) M) (kf : Q = some r → ax_W Z ad cells slots (pc + 3) lv (st) M) : ax_W Z ad cells slots (pc) lv (ax_I y :: ax_I x :: st) M := fun H locs ls h1 h2 h3 => lv_icmp_le B.1 B.2.1 hd ht (fun h => kt (by rw [if_pos h] at hf; exact hf) H locs ls h1 h2 h3) (fun h => kf (by rw [if_neg h] at hf; exact hf) H locs ls h1 h2 h3)
theorem ax_if_ne (B : ax_B Z own cc ret) {x : Int32} {off : Int} {tgt : Nat} {β : Type} {P Q : Option β} {r : β} (hd : decode cc pc = .ok (.ifCond .ne off, 3)) (ht : (pc : Int) + off = (tgt : Int)) (hf : (if x = 0 then P else Q) = some r) (kf : P = some r → ax_W Z ad cells slots (pc + 3) lv (st) M) (kt : Q = some r → ax_W Z ad cells slots (tgt) lv (st) M) : ax_W Z ad cells slots (pc) lv (ax_I x :: st) M := fun H locs ls h1 h2 h3 => lv_if_ne B.1 B.2.1 hd ht (fun h => kt (by rw [if_neg h] at hf; exact hf) H locs ls h1 h2 h3) (fun h => kf (by rw [if_pos h] at hf; exact hf) H locs ls h1 h2 h3)
theorem ax_icmp_ne (B : ax_B Z own cc ret) {x y : Int32} {off : Int} {tgt : Nat} {β : Type} {P Q : Option β} {r : β} (hd : decode cc pc = .ok (.if_icmp .ne off, 3)) (ht : (pc : Int) + off = (tgt : Int)) (hf : (if x = y then P else Q) = some r) (kf : P = some r → ax_W Z ad cells slots (pc + 3) lv (st) M) (kt : Q = some r → ax_W Z ad cells slots (tgt) lv (st) M) : ax_W Z ad cells slots (pc) lv (ax_I y :: ax_I x :: st) M := fun H locs ls h1 h2 h3 => lv_icmp_ne B.1 B.2.1 hd ht (fun h => kt (by rw [if_neg h] at hf; exact hf) H locs ls h1 h2 h3) (fun h => kf (by rw [if_pos h] at hf; exact hf) H locs ls h1 h2 h3)
theorem ax_goto (B : ax_B Z own cc ret) {off : Int} {tgt : Nat} (hd : decode cc pc = .ok (.goto off, 3)) (ht : (pc : Int) + off = (tgt : Int)) (k : ax_W Z ad cells slots (tgt) lv (st) M) : ax_W Z ad cells slots (pc) lv (st) M := fun H locs ls h1 h2 h3 => lv_goto B.1 B.2.1 hd ht (k H locs ls h1 h2 h3)
theorem ax_ifnull (B : ax_B Z own cc ret) {o : Option Nat} {off : Int} {tgt : Nat} {β : Type} {P Q : Option β} {r : β} (hd : decode cc pc = .ok (.ifnull off, 3)) (ht : (pc : Int) + off = (tgt : Int)) (hf : (if o = none then P else Q) = some r) (kt : P = some r → ax_W Z ad cells slots (tgt) lv (st) M) (kf : Q = some r → ax_W Z ad cells slots (pc + 3) lv (st) M) : ax_W Z ad cells slots (pc) lv (ax_O o :: st) M := by
  intro H locs ls h1 h2 h3
  cases o with
  | none => exact lv_ifnullN B.1 B.2.1 hd ht (kt (by rw [if_pos rfl] at hf; exact hf) H locs ls h1 h2 h3)
  | some a => exact lv_ifnull B.1 B.2.1 hd (kf (by rw [if_neg (fun z => by cases z)] at hf; exact hf) H locs ls h1 h2 h3)
theorem ax_ifnonnull (B : ax_B Z own cc ret) {o : Option Nat} {off : Int} {tgt : Nat} {β : Type} {P Q : Option β} {r : β} (hd : decode cc pc = .ok (.ifnonnull off, 3)) (ht : (pc : Int) + off = (tgt : Int)) (hf : (if o = none then P else Q) = some r) (kf : P = some r → ax_W Z ad cells slots (pc + 3) lv (st) M) (kt : Q = some r → ax_W Z ad cells slots (tgt) lv (st) M) : ax_W Z ad cells slots (pc) lv (ax_O o :: st) M := by
  intro H locs ls h1 h2 h3
  cases o with
  | none => exact lv_ifnonnullN B.1 B.2.1 hd (kf (by rw [if_pos rfl] at hf; exact hf) H locs ls h1 h2 h3)
  | some a => exact lv_ifnonnull B.1 B.2.1 hd ht (kt (by rw [if_neg (fun z => by cases z)] at hf; exact hf) H locs ls h1 h2 h3)
theorem ax_nmI {x : Int32} {β : Type} {f : Int32 → Option β} {r : β} (hf : (some x).bind f = some r) (k : ∀ y, f y = some r → ax_W Z ad cells slots (pc) lv (ax_I y :: st) M) : ax_W Z ad cells slots (pc) lv (ax_I x :: st) M := k x hf
theorem ax_nmL {x : Int64} {β : Type} {f : Int64 → Option β} {r : β} (hf : (some x).bind f = some r) (k : ∀ y, f y = some r → ax_W Z ad cells slots (pc) lv (ax_L y :: st) M) : ax_W Z ad cells slots (pc) lv (ax_L x :: st) M := k x hf
/-- a field is read: its link is own, or by the nest -/
theorem ax_getG (B : ax_B Z own cc ret) {idx ci k a q : Nat} {H : Heap} {locs : List Loc} {ls : Array Slot} {ws : va_W} {ad' : Nat} (hd : decode cc pc = .ok (.getfield idx, 3)) (hl : ax_fl own idx ci k) (hP : va_P (Z.2.2.2.2.2.2.2.2.2.2.1.1, Z.2.2.2.2.2.2.2.2.2.2.1.2.1) ax_cl ws H) (he : ws[q]? = some (ad', .inr (ci, ax_fs M ad ci a))) {rest : List Value}
    (kk : W Z.1 Z.2.1 Z.2.2.1 Z.2.2.2.1 Z.2.2.2.2.1 Z.2.2.2.2.2.1 Z.2.2.2.2.2.2.1 Z.2.2.2.2.2.2.2.1 Z.2.2.2.2.2.2.2.2.1 Z.2.2.2.2.2.2.2.2.2.1 H locs cells slots Z.2.2.2.2.2.2.2.2.2.2.2.2 (F0 Z.2.2.2.2.2.1 (pc + 3) ls (ax_v ad (ax_fv M (ax_ty ci k) a k) :: rest))) : W Z.1 Z.2.1 Z.2.2.1 Z.2.2.2.1 Z.2.2.2.2.1 Z.2.2.2.2.2.1 Z.2.2.2.2.2.2.1 Z.2.2.2.2.2.2.2.1 Z.2.2.2.2.2.2.2.2.1 Z.2.2.2.2.2.2.2.2.2.1 H locs cells slots Z.2.2.2.2.2.2.2.2.2.2.2.2 (F0 Z.2.2.2.2.2.1 pc ls (.ref ad' :: rest)) := by
  obtain ⟨hx, hb, hml, hr, hts, hown, hlk, hK, hsz⟩ := B
  obtain ⟨⟨C, T, N⟩, hc, hk, hlk⟩ := hl
  obtain ⟨o1, o2, o3, o4, o5, o6⟩ := ax_cl_ok hc
  have hv := ax_fs_at (M := M) (ad := ad) (a := a) (show k < ax_nf ci by rw [ax_nf_at hc]; exact hk)
  have hsame : ∀ x, Z.2.2.2.2.1.fieldFound? (T k).1 (T k).2.1 (T k).2.2.1 = some x → Z.2.2.2.2.1.fieldFound? C (T k).2.1 (T k).2.2.1 = some x := fun x h => by rw [o6 k hk] at h; exact h
  rcases hlk with w | ⟨host, w⟩
  · exact va_get hx hb hts o1 hown hK.1 hP q he hc k hk (hts _ w) hsame hv hd kk
  · exact va_getN hx hb hts o1 hown hK.1 hP q he hc k hk (va_Nw.use (ax_nest_tab _ w) (hK.2.1 _ w)) hsame hv hd kk
theorem ax_getI (B : ax_B Z own cc ret) {idx ci k : Nat} {o : Option Nat} {β : Type} {f : Int32 → Option β} {r : β} (hd : decode cc pc = .ok (.getfield idx, 3)) (hl : ax_fl own idx ci k) (ht : ax_ki ci k = true) (hf : (ax_gi M ci k o).bind f = some r) (kk : ∀ x, f x = some r → ax_W Z ad cells slots (pc + 3) lv (ax_I x :: st) M) : ax_W Z ad cells slots (pc) lv (ax_O o :: st) M := by
  intro H locs ls h1 h2 h3
  obtain ⟨x, e1, e2⟩ := ax_bd hf
  obtain ⟨a, ha, hx⟩ := Option.map_eq_some_iff.mp e1
  obtain ⟨rfl, hs⟩ := ax_ob_inv ha
  obtain ⟨dom, q, g1, g2, g3, g4, g5, g6, g7⟩ := h2.at hs
  have hw := kk x e2 H locs ls h1 h2 h3
  have hv : ax_v ad (ax_fv M (ax_ty ci k) a k) = ax_v ad (ax_I x) := by
    rw [ax_ki_fv ht, hx]
  exact ax_getG B hd hl g3 g7 (by rw [hv]; exact hw)
theorem ax_getL (B : ax_B Z own cc ret) {idx ci k : Nat} {o : Option Nat} {β : Type} {f : Int64 → Option β} {r : β} (hd : decode cc pc = .ok (.getfield idx, 3)) (hl : ax_fl own idx ci k) (ht : ax_kl ci k = true) (hf : (ax_gl M ci k o).bind f = some r) (kk : ∀ x, f x = some r → ax_W Z ad cells slots (pc + 3) lv (ax_L x :: st) M) : ax_W Z ad cells slots (pc) lv (ax_O o :: st) M := by
  intro H locs ls h1 h2 h3
  obtain ⟨x, e1, e2⟩ := ax_bd hf
  obtain ⟨a, ha, hx⟩ := Option.map_eq_some_iff.mp e1
  obtain ⟨rfl, hs⟩ := ax_ob_inv ha
  obtain ⟨dom, q, g1, g2, g3, g4, g5, g6, g7⟩ := h2.at hs
  have hw := kk x e2 H locs ls h1 h2 h3
  have hv : ax_v ad (ax_fv M (ax_ty ci k) a k) = ax_v ad (ax_L x) := by
    rw [ax_kl_fv ht, hx]
  exact ax_getG B hd hl g3 g7 (by rw [hv]; exact hw)
theorem ax_getR (B : ax_B Z own cc ret) {idx ci k : Nat} {o : Option Nat} {β : Type} {f : Option Nat → Option β} {r : β} (hd : decode cc pc = .ok (.getfield idx, 3)) (hl : ax_fl own idx ci k) (ht : ax_kr ci k = true) (hf : (ax_gr M ci k o).bind f = some r) (kk : ∀ x, f x = some r → ax_W Z ad cells slots (pc + 3) lv (ax_O x :: st) M) : ax_W Z ad cells slots (pc) lv (ax_O o :: st) M := by
  intro H locs ls h1 h2 h3
  obtain ⟨x, e1, e2⟩ := ax_bd hf
  obtain ⟨a, ha, hx⟩ := Option.map_eq_some_iff.mp e1
  obtain ⟨rfl, hs⟩ := ax_ob_inv ha
  obtain ⟨dom, q, g1, g2, g3, g4, g5, g6, g7⟩ := h2.at hs
  have hw := kk x e2 H locs ls h1 h2 h3
  have hv : ax_v ad (ax_fv M (ax_ty ci k) a k) = ax_v ad (ax_O x) := by
    rw [ax_kr_fv ht, hx]
  exact ax_getG B hd hl g3 g7 (by rw [hv]; exact hw)
theorem ax_iald (B : ax_B Z own cc ret) {t : Nat} {o : Option Nat} {i : Int32} {β : Type} {f : Int32 → Option β} {r : β} (hd : decode cc pc = .ok (.iaload, 1)) (ht : t < ax_nt) (he : ax_el t = .int) (hf : (ax_ri M t o i).bind f = some r) (kk : ∀ x, f x = some r → ax_W Z ad cells slots (pc + 1) lv (ax_I x :: st) M) : ax_W Z ad cells slots (pc) lv (ax_I i :: ax_O o :: st) M := by
  intro H locs ls h1 h2 h3
  obtain ⟨x, e1, e2⟩ := ax_bd hf
  obtain ⟨⟨a, j⟩, ha, hx⟩ := Option.map_eq_some_iff.mp e1
  obtain ⟨n, rfl, hs, hi, hj⟩ := ax_ix_inv ha
  dsimp only at hx hs hj
  subst hj
  obtain ⟨dom, q, g1, g2, g3, g4, g5, g6, g7⟩ := h2.at hs
  have hw := kk x e2 H locs ls h1 h2 h3
  rw [← hx] at hw
  simp only [ax_ce, he, ax_py] at g7
  exact va_iald B.1 B.2.1 B.2.2.2.2.2.2.2.1.1 g3 q t g7 (by rw [← he]; exact ax_ts_at ht) hi hd hw
theorem ax_zald (B : ax_B Z own cc ret) {t : Nat} {o : Option Nat} {i : Int32} {β : Type} {f : Int32 → Option β} {r : β} (hd : decode cc pc = .ok (.baload, 1)) (ht : t < ax_nt) (he : ax_el t = .boolean) (hf : (ax_ri M t o i).bind f = some r) (kk : ∀ x, f x = some r → ax_W Z ad cells slots (pc + 1) lv (ax_I x :: st) M) : ax_W Z ad cells slots (pc) lv (ax_I i :: ax_O o :: st) M := by
  intro H locs ls h1 h2 h3
  obtain ⟨x, e1, e2⟩ := ax_bd hf
  obtain ⟨⟨a, j⟩, ha, hx⟩ := Option.map_eq_some_iff.mp e1
  obtain ⟨n, rfl, hs, hi, hj⟩ := ax_ix_inv ha
  dsimp only at hx hs hj
  subst hj
  obtain ⟨dom, q, g1, g2, g3, g4, g5, g6, g7⟩ := h2.at hs
  have hw := kk x e2 H locs ls h1 h2 h3
  rw [← hx] at hw
  simp only [ax_ce, he, ax_py] at g7
  exact va_zald B.1 B.2.1 B.2.2.2.2.2.2.2.1.1 g3 q t g7 (by rw [← he]; exact ax_ts_at ht) hi hd hw
theorem ax_lald (B : ax_B Z own cc ret) {t : Nat} {o : Option Nat} {i : Int32} {β : Type} {f : Int64 → Option β} {r : β} (hd : decode cc pc = .ok (.laload, 1)) (ht : t < ax_nt) (he : ax_el t = .long) (hf : (ax_rl M t o i).bind f = some r) (kk : ∀ x, f x = some r → ax_W Z ad cells slots (pc + 1) lv (ax_L x :: st) M) : ax_W Z ad cells slots (pc) lv (ax_I i :: ax_O o :: st) M := by
  intro H locs ls h1 h2 h3
  obtain ⟨x, e1, e2⟩ := ax_bd hf
  obtain ⟨⟨a, j⟩, ha, hx⟩ := Option.map_eq_some_iff.mp e1
  obtain ⟨n, rfl, hs, hi, hj⟩ := ax_ix_inv ha
  dsimp only at hx hs hj
  subst hj
  obtain ⟨dom, q, g1, g2, g3, g4, g5, g6, g7⟩ := h2.at hs
  have hw := kk x e2 H locs ls h1 h2 h3
  rw [← hx] at hw
  simp only [ax_ce, he, ax_py] at g7
  exact va_lald B.1 B.2.1 B.2.2.2.2.2.2.2.1.1 g3 q t g7 (by rw [← he]; exact ax_ts_at ht) hi hd hw
theorem ax_aald (B : ax_B Z own cc ret) {t : Nat} {C : String} {o : Option Nat} {i : Int32} {β : Type} {f : Option Nat → Option β} {r : β} (hd : decode cc pc = .ok (.aaload, 1)) (ht : t < ax_nt) (he : ax_el t = .object C) (hf : (ax_rr M t o i).bind f = some r) (kk : ∀ x, f x = some r → ax_W Z ad cells slots (pc + 1) lv (ax_O x :: st) M) : ax_W Z ad cells slots (pc) lv (ax_I i :: ax_O o :: st) M := by
  intro H locs ls h1 h2 h3
  obtain ⟨x, e1, e2⟩ := ax_bd hf
  obtain ⟨⟨a, j⟩, ha, hx⟩ := Option.map_eq_some_iff.mp e1
  obtain ⟨n, rfl, hs, hi, hj⟩ := ax_ix_inv ha
  dsimp only at hx hs hj
  subst hj
  obtain ⟨dom, q, g1, g2, g3, g4, g5, g6, g7⟩ := h2.at hs
  have hw := kk x e2 H locs ls h1 h2 h3
  rw [← hx, List.map_cons, ax_v_rf] at hw
  simp only [ax_ce, he, ax_py] at g7
  exact va_aldq B.1 B.2.1 B.2.2.2.2.2.2.2.1.1 g3 q t g7 (by rw [← he]; exact ax_ts_at ht) hi hd hw
theorem ax_alen (B : ax_B Z own cc ret) {t : Nat} {o : Option Nat} {β : Type} {f : Int32 → Option β} {r : β} (hd : decode cc pc = .ok (.arraylength, 1)) (ht : t < ax_nt) (hf : (ax_al M t o).bind f = some r) (kk : ∀ x, f x = some r → ax_W Z ad cells slots (pc + 1) lv (ax_I x :: st) M) : ax_W Z ad cells slots (pc) lv (ax_O o :: st) M := by
  intro H locs ls h1 h2 h3
  obtain ⟨x, e1, e2⟩ := ax_bd hf
  obtain ⟨a, n, rfl, hs, hx⟩ := ax_al_inv e1
  obtain ⟨dom, q, g1, g2, g3, g4, g5, g6, g7⟩ := h2.at hs
  exact va_alen B.1 B.2.1 B.2.2.2.2.2.2.2.1.1 g3 q t g7 (ax_ts_at ht) hx.symm hd (kk x e2 H locs ls h1 h2 h3)
theorem ax_iast (B : ax_B Z own cc ret) {t : Nat} {o : Option Nat} {i : Int32} {v : Int32} {β : Type} {f : ax_M → Option β} {r : β} (hd : decode cc pc = .ok (.iastore, 1)) (ht : t < ax_nt) (he : ax_el t = .int) (hf : (ax_ti M t o i v).bind f = some r) (kk : ∀ M1, f M1 = some r → ax_W Z ad cells slots (pc + 1) lv (st) M1) : ax_W Z ad cells slots (pc) lv (ax_I v :: ax_I i :: ax_O o :: st) M := by
  intro H locs ls h1 h2 h3
  obtain ⟨M1, e1, e2⟩ := ax_bd hf
  obtain ⟨⟨a, j⟩, ha, hx⟩ := Option.map_eq_some_iff.mp e1
  obtain ⟨n, rfl, hs, hi, hj⟩ := ax_ix_inv ha
  dsimp only at hx hs hj
  subst hj
  obtain ⟨dom, q, g1, g2, g3, g4, g5, g6, g7⟩ := h2.at hs
  simp only [ax_ce, he, ax_py] at g7
  refine va_iast B.1 B.2.1 B.2.2.2.2.2.2.2.1.1 g3 g4 h3 q t g7 (by rw [← he]; exact ax_ts_at ht) hi hd (fun H1 locs1 k1 k2 k3 => ?_)
  have h2' : ax_P Z.2.2.2.2.2.2.2.2.2.2.1 ad M1 H1 := by
    subst hx
    refine ax_P.write (M := M) g1 g2 g5 g6 (fun _ => rfl) hs ?_ ?_ ?_ ?_ k1 k2
    · intro b j hb; simp [ax_i_wi, ax_i_wl, hb]
    · intro b j hb; simp [ax_l_wi, ax_l_wl, hb]
    · intro b j hb; rfl
    · simp only [ax_ce, he, ax_py]
      first | rw [ax_updI] | rw [ax_updL]
  exact kk M1 e2 H1 locs1 ls h1 h2' k3
theorem ax_last (B : ax_B Z own cc ret) {t : Nat} {o : Option Nat} {i : Int32} {v : Int64} {β : Type} {f : ax_M → Option β} {r : β} (hd : decode cc pc = .ok (.lastore, 1)) (ht : t < ax_nt) (he : ax_el t = .long) (hf : (ax_tl M t o i v).bind f = some r) (kk : ∀ M1, f M1 = some r → ax_W Z ad cells slots (pc + 1) lv (st) M1) : ax_W Z ad cells slots (pc) lv (ax_L v :: ax_I i :: ax_O o :: st) M := by
  intro H locs ls h1 h2 h3
  obtain ⟨M1, e1, e2⟩ := ax_bd hf
  obtain ⟨⟨a, j⟩, ha, hx⟩ := Option.map_eq_some_iff.mp e1
  obtain ⟨n, rfl, hs, hi, hj⟩ := ax_ix_inv ha
  dsimp only at hx hs hj
  subst hj
  obtain ⟨dom, q, g1, g2, g3, g4, g5, g6, g7⟩ := h2.at hs
  simp only [ax_ce, he, ax_py] at g7
  refine va_last B.1 B.2.1 B.2.2.2.2.2.2.2.1.1 g3 g4 h3 q t g7 (by rw [← he]; exact ax_ts_at ht) hi hd (fun H1 locs1 k1 k2 k3 => ?_)
  have h2' : ax_P Z.2.2.2.2.2.2.2.2.2.2.1 ad M1 H1 := by
    subst hx
    refine ax_P.write (M := M) g1 g2 g5 g6 (fun _ => rfl) hs ?_ ?_ ?_ ?_ k1 k2
    · intro b j hb; simp [ax_i_wi, ax_i_wl, hb]
    · intro b j hb; simp [ax_l_wi, ax_l_wl, hb]
    · intro b j hb; rfl
    · simp only [ax_ce, he, ax_py]
      first | rw [ax_updI] | rw [ax_updL]
  exact kk M1 e2 H1 locs1 ls h1 h2' k3
theorem ax_zast (B : ax_B Z own cc ret) {t : Nat} {o : Option Nat} {i v : Int32} {β : Type} {f : ax_M → Option β} {r : β} (hd : decode cc pc = .ok (.bastore, 1)) (ht : t < ax_nt) (he : ax_el t = .boolean) (hv : vp_nar .boolean v = v) (hf : (ax_ti M t o i v).bind f = some r) (kk : ∀ M1, f M1 = some r → ax_W Z ad cells slots (pc + 1) lv (st) M1) : ax_W Z ad cells slots (pc) lv (ax_I v :: ax_I i :: ax_O o :: st) M := by
  intro H locs ls h1 h2 h3
  obtain ⟨M1, e1, e2⟩ := ax_bd hf
  obtain ⟨⟨a, j⟩, ha, hx⟩ := Option.map_eq_some_iff.mp e1
  obtain ⟨n, rfl, hs, hi, hj⟩ := ax_ix_inv ha
  dsimp only at hx hs hj
  subst hj
  obtain ⟨dom, q, g1, g2, g3, g4, g5, g6, g7⟩ := h2.at hs
  simp only [ax_ce, he, ax_py] at g7
  refine va_zast B.1 B.2.1 B.2.2.2.2.2.2.2.1.1 g3 g4 h3 q t g7 (by rw [← he]; exact ax_ts_at ht) hi hd (fun H1 locs1 k1 k2 k3 => ?_)
  rw [hv] at k1 k2
  have h2' : ax_P Z.2.2.2.2.2.2.2.2.2.2.1 ad M1 H1 := by
    subst hx
    refine ax_P.write (M := M) g1 g2 g5 g6 (fun _ => rfl) hs ?_ ?_ ?_ ?_ k1 k2
    · intro b j hb; simp [ax_i_wi, hb]
    · intro b j hb; rfl
    · intro b j hb; rfl
    · simp only [ax_ce, he, ax_py]
      rw [ax_updI]
  exact kk M1 e2 H1 locs1 ls h1 h2' k3
end
