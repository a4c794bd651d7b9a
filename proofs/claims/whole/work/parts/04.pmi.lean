section PMH
def jv_shl (x y : Int32) : Int32 := x <<< (y &&& 31)
def jv_shr (x y : Int32) : Int32 := x >>> (y &&& 31)
def jv_ushr (x y : Int32) : Int32 := (x.toUInt32 >>> (y.toUInt32 &&& Int32.toUInt32 31)).toInt32
def jv_rem (x y : Int32) : Int32 := x - x / y * y
def jl_shl (x : Int64) (y : Int32) : Int64 := x <<< (y.toInt64 &&& 63)
def jl_ushr (x : Int64) (y : Int32) : Int64 := (x.toUInt64 >>> (y.toInt64.toUInt64 &&& Int64.toUInt64 63)).toInt64
def pm_ix (j : Int32) (N : Nat) : Option Nat := if j < 0 ∨ N ≤ j.toNatClampNeg then none else some j.toNatClampNeg
theorem pm_ix_inv {j : Int32} {N i : Nat} (h : pm_ix j N = some i) : vp_in j N ∧ j.toNatClampNeg = i := by
  unfold pm_ix at h
  by_cases hj : j < 0 ∨ N ≤ j.toNatClampNeg
  · rw [if_pos hj] at h
    cases h
  · rw [if_neg hj] at h
    exact ⟨hj, Option.some.inj h⟩
theorem pm_ix_nI {k N : Nat} (h : k < N) (hN : N < 2 ^ 31) : pm_ix (nI k) N = some k := by
  unfold pm_ix
  rw [if_neg (nI_in h hN), nI_clamp (Nat.lt_trans h hN)]
def pm_ial (c0 : ClassId) (x : Option va_E) (j : Int32) (pc : Nat) (lv : List (Nat × Value)) (r : List Value) (w : Nat → va_E) : Option pm_C := match x with
  | some (.inl (cA, N, .inl f)) => if cA = c0 then (pm_ix j N).map (fun i => (pc, lv, .int (f i) :: r, w)) else none
  | _ => none
def pm_lal (c0 : ClassId) (x : Option va_E) (j : Int32) (pc : Nat) (lv : List (Nat × Value)) (r : List Value) (w : Nat → va_E) : Option pm_C := match x with
  | some (.inl (cA, N, .inr (.inl f))) => if cA = c0 then (pm_ix j N).map (fun i => (pc, lv, .long (f i) :: r, w)) else none
  | _ => none
def pm_aal (c0 c1 : ClassId) (x : Option va_E) (j : Int32) (pc : Nat) (lv : List (Nat × Value)) (r : List Value) (w : Nat → va_E) : Option pm_C := match x with
  | some (.inl (cA, N, .inr (.inr (.inr (.inr f))))) => if cA = c0 ∨ cA = c1 then (pm_ix j N).map (fun i => (pc, lv, va_rf (f i) :: r, w)) else none
  | _ => none
def pm_ias (c0 : ClassId) (x : Option va_E) (k : Nat) (j v : Int32) (pc : Nat) (lv : List (Nat × Value)) (r : List Value) (w : Nat → va_E) : Option pm_C := match x with
  | some (.inl (cA, N, .inl f)) => if cA = c0 then (pm_ix j N).map (fun i => (pc, lv, r, va_up w k (.inl (cA, N, .inl (upd f i v))))) else none
  | _ => none
def pm_las (c0 : ClassId) (x : Option va_E) (k : Nat) (j : Int32) (v : Int64) (pc : Nat) (lv : List (Nat × Value)) (r : List Value) (w : Nat → va_E) : Option pm_C := match x with
  | some (.inl (cA, N, .inr (.inl f))) => if cA = c0 then (pm_ix j N).map (fun i => (pc, lv, r, va_up w k (.inl (cA, N, .inr (.inl (vp_updL f i v)))))) else none
  | _ => none
def pm_len (tc : Nat → ClassId) (x : Option va_E) (pc : Nat) (lv : List (Nat × Value)) (r : List Value) (w : Nat → va_E) : Option pm_C := match x with
  | some (.inl (cA, y)) => if cA = tc 0 ∨ cA = tc 1 ∨ cA = tc 2 then some (pc, lv, .int (Int32.ofNat y.1) :: r, w) else none
  | _ => none
def pm_gf (x : Option (Nat × Nat × FieldType × Bool)) (y : Option va_E) (pc : Nat) (lv : List (Nat × Value)) (r : List Value) (w : Nat → va_E) : Option pm_C := match x with
  | some (ci, j, _, _) => match y with
    | some (.inr (ci', fs)) => if ci' = ci then (fs[j]?).map (fun v => (pc, lv, v :: r, w)) else none
    | _ => none
  | none => none
def pm_pf (x : Option (Nat × Nat × FieldType × Bool)) (y : Option va_E) (k : Nat) (v : Value) (pc : Nat) (lv : List (Nat × Value)) (r : List Value) (w : Nat → va_E) : Option pm_C := match x with
  | some (ci, j, ty, fin) => match y with
    | some (.inr (ci', fs)) => if ci' = ci ∧ fin = false ∧ narrow ty v = v ∧ fits ty v = true ∧ j < fs.length then some (pc, lv, r, va_up w k (.inr (ci', fs.set j v))) else none
    | _ => none
  | none => none
theorem pm_map_inv {α β : Type} {f : α → β} {x : Option α} {y : β} (h : x.map f = some y) : ∃ a, x = some a ∧ y = f a := by
  cases x with
  | none => cases h
  | some a => exact ⟨a, rfl, (Option.some.inj h).symm⟩
variable {c0 c1 : ClassId} {x : Option va_E} {j v : Int32} {pc k : Nat} {lv : List (Nat × Value)} {r : List Value} {w : Nat → va_E} {q : pm_C}
theorem pm_ial_inv (h : pm_ial c0 x j pc lv r w = some q) : ∃ N f, x = some (.inl (c0, N, .inl f)) ∧ vp_in j N ∧ q = (pc, lv, .int (f j.toNatClampNeg) :: r, w) := by
  unfold pm_ial at h
  split at h
  · next cA N f =>
    by_cases hc : cA = c0
    · rw [if_pos hc] at h
      subst hc
      obtain ⟨i, hi, rfl⟩ := pm_map_inv h
      obtain ⟨h1, rfl⟩ := pm_ix_inv hi
      exact ⟨N, f, rfl, h1, rfl⟩
    · rw [if_neg hc] at h
      cases h
  · cases h
theorem pm_lal_inv (h : pm_lal c0 x j pc lv r w = some q) : ∃ N f, x = some (.inl (c0, N, .inr (.inl f))) ∧ vp_in j N ∧ q = (pc, lv, .long (f j.toNatClampNeg) :: r, w) := by
  unfold pm_lal at h
  split at h
  · next cA N f =>
    by_cases hc : cA = c0
    · rw [if_pos hc] at h
      subst hc
      obtain ⟨i, hi, rfl⟩ := pm_map_inv h
      obtain ⟨h1, rfl⟩ := pm_ix_inv hi
      exact ⟨N, f, rfl, h1, rfl⟩
    · rw [if_neg hc] at h
      cases h
  · cases h
theorem pm_aal_inv (h : pm_aal c0 c1 x j pc lv r w = some q) : ∃ cA N f, (cA = c0 ∨ cA = c1) ∧ x = some (.inl (cA, N, .inr (.inr (.inr (.inr f))))) ∧ vp_in j N ∧ q = (pc, lv, va_rf (f j.toNatClampNeg) :: r, w) := by
  unfold pm_aal at h
  split at h
  · next cA N f =>
    by_cases hc : cA = c0 ∨ cA = c1
    · rw [if_pos hc] at h
      obtain ⟨i, hi, rfl⟩ := pm_map_inv h
      obtain ⟨h1, rfl⟩ := pm_ix_inv hi
      exact ⟨cA, N, f, hc, rfl, h1, rfl⟩
    · rw [if_neg hc] at h
      cases h
  · cases h
theorem pm_ias_inv (h : pm_ias c0 x k j v pc lv r w = some q) : ∃ N f, x = some (.inl (c0, N, .inl f)) ∧ vp_in j N ∧ q = (pc, lv, r, va_up w k (.inl (c0, N, .inl (upd f j.toNatClampNeg v)))) := by
  unfold pm_ias at h
  split at h
  · next cA N f =>
    by_cases hc : cA = c0
    · rw [if_pos hc] at h
      subst hc
      obtain ⟨i, hi, rfl⟩ := pm_map_inv h
      obtain ⟨h1, rfl⟩ := pm_ix_inv hi
      exact ⟨N, f, rfl, h1, rfl⟩
    · rw [if_neg hc] at h
      cases h
  · cases h
theorem pm_las_inv {v : Int64} (h : pm_las c0 x k j v pc lv r w = some q) : ∃ N f, x = some (.inl (c0, N, .inr (.inl f))) ∧ vp_in j N ∧ q = (pc, lv, r, va_up w k (.inl (c0, N, .inr (.inl (vp_updL f j.toNatClampNeg v))))) := by
  unfold pm_las at h
  split at h
  · next cA N f =>
    by_cases hc : cA = c0
    · rw [if_pos hc] at h
      subst hc
      obtain ⟨i, hi, rfl⟩ := pm_map_inv h
      obtain ⟨h1, rfl⟩ := pm_ix_inv hi
      exact ⟨N, f, rfl, h1, rfl⟩
    · rw [if_neg hc] at h
      cases h
  · cases h
theorem pm_len_inv {tc : Nat → ClassId} (h : pm_len tc x pc lv r w = some q) : ∃ cA y, (cA = tc 0 ∨ cA = tc 1 ∨ cA = tc 2) ∧ x = some (.inl (cA, y)) ∧ q = (pc, lv, .int (Int32.ofNat y.1) :: r, w) := by
  unfold pm_len at h
  split at h
  · next cA y =>
    by_cases hc : cA = tc 0 ∨ cA = tc 1 ∨ cA = tc 2
    · rw [if_pos hc] at h
      exact ⟨cA, y, hc, rfl, (Option.some.inj h).symm⟩
    · rw [if_neg hc] at h
      cases h
  · cases h
theorem pm_gf_inv {y : Option (Nat × Nat × FieldType × Bool)} (h : pm_gf y x pc lv r w = some q) : ∃ ci i ty fin fs u, y = some (ci, i, ty, fin) ∧ x = some (.inr (ci, fs)) ∧ fs[i]? = some u ∧ q = (pc, lv, u :: r, w) := by
  unfold pm_gf at h
  split at h
  · next ci i ty fin =>
    split at h
    · next ci' fs =>
      by_cases hc : ci' = ci
      · rw [if_pos hc] at h
        subst hc
        obtain ⟨u, hu, rfl⟩ := pm_map_inv h
        exact ⟨ci', i, ty, fin, fs, u, rfl, rfl, hu, rfl⟩
      · rw [if_neg hc] at h
        cases h
    · cases h
  · cases h
theorem pm_pf_inv {y : Option (Nat × Nat × FieldType × Bool)} {u : Value} (h : pm_pf y x k u pc lv r w = some q) : ∃ ci i ty fs, y = some (ci, i, ty, false) ∧ x = some (.inr (ci, fs)) ∧ narrow ty u = u ∧ fits ty u = true ∧ i < fs.length ∧ q = (pc, lv, r, va_up w k (.inr (ci, fs.set i u))) := by
  unfold pm_pf at h
  split at h
  · next ci i ty fin =>
    split at h
    · next ci' fs =>
      by_cases hc : ci' = ci ∧ fin = false ∧ narrow ty u = u ∧ fits ty u = true ∧ i < fs.length
      · rw [if_pos hc] at h
        obtain ⟨rfl, rfl, h1, h2, h3⟩ := hc
        exact ⟨ci', i, ty, fs, rfl, rfl, h1, h2, h3, (Option.some.inj h).symm⟩
      · rw [if_neg hc] at h
        cases h
    · cases h
  · cases h
end PMH
section PMI
def pm_i (F : pm_FT) (K : Nat → Option Value) (tc : Nat → ClassId) (sz n nL : Nat) (i : Instr) (pc : Nat) (lv : List (Nat × Value)) (st : List Value) (w : Nat → va_E) : Option pm_C := match i with
  | .iconst k => some (pc + 1, lv, .int (Int32.ofInt k) :: st, w)
  | .bipush k => some (pc + 2, lv, .int (Int8.ofInt k).toInt32 :: st, w)
  | .sipush k => some (pc + 3, lv, .int (Int16.ofInt k).toInt32 :: st, w)
  | .lconst k => some (pc + 1, lv, .long (Int64.ofNat (k : Nat)) :: st, w)
  | .ldc k => match K k with
    | some (.int v) => some (pc + 2, lv, .int v :: st, w)
    | _ => none
  | .ldc2_w k => match K k with
    | some (.long v) => some (pc + 3, lv, .long v :: st, w)
    | _ => none
  | .iload_n k => pm_ldi k (pc + 1) lv st w
  | .iload k => pm_ldi k (pc + 2) lv st w
  | .lload_n k => pm_ldl k (pc + 1) lv st w
  | .lload k => pm_ldl k (pc + 2) lv st w
  | .aload_n k => pm_lda k (pc + 1) lv st w
  | .aload k => pm_lda k (pc + 2) lv st w
  | .istore_n k => pm_sti nL k (pc + 1) lv st w
  | .istore k => pm_sti nL k (pc + 2) lv st w
  | .lstore_n k => pm_stl nL k (pc + 1) lv st w
  | .lstore k => pm_stl nL k (pc + 2) lv st w
  | .astore_n k => pm_sta nL k (pc + 1) lv st w
  | .astore k => pm_sta nL k (pc + 2) lv st w
  | .iinc k d => match pm_lk lv k with
    | some (.int x) => if k < nL then some (pc + 3, (k, .int (x + Int32.ofInt d)) :: pm_f1 k lv, st, w) else none
    | _ => none
  | .iadd => pm_ii (fun x y => x + y) (pc + 1) lv st w
  | .isub => pm_ii (fun x y => x - y) (pc + 1) lv st w
  | .imul => pm_ii (fun x y => x * y) (pc + 1) lv st w
  | .iand => pm_ii (fun x y => x &&& y) (pc + 1) lv st w
  | .ior => pm_ii (fun x y => x ||| y) (pc + 1) lv st w
  | .ixor => pm_ii (fun x y => x ^^^ y) (pc + 1) lv st w
  | .ishl => pm_ii jv_shl (pc + 1) lv st w
  | .ishr => pm_ii jv_shr (pc + 1) lv st w
  | .iushr => pm_ii jv_ushr (pc + 1) lv st w
  | .idiv => pm_di (fun x y => x / y) (pc + 1) lv st w
  | .irem => pm_di jv_rem (pc + 1) lv st w
  | .ineg => match st with
    | .int x :: r => some (pc + 1, lv, .int (-x) :: r, w)
    | _ => none
  | .ladd => pm_ll (fun x y => x + y) (pc + 1) lv st w
  | .lsub => pm_ll (fun x y => x - y) (pc + 1) lv st w
  | .lmul => pm_ll (fun x y => x * y) (pc + 1) lv st w
  | .land => pm_ll (fun x y => x &&& y) (pc + 1) lv st w
  | .lor => pm_ll (fun x y => x ||| y) (pc + 1) lv st w
  | .lxor => pm_ll (fun x y => x ^^^ y) (pc + 1) lv st w
  | .lshl => pm_li jl_shl (pc + 1) lv st w
  | .lushr => pm_li jl_ushr (pc + 1) lv st w
  | .lcmp => match st with
    | .long y :: .long x :: r => some (pc + 1, lv, .int (lg_cmp x y) :: r, w)
    | _ => none
  | .i2l => match st with
    | .int x :: r => some (pc + 1, lv, .long x.toInt64 :: r, w)
    | _ => none
  | .l2i => match st with
    | .long x :: r => some (pc + 1, lv, .int x.toInt32 :: r, w)
    | _ => none
  | .dup => match st with
    | v :: r => if v.category = 1 then some (pc + 1, lv, v :: v :: r, w) else none
    | _ => none
  | .pop => match st with
    | v :: r => if v.category = 1 then some (pc + 1, lv, r, w) else none
    | _ => none
  | .dup_x1 => match st with
    | v :: u :: r => if v.category = 1 ∧ u.category = 1 then some (pc + 1, lv, v :: u :: v :: r, w) else none
    | _ => none
  | .dup2 => match st with
    | v :: u :: r => if v.category = 1 ∧ u.category = 1 then some (pc + 1, lv, v :: u :: v :: u :: r, w) else none
    | _ => none
  | .goto off => if 0 ≤ (pc : Int) + off then some (((pc : Int) + off).toNat, lv, st, w) else none
  | .ifCond c off => match st with
    | .int x :: r => if 0 ≤ (pc : Int) + off then some ((if pm_cz c x = true then ((pc : Int) + off).toNat else pc + 3), lv, r, w) else none
    | _ => none
  | .if_icmp c off => match st with
    | .int y :: .int x :: r => if 0 ≤ (pc : Int) + off then some ((if pm_cc c x y = true then ((pc : Int) + off).toNat else pc + 3), lv, r, w) else none
    | _ => none
  | .iaload => match st with
    | .int j :: .ref a :: r => pm_ial (tc 0) (pm_at sz n w a) j (pc + 1) lv r w
    | _ => none
  | .baload => match st with
    | .int j :: .ref a :: r => pm_ial (tc 2) (pm_at sz n w a) j (pc + 1) lv r w
    | _ => none
  | .laload => match st with
    | .int j :: .ref a :: r => pm_lal (tc 1) (pm_at sz n w a) j (pc + 1) lv r w
    | _ => none
  | .aaload => match st with
    | .int j :: .ref a :: r => pm_aal (tc 3) (tc 4) (pm_at sz n w a) j (pc + 1) lv r w
    | _ => none
  | .iastore => match st with
    | .int x :: .int j :: .ref a :: r => pm_ias (tc 0) (pm_at sz n w a) (a - sz) j x (pc + 1) lv r w
    | _ => none
  | .bastore => match st with
    | .int x :: .int j :: .ref a :: r => pm_ias (tc 2) (pm_at sz n w a) (a - sz) j (vp_nar .boolean x) (pc + 1) lv r w
    | _ => none
  | .lastore => match st with
    | .long x :: .int j :: .ref a :: r => pm_las (tc 1) (pm_at sz n w a) (a - sz) j x (pc + 1) lv r w
    | _ => none
  | .arraylength => match st with
    | .ref a :: r => pm_len tc (pm_at sz n w a) (pc + 1) lv r w
    | _ => none
  | .getfield k => match st with
    | .ref a :: r => pm_gf (F k) (pm_at sz n w a) (pc + 3) lv r w
    | _ => none
  | .putfield k => match st with
    | v :: .ref a :: r => pm_pf (F k) (pm_at sz n w a) (a - sz) v (pc + 3) lv r w
    | _ => none
  | _ => none
def pm_d (F : pm_FT) (K : Nat → Option Value) (tc : Nat → ClassId) (sz n nL : Nat) (d : Except DecodeError (Instr × Nat)) (pc : Nat) (lv : List (Nat × Value)) (st : List Value) (w : Nat → va_E) : Option pm_C := match d with
  | .ok (i, len) => if len = pm_ln i then pm_i F K tc sz n nL i pc lv st w else none
  | .error _ => none
def pm_v (cc : ByteArray) (F : pm_FT) (K : Nat → Option Value) (tc : Nat → ClassId) (sz n nL : Nat) : Nat → Nat → List (Nat × Value) → List Value → (Nat → va_E) → Option pm_C
  | 0, pc, lv, st, w => some (pc, lv, st, w)
  | k + 1, pc, lv, st, w => match pm_d F K tc sz n nL (decode cc pc) pc lv st w with
    | some (pc', lv', st', w') => pm_v cc F K tc sz n nL k pc' lv' st' w'
    | none => none
end PMI
section PMX
def pm_fok (own : String) (cl : List vw_C) (args : Array Value) (s : State) (k ci j : Nat) (ty : FieldType) (fin : Bool) : Prop :=
  ∃ (C : String) (T : u_T) (N : Nat) (ty0 : Nat → FieldType), cl[ci]? = some (C, T, N) ∧ j < N ∧ (∀ w ∈ u_ws C T N, w.before args s = true) ∧ (∀ k, k < N → parseFieldDescriptor (T k).2.2.1 = some (ty0 k)) ∧
    (∀ a, a < N → ∀ b, b < N → a ≠ b → (T a).2.1 ≠ (T b).2.1) ∧ (T j).2.2.2 = fin ∧ parseFieldDescriptor (T j).2.2.1 = some ty ∧
    ((∃ ref : String, (Cond.fieldLink own k ref (T j).2.1 (T j).2.2.1).before args s = true ∧ ∀ x, s.fieldFound? (T j).1 (T j).2.1 (T j).2.2.1 = some x → s.fieldFound? ref (T j).2.1 (T j).2.2.1 = some x) ∨
     (∃ ref host : String, (Cond.fieldLinkNest own k ref (T j).2.1 (T j).2.2.1 host).before args s = true ∧ ∀ x, s.fieldFound? (T j).1 (T j).2.1 (T j).2.2.1 = some x → s.fieldFound? ref (T j).2.1 (T j).2.2.1 = some x))
def pm_X (p : Program) (s : State) (m : MethodId) (args : Array Value) (c : Code) (cc : ByteArray) (own : String) (D : va_G) (cl : List vw_C) (tc : Nat → ClassId) (F : pm_FT) (K : Nat → Option Value) : Prop :=
  p.tables.exec = Jvm.exec ∧ c.code = cc ∧ s.vm.findClass own = some m.cls ∧ va_K D cl (pm_T tc) s ∧ (∀ k ci j ty fin, F k = some (ci, j, ty, fin) → pm_fok own cl args s k ci j ty fin) ∧
  (∀ k v, K k = some (.int v) → (Cond.constant own k v).before args s = true) ∧ (∀ k v, K k = some (.long v) → (Cond.constantLong own k v).before args s = true)
def pm_G (p : Program) (l : Launch) (e : Env) (R : Room) (s : State) (m : MethodId) (args : Array Value) (below : List Frame) (meth : Method) (c : Code) (Q : State → Prop) (D : va_G) (cl : List vw_C) (sz nL : Nat) (hz : Option Nat) (n : Nat) (cells slots : Nat) (w : Nat → va_E) (pc : Nat) (lv : List (Nat × Value)) (st : List Value) : Prop :=
  ∀ (H : Heap) (locs : List Loc) (ls : Array Slot), lv_has ls nL lv → va_P D cl (pm_L sz n w) H → va_S (fun q => sz ≤ q) s.heap H locs → (∀ k, hz = some k → H.size = k) → W p l e R s m args below meth c H locs cells slots Q (F0 m pc ls st)
end PMX
