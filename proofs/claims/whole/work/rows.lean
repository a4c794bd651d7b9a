section
section PMW
def pm_L (sz n : Nat) (w : Nat → va_E) : va_W := (List.range n).map fun k => (sz + k, w k)
theorem pm_L_get {sz n k : Nat} {w : Nat → va_E} (h : k < n) : (pm_L sz n w)[k]? = some (sz + k, w k) := by
  unfold pm_L
  rw [List.getElem?_map, List.getElem?_range h]
  rfl
theorem pm_L_inv {sz n k : Nat} {w : Nat → va_E} {q : Nat × va_E} (h : (pm_L sz n w)[k]? = some q) : k < n ∧ q = (sz + k, w k) := by
  by_cases hk : k < n
  · rw [pm_L_get hk] at h
    exact ⟨hk, (Option.some.inj h).symm⟩
  · unfold pm_L at h
    rw [List.getElem?_eq_none (by simp; omega)] at h
    cases h
theorem pm_L_set {sz n k : Nat} {w : Nat → va_E} {x : va_E} : (pm_L sz n w).set k (sz + k, x) = pm_L sz n (va_up w k x) := by
  apply List.ext_getElem?
  intro j
  rw [List.getElem?_set]
  by_cases hj : k = j
  · subst hj
    rw [if_pos rfl]
    by_cases hk : k < n
    · rw [pm_L_get hk, if_pos (by simp [pm_L, hk])]
      simp [va_up]
    · rw [if_neg (by simp [pm_L]; omega)]
      unfold pm_L
      rw [List.getElem?_eq_none (by simp; omega)]
  · rw [if_neg hj]
    by_cases hk : j < n
    · rw [pm_L_get hk, pm_L_get hk]
      simp [va_up, Ne.symm hj]
    · unfold pm_L
      rw [List.getElem?_eq_none (by simp; omega), List.getElem?_eq_none (by simp; omega)]
theorem pm_L_push {sz n : Nat} {w : Nat → va_E} {x : va_E} : pm_L sz n w ++ [(sz + n, x)] = pm_L sz (n + 1) (va_up w n x) := by
  unfold pm_L
  rw [List.range_succ, List.map_append]
  congr 1
  · apply List.map_congr_left
    intro k hk
    have : k ≠ n := Nat.ne_of_lt (List.mem_range.mp hk)
    simp [va_up, this]
  · simp [va_up]
theorem pm_D {sz n : Nat} {w : Nat → va_E} : va_D (fun q => sz ≤ q) (pm_L sz n w) := by
  refine ⟨fun i j x y hx hy h => ?_, fun k q hq => ?_⟩
  · obtain ⟨_, rfl⟩ := pm_L_inv hx
    obtain ⟨_, rfl⟩ := pm_L_inv hy
    exact Nat.add_left_cancel h
  · obtain ⟨_, rfl⟩ := pm_L_inv hq
    exact Nat.le_add_right _ _
def pm_at (sz n : Nat) (w : Nat → va_E) (a : Nat) : Option va_E := if sz ≤ a ∧ a - sz < n then some (w (a - sz)) else none
theorem pm_at_add {sz n k : Nat} {w : Nat → va_E} (h : k < n) : pm_at sz n w (sz + k) = some (w k) := by
  unfold pm_at
  rw [Nat.add_sub_cancel_left, if_pos ⟨Nat.le_add_right _ _, h⟩]
theorem pm_at_inv {sz n a : Nat} {w : Nat → va_E} {x : va_E} (h : pm_at sz n w a = some x) : ∃ k, a = sz + k ∧ k < n ∧ w k = x ∧ a - sz = k := by
  unfold pm_at at h
  by_cases hc : sz ≤ a ∧ a - sz < n
  · rw [if_pos hc] at h
    exact ⟨a - sz, by omega, hc.2, Option.some.inj h, rfl⟩
  · rw [if_neg hc] at h
    cases h
def pm_T (tc : Nat → ClassId) : List (ClassId × FieldType) := [(tc 0, .int), (tc 1, .long), (tc 2, .boolean), (tc 3, .object "LatticeWraps$Key"), (tc 4, .object "LatticeWraps$Wrap")]
def pm_lk : List (Nat × Value) → Nat → Option Value
  | [], _ => none
  | (j, v) :: r, i => if j = i then some v else pm_lk r i
theorem pm_lk_mem {lv : List (Nat × Value)} {i : Nat} {v : Value} (h : pm_lk lv i = some v) : (i, v) ∈ lv := by
  induction lv with
  | nil => cases h
  | cons q r ih =>
    obtain ⟨j, x⟩ := q
    unfold pm_lk at h
    by_cases hj : j = i
    · rw [if_pos hj] at h
      cases h
      subst hj
      exact List.mem_cons_self
    · rw [if_neg hj] at h
      exact List.mem_cons_of_mem _ (ih h)
theorem pm_lk_ok {ls : Array Slot} {nL : Nat} {lv : List (Nat × Value)} (h : lv_has ls nL lv) {i : Nat} {v : Value} (hv : pm_lk lv i = some v) : ls[i]? = some (.val v) := h.2.2 (i, v) (pm_lk_mem hv)
def pm_f1 (i : Nat) : List (Nat × Value) → List (Nat × Value)
  | [] => []
  | (j, v) :: r => if j = i then pm_f1 i r else if j + 1 = i then (if v.category = 2 then pm_f1 i r else (j, v) :: pm_f1 i r) else (j, v) :: pm_f1 i r
def pm_f2 (i : Nat) : List (Nat × Value) → List (Nat × Value)
  | [] => []
  | (j, v) :: r => if j = i then pm_f2 i r else if j = i + 1 then pm_f2 i r else if j + 1 = i then (if v.category = 2 then pm_f2 i r else (j, v) :: pm_f2 i r) else (j, v) :: pm_f2 i r
theorem pm_f1_eq (i : Nat) (lv : List (Nat × Value)) : lv.filter (fun q => !(q.1 == i) && !(q.1 + 1 == i && q.2.category == 2)) = pm_f1 i lv := by
  induction lv with
  | nil => rfl
  | cons q r ih =>
    obtain ⟨j, v⟩ := q
    rw [List.filter_cons, ih]
    by_cases h1 : j = i
    · simp [pm_f1, h1]
    · by_cases h2 : j + 1 = i
      · by_cases h3 : v.category = 2
        · simp [pm_f1, h1, h2, h3]
        · simp [pm_f1, h1, h2, h3]
      · simp [pm_f1, h1, h2]
theorem pm_f2_eq (i : Nat) (lv : List (Nat × Value)) : lv.filter (fun q => !(q.1 == i) && (!(q.1 == i + 1) && !(q.1 + 1 == i && q.2.category == 2))) = pm_f2 i lv := by
  induction lv with
  | nil => rfl
  | cons q r ih =>
    obtain ⟨j, v⟩ := q
    rw [List.filter_cons, ih]
    by_cases h1 : j = i
    · simp [pm_f2, h1]
    · by_cases h0 : j = i + 1
      · simp [pm_f2, h0]
      · by_cases h2 : j + 1 = i
        · by_cases h3 : v.category = 2
          · simp [pm_f2, h1, h0, h2, h3]
          · simp [pm_f2, h1, h0, h2, h3]
        · simp [pm_f2, h1, h0, h2]
end PMW
section PMS
abbrev pm_C : Type := Nat × List (Nat × Value) × List Value × (Nat → va_E)
abbrev pm_FT : Type := Nat → Option (Nat × Nat × FieldType × Bool)
def pm_ln : Instr → Nat
  | .iload _ => 2
  | .lload _ => 2
  | .aload _ => 2
  | .istore _ => 2
  | .lstore _ => 2
  | .astore _ => 2
  | .bipush _ => 2
  | .ldc _ => 2
  | .sipush _ => 3
  | .getfield _ => 3
  | .putfield _ => 3
  | .goto _ => 3
  | .ifCond _ _ => 3
  | .if_icmp _ _ => 3
  | .iinc _ _ => 3
  | .ldc2_w _ => 3
  | _ => 1
def pm_ldi (i pc : Nat) (lv : List (Nat × Value)) (st : List Value) (w : Nat → va_E) : Option pm_C := match pm_lk lv i with
  | some (.int x) => some (pc, lv, .int x :: st, w)
  | _ => none
def pm_ldl (i pc : Nat) (lv : List (Nat × Value)) (st : List Value) (w : Nat → va_E) : Option pm_C := match pm_lk lv i with
  | some (.long x) => some (pc, lv, .long x :: st, w)
  | _ => none
def pm_lda (i pc : Nat) (lv : List (Nat × Value)) (st : List Value) (w : Nat → va_E) : Option pm_C := match pm_lk lv i with
  | some (.ref x) => some (pc, lv, .ref x :: st, w)
  | _ => none
def pm_sti (nL i pc : Nat) (lv : List (Nat × Value)) (st : List Value) (w : Nat → va_E) : Option pm_C := match st with
  | .int x :: r => if i < nL then some (pc, (i, .int x) :: pm_f1 i lv, r, w) else none
  | _ => none
def pm_stl (nL i pc : Nat) (lv : List (Nat × Value)) (st : List Value) (w : Nat → va_E) : Option pm_C := match st with
  | .long x :: r => if i + 1 < nL then some (pc, (i, .long x) :: pm_f2 i lv, r, w) else none
  | _ => none
def pm_sta (nL i pc : Nat) (lv : List (Nat × Value)) (st : List Value) (w : Nat → va_E) : Option pm_C := match st with
  | .ref x :: r => if i < nL then some (pc, (i, .ref x) :: pm_f1 i lv, r, w) else none
  | _ => none
def pm_ii (g : Int32 → Int32 → Int32) (pc : Nat) (lv : List (Nat × Value)) (st : List Value) (w : Nat → va_E) : Option pm_C := match st with
  | .int y :: .int x :: r => some (pc, lv, .int (g x y) :: r, w)
  | _ => none
def pm_di (g : Int32 → Int32 → Int32) (pc : Nat) (lv : List (Nat × Value)) (st : List Value) (w : Nat → va_E) : Option pm_C := match st with
  | .int y :: .int x :: r => if y = 0 then none else some (pc, lv, .int (g x y) :: r, w)
  | _ => none
def pm_ll (g : Int64 → Int64 → Int64) (pc : Nat) (lv : List (Nat × Value)) (st : List Value) (w : Nat → va_E) : Option pm_C := match st with
  | .long y :: .long x :: r => some (pc, lv, .long (g x y) :: r, w)
  | _ => none
def pm_li (g : Int64 → Int32 → Int64) (pc : Nat) (lv : List (Nat × Value)) (st : List Value) (w : Nat → va_E) : Option pm_C := match st with
  | .int y :: .long x :: r => some (pc, lv, .long (g x y) :: r, w)
  | _ => none
def pm_cz : ClassFile.Cond → Int32 → Bool
  | .eq, x => decide (x = 0)
  | .ne, x => decide (x ≠ 0)
  | .lt, x => decide (x < 0)
  | .ge, x => decide (0 ≤ x)
  | .gt, x => decide (0 < x)
  | .le, x => decide (x ≤ 0)
def pm_cc : ClassFile.Cond → Int32 → Int32 → Bool
  | .eq, x, y => decide (x = y)
  | .ne, x, y => decide (x ≠ y)
  | .lt, x, y => decide (x < y)
  | .ge, x, y => decide (y ≤ x)
  | .gt, x, y => decide (y < x)
  | .le, x, y => decide (x ≤ y)
end PMS
end
section
section PMH
def jv_shl (x y : Int32) : Int32 := x <<< (y &&& 31)
def jv_shr (x y : Int32) : Int32 := x >>> (y &&& 31)
def jv_ushr (x y : Int32) : Int32 := (x.toUInt32 >>> (y.toUInt32 &&& Int32.toUInt32 31)).toInt32
def jv_rem (x y : Int32) : Int32 := x - x / y * y
def jl_shl (x : Int64) (y : Int32) : Int64 := x <<< (y.toInt64 &&& 63)
def jl_ushr (x : Int64) (y : Int32) : Int64 := (x.toUInt64 >>> (y.toInt64.toUInt64 &&& Int64.toUInt64 63)).toInt64
def pm_ix (j : Int32) (N : Nat) : Option Nat := if j < 0 ∨ N ≤ j.toNatClampNeg then none else some j.toNatClampNeg
theorem pm_ix_inv {j : Int32} {N i : Nat} (h : pm_ix j N = some i) : vp_in j N ∧ j.toNatClampNeg = i := by
  unfold pm_ix at h
  by_cases hj : j < 0 ∨ N ≤ j.toNatClampNeg
  · rw [if_pos hj] at h
    cases h
  · rw [if_neg hj] at h
    exact ⟨hj, Option.some.inj h⟩
theorem pm_ix_nI {k N : Nat} (h : k < N) (hN : N < 2 ^ 31) : pm_ix (nI k) N = some k := by
  unfold pm_ix
  rw [if_neg (nI_in h hN), nI_clamp (Nat.lt_trans h hN)]
def pm_ial (c0 : ClassId) (x : Option va_E) (j : Int32) (pc : Nat) (lv : List (Nat × Value)) (r : List Value) (w : Nat → va_E) : Option pm_C := match x with
  | some (.inl (cA, N, .inl f)) => if cA = c0 then (pm_ix j N).map (fun i => (pc, lv, .int (f i) :: r, w)) else none
  | _ => none
def pm_lal (c0 : ClassId) (x : Option va_E) (j : Int32) (pc : Nat) (lv : List (Nat × Value)) (r : List Value) (w : Nat → va_E) : Option pm_C := match x with
  | some (.inl (cA, N, .inr (.inl f))) => if cA = c0 then (pm_ix j N).map (fun i => (pc, lv, .long (f i) :: r, w)) else none
  | _ => none
def pm_aal (c0 c1 : ClassId) (x : Option va_E) (j : Int32) (pc : Nat) (lv : List (Nat × Value)) (r : List Value) (w : Nat → va_E) : Option pm_C := match x with
  | some (.inl (cA, N, .inr (.inr (.inr (.inr f))))) => if cA = c0 ∨ cA = c1 then (pm_ix j N).map (fun i => (pc, lv, va_rf (f i) :: r, w)) else none
  | _ => none
def pm_ias (c0 : ClassId) (x : Option va_E) (k : Nat) (j v : Int32) (pc : Nat) (lv : List (Nat × Value)) (r : List Value) (w : Nat → va_E) : Option pm_C := match x with
  | some (.inl (cA, N, .inl f)) => if cA = c0 then (pm_ix j N).map (fun i => (pc, lv, r, va_up w k (.inl (cA, N, .inl (upd f i v))))) else none
  | _ => none
def pm_las (c0 : ClassId) (x : Option va_E) (k : Nat) (j : Int32) (v : Int64) (pc : Nat) (lv : List (Nat × Value)) (r : List Value) (w : Nat → va_E) : Option pm_C := match x with
  | some (.inl (cA, N, .inr (.inl f))) => if cA = c0 then (pm_ix j N).map (fun i => (pc, lv, r, va_up w k (.inl (cA, N, .inr (.inl (vp_updL f i v)))))) else none
  | _ => none
def pm_len (tc : Nat → ClassId) (x : Option va_E) (pc : Nat) (lv : List (Nat × Value)) (r : List Value) (w : Nat → va_E) : Option pm_C := match x with
  | some (.inl (cA, y)) => if cA = tc 0 ∨ cA = tc 1 ∨ cA = tc 2 then some (pc, lv, .int (Int32.ofNat y.1) :: r, w) else none
  | _ => none
def pm_gf (x : Option (Nat × Nat × FieldType × Bool)) (y : Option va_E) (pc : Nat) (lv : List (Nat × Value)) (r : List Value) (w : Nat → va_E) : Option pm_C := match x with
  | some (ci, j, _, _) => match y with
    | some (.inr (ci', fs)) => if ci' = ci then (fs[j]?).map (fun v => (pc, lv, v :: r, w)) else none
    | _ => none
  | none => none
def pm_pf (x : Option (Nat × Nat × FieldType × Bool)) (y : Option va_E) (k : Nat) (v : Value) (pc : Nat) (lv : List (Nat × Value)) (r : List Value) (w : Nat → va_E) : Option pm_C := match x with
  | some (ci, j, ty, fin) => match y with
    | some (.inr (ci', fs)) => if ci' = ci ∧ fin = false ∧ narrow ty v = v ∧ fits ty v = true ∧ j < fs.length then some (pc, lv, r, va_up w k (.inr (ci', fs.set j v))) else none
    | _ => none
  | none => none
theorem pm_map_inv {α β : Type} {f : α → β} {x : Option α} {y : β} (h : x.map f = some y) : ∃ a, x = some a ∧ y = f a := by
  cases x with
  | none => cases h
  | some a => exact ⟨a, rfl, (Option.some.inj h).symm⟩
variable {c0 c1 : ClassId} {x : Option va_E} {j v : Int32} {pc k : Nat} {lv : List (Nat × Value)} {r : List Value} {w : Nat → va_E} {q : pm_C}
theorem pm_ial_inv (h : pm_ial c0 x j pc lv r w = some q) : ∃ N f, x = some (.inl (c0, N, .inl f)) ∧ vp_in j N ∧ q = (pc, lv, .int (f j.toNatClampNeg) :: r, w) := by
  unfold pm_ial at h
  split at h
  · next cA N f =>
    by_cases hc : cA = c0
    · rw [if_pos hc] at h
      subst hc
      obtain ⟨i, hi, rfl⟩ := pm_map_inv h
      obtain ⟨h1, rfl⟩ := pm_ix_inv hi
      exact ⟨N, f, rfl, h1, rfl⟩
    · rw [if_neg hc] at h
      cases h
  · cases h
theorem pm_lal_inv (h : pm_lal c0 x j pc lv r w = some q) : ∃ N f, x = some (.inl (c0, N, .inr (.inl f))) ∧ vp_in j N ∧ q = (pc, lv, .long (f j.toNatClampNeg) :: r, w) := by
  unfold pm_lal at h
  split at h
  · next cA N f =>
    by_cases hc : cA = c0
    · rw [if_pos hc] at h
      subst hc
      obtain ⟨i, hi, rfl⟩ := pm_map_inv h
      obtain ⟨h1, rfl⟩ := pm_ix_inv hi
      exact ⟨N, f, rfl, h1, rfl⟩
    · rw [if_neg hc] at h
      cases h
  · cases h
theorem pm_aal_inv (h : pm_aal c0 c1 x j pc lv r w = some q) : ∃ cA N f, (cA = c0 ∨ cA = c1) ∧ x = some (.inl (cA, N, .inr (.inr (.inr (.inr f))))) ∧ vp_in j N ∧ q = (pc, lv, va_rf (f j.toNatClampNeg) :: r, w) := by
  unfold pm_aal at h
  split at h
  · next cA N f =>
    by_cases hc : cA = c0 ∨ cA = c1
    · rw [if_pos hc] at h
      obtain ⟨i, hi, rfl⟩ := pm_map_inv h
      obtain ⟨h1, rfl⟩ := pm_ix_inv hi
      exact ⟨cA, N, f, hc, rfl, h1, rfl⟩
    · rw [if_neg hc] at h
      cases h
  · cases h
theorem pm_ias_inv (h : pm_ias c0 x k j v pc lv r w = some q) : ∃ N f, x = some (.inl (c0, N, .inl f)) ∧ vp_in j N ∧ q = (pc, lv, r, va_up w k (.inl (c0, N, .inl (upd f j.toNatClampNeg v)))) := by
  unfold pm_ias at h
  split at h
  · next cA N f =>
    by_cases hc : cA = c0
    · rw [if_pos hc] at h
      subst hc
      obtain ⟨i, hi, rfl⟩ := pm_map_inv h
      obtain ⟨h1, rfl⟩ := pm_ix_inv hi
      exact ⟨N, f, rfl, h1, rfl⟩
    · rw [if_neg hc] at h
      cases h
  · cases h
theorem pm_las_inv {v : Int64} (h : pm_las c0 x k j v pc lv r w = some q) : ∃ N f, x = some (.inl (c0, N, .inr (.inl f))) ∧ vp_in j N ∧ q = (pc, lv, r, va_up w k (.inl (c0, N, .inr (.inl (vp_updL f j.toNatClampNeg v))))) := by
  unfold pm_las at h
  split at h
  · next cA N f =>
    by_cases hc : cA = c0
    · rw [if_pos hc] at h
      subst hc
      obtain ⟨i, hi, rfl⟩ := pm_map_inv h
      obtain ⟨h1, rfl⟩ := pm_ix_inv hi
      exact ⟨N, f, rfl, h1, rfl⟩
    · rw [if_neg hc] at h
      cases h
  · cases h
theorem pm_len_inv {tc : Nat → ClassId} (h : pm_len tc x pc lv r w = some q) : ∃ cA y, (cA = tc 0 ∨ cA = tc 1 ∨ cA = tc 2) ∧ x = some (.inl (cA, y)) ∧ q = (pc, lv, .int (Int32.ofNat y.1) :: r, w) := by
  unfold pm_len at h
  split at h
  · next cA y =>
    by_cases hc : cA = tc 0 ∨ cA = tc 1 ∨ cA = tc 2
    · rw [if_pos hc] at h
      exact ⟨cA, y, hc, rfl, (Option.some.inj h).symm⟩
    · rw [if_neg hc] at h
      cases h
  · cases h
theorem pm_gf_inv {y : Option (Nat × Nat × FieldType × Bool)} (h : pm_gf y x pc lv r w = some q) : ∃ ci i ty fin fs u, y = some (ci, i, ty, fin) ∧ x = some (.inr (ci, fs)) ∧ fs[i]? = some u ∧ q = (pc, lv, u :: r, w) := by
  unfold pm_gf at h
  split at h
  · next ci i ty fin =>
    split at h
    · next ci' fs =>
      by_cases hc : ci' = ci
      · rw [if_pos hc] at h
        subst hc
        obtain ⟨u, hu, rfl⟩ := pm_map_inv h
        exact ⟨ci', i, ty, fin, fs, u, rfl, rfl, hu, rfl⟩
      · rw [if_neg hc] at h
        cases h
    · cases h
  · cases h
theorem pm_pf_inv {y : Option (Nat × Nat × FieldType × Bool)} {u : Value} (h : pm_pf y x k u pc lv r w = some q) : ∃ ci i ty fs, y = some (ci, i, ty, false) ∧ x = some (.inr (ci, fs)) ∧ narrow ty u = u ∧ fits ty u = true ∧ i < fs.length ∧ q = (pc, lv, r, va_up w k (.inr (ci, fs.set i u))) := by
  unfold pm_pf at h
  split at h
  · next ci i ty fin =>
    split at h
    · next ci' fs =>
      by_cases hc : ci' = ci ∧ fin = false ∧ narrow ty u = u ∧ fits ty u = true ∧ i < fs.length
      · rw [if_pos hc] at h
        obtain ⟨rfl, rfl, h1, h2, h3⟩ := hc
        exact ⟨ci', i, ty, fs, rfl, rfl, h1, h2, h3, (Option.some.inj h).symm⟩
      · rw [if_neg hc] at h
        cases h
    · cases h
  · cases h
end PMH
section PMI
def pm_i (F : pm_FT) (K : Nat → Option Value) (tc : Nat → ClassId) (sz n nL : Nat) (i : Instr) (pc : Nat) (lv : List (Nat × Value)) (st : List Value) (w : Nat → va_E) : Option pm_C := match i with
  | .iconst k => some (pc + 1, lv, .int (Int32.ofInt k) :: st, w)
  | .bipush k => some (pc + 2, lv, .int (Int8.ofInt k).toInt32 :: st, w)
  | .sipush k => some (pc + 3, lv, .int (Int16.ofInt k).toInt32 :: st, w)
  | .lconst k => some (pc + 1, lv, .long (Int64.ofNat (k : Nat)) :: st, w)
  | .ldc k => match K k with
    | some (.int v) => some (pc + 2, lv, .int v :: st, w)
    | _ => none
  | .ldc2_w k => match K k with
    | some (.long v) => some (pc + 3, lv, .long v :: st, w)
    | _ => none
  | .iload_n k => pm_ldi k (pc + 1) lv st w
  | .iload k => pm_ldi k (pc + 2) lv st w
  | .lload_n k => pm_ldl k (pc + 1) lv st w
  | .lload k => pm_ldl k (pc + 2) lv st w
  | .aload_n k => pm_lda k (pc + 1) lv st w
  | .aload k => pm_lda k (pc + 2) lv st w
  | .istore_n k => pm_sti nL k (pc + 1) lv st w
  | .istore k => pm_sti nL k (pc + 2) lv st w
  | .lstore_n k => pm_stl nL k (pc + 1) lv st w
  | .lstore k => pm_stl nL k (pc + 2) lv st w
  | .astore_n k => pm_sta nL k (pc + 1) lv st w
  | .astore k => pm_sta nL k (pc + 2) lv st w
  | .iinc k d => match pm_lk lv k with
    | some (.int x) => if k < nL then some (pc + 3, (k, .int (x + Int32.ofInt d)) :: pm_f1 k lv, st, w) else none
    | _ => none
  | .iadd => pm_ii (fun x y => x + y) (pc + 1) lv st w
  | .isub => pm_ii (fun x y => x - y) (pc + 1) lv st w
  | .imul => pm_ii (fun x y => x * y) (pc + 1) lv st w
  | .iand => pm_ii (fun x y => x &&& y) (pc + 1) lv st w
  | .ior => pm_ii (fun x y => x ||| y) (pc + 1) lv st w
  | .ixor => pm_ii (fun x y => x ^^^ y) (pc + 1) lv st w
  | .ishl => pm_ii jv_shl (pc + 1) lv st w
  | .ishr => pm_ii jv_shr (pc + 1) lv st w
  | .iushr => pm_ii jv_ushr (pc + 1) lv st w
  | .idiv => pm_di (fun x y => x / y) (pc + 1) lv st w
  | .irem => pm_di jv_rem (pc + 1) lv st w
  | .ineg => match st with
    | .int x :: r => some (pc + 1, lv, .int (-x) :: r, w)
    | _ => none
  | .ladd => pm_ll (fun x y => x + y) (pc + 1) lv st w
  | .lsub => pm_ll (fun x y => x - y) (pc + 1) lv st w
  | .lmul => pm_ll (fun x y => x * y) (pc + 1) lv st w
  | .land => pm_ll (fun x y => x &&& y) (pc + 1) lv st w
  | .lor => pm_ll (fun x y => x ||| y) (pc + 1) lv st w
  | .lxor => pm_ll (fun x y => x ^^^ y) (pc + 1) lv st w
  | .lshl => pm_li jl_shl (pc + 1) lv st w
  | .lushr => pm_li jl_ushr (pc + 1) lv st w
  | .lcmp => match st with
    | .long y :: .long x :: r => some (pc + 1, lv, .int (lg_cmp x y) :: r, w)
    | _ => none
  | .i2l => match st with
    | .int x :: r => some (pc + 1, lv, .long x.toInt64 :: r, w)
    | _ => none
  | .l2i => match st with
    | .long x :: r => some (pc + 1, lv, .int x.toInt32 :: r, w)
    | _ => none
  | .dup => match st with
    | v :: r => if v.category = 1 then some (pc + 1, lv, v :: v :: r, w) else none
    | _ => none
  | .pop => match st with
    | v :: r => if v.category = 1 then some (pc + 1, lv, r, w) else none
    | _ => none
  | .dup_x1 => match st with
    | v :: u :: r => if v.category = 1 ∧ u.category = 1 then some (pc + 1, lv, v :: u :: v :: r, w) else none
    | _ => none
  | .dup2 => match st with
    | v :: u :: r => if v.category = 1 ∧ u.category = 1 then some (pc + 1, lv, v :: u :: v :: u :: r, w) else none
    | _ => none
  | .goto off => if 0 ≤ (pc : Int) + off then some (((pc : Int) + off).toNat, lv, st, w) else none
  | .ifCond c off => match st with
    | .int x :: r => if 0 ≤ (pc : Int) + off then some ((if pm_cz c x = true then ((pc : Int) + off).toNat else pc + 3), lv, r, w) else none
    | _ => none
  | .if_icmp c off => match st with
    | .int y :: .int x :: r => if 0 ≤ (pc : Int) + off then some ((if pm_cc c x y = true then ((pc : Int) + off).toNat else pc + 3), lv, r, w) else none
    | _ => none
  | .iaload => match st with
    | .int j :: .ref a :: r => pm_ial (tc 0) (pm_at sz n w a) j (pc + 1) lv r w
    | _ => none
  | .baload => match st with
    | .int j :: .ref a :: r => pm_ial (tc 2) (pm_at sz n w a) j (pc + 1) lv r w
    | _ => none
  | .laload => match st with
    | .int j :: .ref a :: r => pm_lal (tc 1) (pm_at sz n w a) j (pc + 1) lv r w
    | _ => none
  | .aaload => match st with
    | .int j :: .ref a :: r => pm_aal (tc 3) (tc 4) (pm_at sz n w a) j (pc + 1) lv r w
    | _ => none
  | .iastore => match st with
    | .int x :: .int j :: .ref a :: r => pm_ias (tc 0) (pm_at sz n w a) (a - sz) j x (pc + 1) lv r w
    | _ => none
  | .bastore => match st with
    | .int x :: .int j :: .ref a :: r => pm_ias (tc 2) (pm_at sz n w a) (a - sz) j (vp_nar .boolean x) (pc + 1) lv r w
    | _ => none
  | .lastore => match st with
    | .long x :: .int j :: .ref a :: r => pm_las (tc 1) (pm_at sz n w a) (a - sz) j x (pc + 1) lv r w
    | _ => none
  | .arraylength => match st with
    | .ref a :: r => pm_len tc (pm_at sz n w a) (pc + 1) lv r w
    | _ => none
  | .getfield k => match st with
    | .ref a :: r => pm_gf (F k) (pm_at sz n w a) (pc + 3) lv r w
    | _ => none
  | .putfield k => match st with
    | v :: .ref a :: r => pm_pf (F k) (pm_at sz n w a) (a - sz) v (pc + 3) lv r w
    | _ => none
  | _ => none
def pm_d (F : pm_FT) (K : Nat → Option Value) (tc : Nat → ClassId) (sz n nL : Nat) (d : Except DecodeError (Instr × Nat)) (pc : Nat) (lv : List (Nat × Value)) (st : List Value) (w : Nat → va_E) : Option pm_C := match d with
  | .ok (i, len) => if len = pm_ln i then pm_i F K tc sz n nL i pc lv st w else none
  | .error _ => none
def pm_v (cc : ByteArray) (F : pm_FT) (K : Nat → Option Value) (tc : Nat → ClassId) (sz n nL : Nat) : Nat → Nat → List (Nat × Value) → List Value → (Nat → va_E) → Option pm_C
  | 0, pc, lv, st, w => some (pc, lv, st, w)
  | k + 1, pc, lv, st, w => match pm_d F K tc sz n nL (decode cc pc) pc lv st w with
    | some (pc', lv', st', w') => pm_v cc F K tc sz n nL k pc' lv' st' w'
    | none => none
end PMI
section PMX
def pm_fok (own : String) (cl : List vw_C) (args : Array Value) (s : State) (k ci j : Nat) (ty : FieldType) (fin : Bool) : Prop :=
  ∃ (C : String) (T : u_T) (N : Nat) (ty0 : Nat → FieldType), cl[ci]? = some (C, T, N) ∧ j < N ∧ (∀ w ∈ u_ws C T N, w.before args s = true) ∧ (∀ k, k < N → parseFieldDescriptor (T k).2.2.1 = some (ty0 k)) ∧
    (∀ a, a < N → ∀ b, b < N → a ≠ b → (T a).2.1 ≠ (T b).2.1) ∧ (T j).2.2.2 = fin ∧ parseFieldDescriptor (T j).2.2.1 = some ty ∧
    ((∃ ref : String, (Cond.fieldLink own k ref (T j).2.1 (T j).2.2.1).before args s = true ∧ ∀ x, s.fieldFound? (T j).1 (T j).2.1 (T j).2.2.1 = some x → s.fieldFound? ref (T j).2.1 (T j).2.2.1 = some x) ∨
     (∃ ref host : String, (Cond.fieldLinkNest own k ref (T j).2.1 (T j).2.2.1 host).before args s = true ∧ ∀ x, s.fieldFound? (T j).1 (T j).2.1 (T j).2.2.1 = some x → s.fieldFound? ref (T j).2.1 (T j).2.2.1 = some x))
def pm_X (p : Program) (s : State) (m : MethodId) (args : Array Value) (c : Code) (cc : ByteArray) (own : String) (D : va_G) (cl : List vw_C) (tc : Nat → ClassId) (F : pm_FT) (K : Nat → Option Value) : Prop :=
  p.tables.exec = Jvm.exec ∧ c.code = cc ∧ s.vm.findClass own = some m.cls ∧ va_K D cl (pm_T tc) s ∧ (∀ k ci j ty fin, F k = some (ci, j, ty, fin) → pm_fok own cl args s k ci j ty fin) ∧
  (∀ k v, K k = some (.int v) → (Cond.constant own k v).before args s = true) ∧ (∀ k v, K k = some (.long v) → (Cond.constantLong own k v).before args s = true)
def pm_G (p : Program) (l : Launch) (e : Env) (R : Room) (s : State) (m : MethodId) (args : Array Value) (below : List Frame) (meth : Method) (c : Code) (Q : State → Prop) (D : va_G) (cl : List vw_C) (sz nL : Nat) (hz : Option Nat) (n : Nat) (cells slots : Nat) (w : Nat → va_E) (pc : Nat) (lv : List (Nat × Value)) (st : List Value) : Prop :=
  ∀ (H : Heap) (locs : List Loc) (ls : Array Slot), lv_has ls nL lv → va_P D cl (pm_L sz n w) H → va_S (fun q => sz ≤ q) s.heap H locs → (∀ k, hz = some k → H.size = k) → W p l e R s m args below meth c H locs cells slots Q (F0 m pc ls st)
end PMX
end
section
section PMO
variable {p : Program} {l : Launch} {e : Env} {R : Room} {s : State} {m : MethodId} {args : Array Value} {below : List Frame} {meth : Method} {c : Code} {Q : State → Prop} {cells slots : Nat}
variable {cc : ByteArray} {own : String} {D : va_G} {cl : List vw_C} {tc : Nat → ClassId} {F : pm_FT} {K : Nat → Option Value} {sz nL n pc : Nat} {hz : Option Nat} {w : Nat → va_E} {lv : List (Nat × Value)} {st : List Value}
theorem pm_set {H H1 : Heap} {k : Nat} {x : va_E} (hP : va_P D cl (pm_L sz n w) H) (hk : k < n) (he : va_at D cl (sz + k, x) H1) (oq : ∀ q : Nat, q ≠ sz + k → H1[q]? = H[q]?) : va_P D cl (pm_L sz n (va_up w k x)) H1 := by
  rw [← pm_L_set]
  exact hP.set (A := fun q => sz ≤ q) pm_D (pm_L_get hk) he oq
theorem pm_iast {j x : Int32} {k N : Nat} {f : Nat → Int32} {r : List Value} (hx : p.tables.exec = Jvm.exec) (hb : c.code = cc) (hK : va_K D cl (pm_T tc) s) (hk : k < n) (hw : w k = .inl (tc 0, N, .inl f)) (hin : vp_in j N) (hd : decode cc pc = .ok (.iastore, 1))
    (kk : pm_G p l e R s m args below meth c Q D cl sz nL hz n cells slots (va_up w k (.inl (tc 0, N, .inl (upd f j.toNatClampNeg x)))) (pc + 1) lv r) : pm_G p l e R s m args below meth c Q D cl sz nL hz n cells slots w pc lv (.int x :: .int j :: .ref (sz + k) :: r) := by
  intro H locs ls hl hP hS hh
  have hat : va_at D cl (sz + k, w k) H := hP k _ (pm_L_get hk)
  rw [hw] at hat
  refine W.iast hx hb hat ((hK.2 0 _ rfl).1 N (fun j => .int (f j))) (fun q => by cases q) (by show ¬ (j < 0 ∨ (arrV _ _ _).slots.size ≤ _); rw [arrV_size]; exact hin) rfl rfl hd fun H1 e z oq => ?_
  refine kk H1 _ ls hl (pm_set hP hk ?_ oq) (hS.put z oq (Nat.le_add_right _ _)) (fun k hk => z.trans (hh k hk))
  show H1[sz + k]? = some (vp_cell _ _)
  rw [e, vp_cell_i, vp_cell_i, arrV_store]
  congr 2
  funext q
  by_cases hq : q = j.toNatClampNeg
  · subst hq
    simp [updV, upd]
  · simp [updV, upd, hq]
theorem pm_zast {j x : Int32} {k N : Nat} {f : Nat → Int32} {r : List Value} (hx : p.tables.exec = Jvm.exec) (hb : c.code = cc) (hK : va_K D cl (pm_T tc) s) (hk : k < n) (hw : w k = .inl (tc 2, N, .inl f)) (hin : vp_in j N) (hd : decode cc pc = .ok (.bastore, 1))
    (kk : pm_G p l e R s m args below meth c Q D cl sz nL hz n cells slots (va_up w k (.inl (tc 2, N, .inl (upd f j.toNatClampNeg (vp_nar .boolean x))))) (pc + 1) lv r) : pm_G p l e R s m args below meth c Q D cl sz nL hz n cells slots w pc lv (.int x :: .int j :: .ref (sz + k) :: r) := by
  intro H locs ls hl hP hS hh
  have hat : va_at D cl (sz + k, w k) H := hP k _ (pm_L_get hk)
  rw [hw] at hat
  refine W.zast hx hb hat ((hK.2 2 _ rfl).1 N (fun j => .int (f j))) (fun q => by cases q) (by show ¬ (j < 0 ∨ (arrV _ _ _).slots.size ≤ _); rw [arrV_size]; exact hin) rfl rfl hd fun H1 e z oq => ?_
  refine kk H1 _ ls hl (pm_set hP hk ?_ oq) (hS.put z oq (Nat.le_add_right _ _)) (fun k hk => z.trans (hh k hk))
  show H1[sz + k]? = some (vp_cell _ _)
  rw [e, vp_cell_i, vp_cell_i, arrV_store]
  congr 2
  funext q
  by_cases hq : q = j.toNatClampNeg
  · subst hq
    simp [updV, upd, vp_nar]
    try rfl
  · simp [updV, upd, hq]
theorem pm_last {j : Int32} {x : Int64} {k N : Nat} {f : Nat → Int64} {r : List Value} (hx : p.tables.exec = Jvm.exec) (hb : c.code = cc) (hK : va_K D cl (pm_T tc) s) (hk : k < n) (hw : w k = .inl (tc 1, N, .inr (.inl f))) (hin : vp_in j N) (hd : decode cc pc = .ok (.lastore, 1))
    (kk : pm_G p l e R s m args below meth c Q D cl sz nL hz n cells slots (va_up w k (.inl (tc 1, N, .inr (.inl (vp_updL f j.toNatClampNeg x))))) (pc + 1) lv r) : pm_G p l e R s m args below meth c Q D cl sz nL hz n cells slots w pc lv (.long x :: .int j :: .ref (sz + k) :: r) := by
  intro H locs ls hl hP hS hh
  have hat : va_at D cl (sz + k, w k) H := hP k _ (pm_L_get hk)
  rw [hw] at hat
  refine W.last hx hb hat ((hK.2 1 _ rfl).1 N (fun j => .long (f j))) (fun q => by cases q) (by show ¬ (j < 0 ∨ (arrV _ _ _).slots.size ≤ _); rw [arrV_size]; exact hin) rfl rfl hd fun H1 e z oq => ?_
  refine kk H1 _ ls hl (pm_set hP hk ?_ oq) (hS.put z oq (Nat.le_add_right _ _)) (fun k hk => z.trans (hh k hk))
  show H1[sz + k]? = some (vp_cell _ _)
  rw [e, vp_cell_l, vp_cell_l, arrV_store]
  congr 2
  funext q
  by_cases hq : q = j.toNatClampNeg
  · subst hq
    simp [updV, vp_updL]
  · simp [updV, vp_updL, hq]
theorem pm_get {k i ci j : Nat} {ty : FieldType} {fin : Bool} {fs r : List Value} {v : Value} (hx : p.tables.exec = Jvm.exec) (hb : c.code = cc) (ho : s.vm.findClass own = some m.cls) (hK : va_K D cl (pm_T tc) s) (hF : pm_fok own cl args s i ci j ty fin) (hk : k < n) (hw : w k = .inr (ci, fs)) (hv : fs[j]? = some v) (hd : decode cc pc = .ok (.getfield i, 3))
    (kk : pm_G p l e R s m args below meth c Q D cl sz nL hz n cells slots w (pc + 3) lv (v :: r)) : pm_G p l e R s m args below meth c Q D cl sz nL hz n cells slots w pc lv (.ref (sz + k) :: r) := by
  intro H locs ls hl hP hS hh
  have hg : (pm_L sz n w)[k]? = some (sz + k, .inr (ci, fs)) := by rw [pm_L_get hk, hw]
  obtain ⟨C, T, N, ty0, h1, h2, h3, h4, h5, h6, h7, h8⟩ := hF
  rcases h8 with ⟨ref, h8, h9⟩ | ⟨ref, host, h8, h9⟩
  · exact va_get hx hb h3 (fun _ h => h) ho hK hP k hg h1 j h2 h8 h9 hv hd (kk H locs ls hl hP hS hh)
  · exact va_getN hx hb h3 (fun _ h => h) ho hK hP k hg h1 j h2 h8 h9 hv hd (kk H locs ls hl hP hS hh)
theorem pm_put {k i ci j : Nat} {ty : FieldType} {fs r : List Value} {v : Value} (hx : p.tables.exec = Jvm.exec) (hb : c.code = cc) (ho : s.vm.findClass own = some m.cls) (hK : va_K D cl (pm_T tc) s) (hF : pm_fok own cl args s i ci j ty false) (hk : k < n) (hw : w k = .inr (ci, fs)) (hn : narrow ty v = v) (hfit : fits ty v = true) (hj : j < fs.length) (hd : decode cc pc = .ok (.putfield i, 3))
    (kk : pm_G p l e R s m args below meth c Q D cl sz nL hz n cells slots (va_up w k (.inr (ci, fs.set j v))) (pc + 3) lv r) : pm_G p l e R s m args below meth c Q D cl sz nL hz n cells slots w pc lv (v :: .ref (sz + k) :: r) := by
  intro H locs ls hl hP hS hh
  have hg : (pm_L sz n w)[k]? = some (sz + k, .inr (ci, fs)) := by rw [pm_L_get hk, hw]
  obtain ⟨C, T, N, ty0, h1, h2, h3, h4, h5, h6, h7, h8⟩ := hF
  have hap := va_apart (own := own) h3 (fun _ h => h) ty0 h4 h5 hK h1
  obtain ⟨r0, g1, cell, q1, q2, q3, q4⟩ := hP k _ hg
  have hr : r0 = (C, T, N) := Option.some.inj (g1.symm.trans h1)
  subst hr
  obtain ⟨hSl, hfc, kC, hkC, hkind⟩ := hK.1 ci _ h1
  obtain ⟨cf, kf, fi, f, hi, hsl⟩ := hSl j h2
  have hlay := h3 _ (u_in_lay h2)
  unfold u_lay at hlay
  rw [if_neg (by rw [h6]; decide)] at hlay
  have hst := (u_facts hfc hkC (u_lays h3 (fun _ h => h) h2) hi).1
  have h10 := u_store hfc hkC hkind hlay hi h7 hn hfit
  rcases h8 with ⟨ref, h8, h9⟩ | ⟨ref, host, h8, h9⟩
  · refine W.putK hx hb (f := f) ⟨ho, h8, ⟨_, _, _, h9 _ hi⟩, hst⟩ (by rw [q2]; exact h10) q1 q3 (by rw [hsl]; exact k2_hasslot (q4 j h2)) rfl rfl hd fun H1 e1 e2 e3 => ?_
    rw [hsl] at e1
    exact kk H1 _ ls hl (pm_set hP hk ⟨_, h1, t_OB.to (V := updV (vp_V fs) j v) ⟨_, e1, q2, q3, t_set q4 hap h2 v⟩ (fun i _ => vp_updV_set hj v i)⟩ e3) (hS.put e2 e3 (Nat.le_add_right _ _)) (fun k hk => e2.trans (hh k hk))
  · refine va_WputK hx hb (f := f) ho h8 (h9 _ hi) hst (by rw [q2]; exact h10) q1 q3 (by rw [hsl]; exact k2_hasslot (q4 j h2)) rfl rfl hd fun H1 e1 e2 e3 => ?_
    rw [hsl] at e1
    exact kk H1 _ ls hl (pm_set hP hk ⟨_, h1, t_OB.to (V := updV (vp_V fs) j v) ⟨_, e1, q2, q3, t_set q4 hap h2 v⟩ (fun i _ => vp_updV_set hj v i)⟩ e3) (hS.put e2 e3 (Nat.le_add_right _ _)) (fun k hk => e2.trans (hh k hk))
end PMO
end
section
section PMV
variable {lv : List (Nat × Value)} {st : List Value} {w : Nat → va_E} {pc i nL : Nat} {q : pm_C}
theorem pm_ldi_inv (h : pm_ldi i pc lv st w = some q) : ∃ x, pm_lk lv i = some (.int x) ∧ q = (pc, lv, .int x :: st, w) := by
  unfold pm_ldi at h
  split at h
  · next x hx => exact ⟨x, hx, (Option.some.inj h).symm⟩
  · cases h
theorem pm_ldl_inv (h : pm_ldl i pc lv st w = some q) : ∃ x, pm_lk lv i = some (.long x) ∧ q = (pc, lv, .long x :: st, w) := by
  unfold pm_ldl at h
  split at h
  · next x hx => exact ⟨x, hx, (Option.some.inj h).symm⟩
  · cases h
theorem pm_lda_inv (h : pm_lda i pc lv st w = some q) : ∃ x, pm_lk lv i = some (.ref x) ∧ q = (pc, lv, .ref x :: st, w) := by
  unfold pm_lda at h
  split at h
  · next x hx => exact ⟨x, hx, (Option.some.inj h).symm⟩
  · cases h
theorem pm_sti_inv (h : pm_sti nL i pc lv st w = some q) : ∃ x r, st = .int x :: r ∧ i < nL ∧ q = (pc, (i, .int x) :: pm_f1 i lv, r, w) := by
  unfold pm_sti at h
  split at h
  · next x r =>
    by_cases hi : i < nL
    · rw [if_pos hi] at h
      exact ⟨x, r, rfl, hi, (Option.some.inj h).symm⟩
    · rw [if_neg hi] at h
      cases h
  · cases h
theorem pm_stl_inv (h : pm_stl nL i pc lv st w = some q) : ∃ x r, st = .long x :: r ∧ i + 1 < nL ∧ q = (pc, (i, .long x) :: pm_f2 i lv, r, w) := by
  unfold pm_stl at h
  split at h
  · next x r =>
    by_cases hi : i + 1 < nL
    · rw [if_pos hi] at h
      exact ⟨x, r, rfl, hi, (Option.some.inj h).symm⟩
    · rw [if_neg hi] at h
      cases h
  · cases h
theorem pm_sta_inv (h : pm_sta nL i pc lv st w = some q) : ∃ x r, st = .ref x :: r ∧ i < nL ∧ q = (pc, (i, .ref x) :: pm_f1 i lv, r, w) := by
  unfold pm_sta at h
  split at h
  · next x r =>
    by_cases hi : i < nL
    · rw [if_pos hi] at h
      exact ⟨x, r, rfl, hi, (Option.some.inj h).symm⟩
    · rw [if_neg hi] at h
      cases h
  · cases h
theorem pm_ii_inv {g : Int32 → Int32 → Int32} (h : pm_ii g pc lv st w = some q) : ∃ x y r, st = .int y :: .int x :: r ∧ q = (pc, lv, .int (g x y) :: r, w) := by
  unfold pm_ii at h
  split at h
  · next y x r => exact ⟨x, y, r, rfl, (Option.some.inj h).symm⟩
  · cases h
theorem pm_di_inv {g : Int32 → Int32 → Int32} (h : pm_di g pc lv st w = some q) : ∃ x y r, st = .int y :: .int x :: r ∧ ¬ y = 0 ∧ q = (pc, lv, .int (g x y) :: r, w) := by
  unfold pm_di at h
  split at h
  · next y x r =>
    by_cases hy : y = 0
    · rw [if_pos hy] at h
      cases h
    · rw [if_neg hy] at h
      exact ⟨x, y, r, rfl, hy, (Option.some.inj h).symm⟩
  · cases h
theorem pm_ll_inv {g : Int64 → Int64 → Int64} (h : pm_ll g pc lv st w = some q) : ∃ x y r, st = .long y :: .long x :: r ∧ q = (pc, lv, .long (g x y) :: r, w) := by
  unfold pm_ll at h
  split at h
  · next y x r => exact ⟨x, y, r, rfl, (Option.some.inj h).symm⟩
  · cases h
theorem pm_li_inv {g : Int64 → Int32 → Int64} (h : pm_li g pc lv st w = some q) : ∃ x y r, st = .int y :: .long x :: r ∧ q = (pc, lv, .long (g x y) :: r, w) := by
  unfold pm_li at h
  split at h
  · next y x r => exact ⟨x, y, r, rfl, (Option.some.inj h).symm⟩
  · cases h
end PMV
section PMM
variable {p : Program} {l : Launch} {e : Env} {R : Room} {s : State} {m : MethodId} {args : Array Value} {below : List Frame} {meth : Method} {c : Code} {Q : State → Prop} {cells slots : Nat}
variable {cc : ByteArray} {own : String} {D : va_G} {cl : List vw_C} {tc : Nat → ClassId} {F : pm_FT} {K : Nat → Option Value} {sz nL n pc : Nat} {hz : Option Nat} {w : Nat → va_E} {lv : List (Nat × Value)} {st : List Value}
set_option maxHeartbeats 4000000 in
theorem pm_i_ok (X : pm_X p s m args c cc own D cl tc F K) {i : Instr} (hd : decode cc pc = .ok (i, pm_ln i)) {q : pm_C} (h : pm_i F K tc sz n nL i pc lv st w = some q)
    (kk : pm_G p l e R s m args below meth c Q D cl sz nL hz n cells slots q.2.2.2 q.1 q.2.1 q.2.2.1) : pm_G p l e R s m args below meth c Q D cl sz nL hz n cells slots w pc lv st := by
  obtain ⟨hx, hb, ho, hK, hF, hKi, hKl⟩ := X
  cases i with
  | iconst k =>
    simp only [pm_i] at h
    cases h
    intro H locs ls hl hP hS hh
    exact lv_iconst hx hb hd rfl (kk H locs ls hl hP hS hh)
  | bipush k =>
    simp only [pm_i] at h
    cases h
    intro H locs ls hl hP hS hh
    exact lv_bipush hx hb hd rfl (kk H locs ls hl hP hS hh)
  | sipush k =>
    simp only [pm_i] at h
    cases h
    intro H locs ls hl hP hS hh
    exact lv_sipush hx hb hd rfl (kk H locs ls hl hP hS hh)
  | lconst k =>
    simp only [pm_i] at h
    cases h
    intro H locs ls hl hP hS hh
    exact lv_lconst hx hb hd rfl (kk H locs ls hl hP hS hh)
  | ldc k =>
    simp only [pm_i] at h
    split at h
    · next v hv =>
      cases h
      intro H locs ls hl hP hS hh
      exact lv_ldc hx hb ho (hKi _ _ hv) hd (kk H locs ls hl hP hS hh)
    · cases h
  | ldc2_w k =>
    simp only [pm_i] at h
    split at h
    · next v hv =>
      cases h
      intro H locs ls hl hP hS hh
      exact lv_ldc2 hx hb ho (hKl _ _ hv) hd (kk H locs ls hl hP hS hh)
    · cases h
  | iload_n k =>
    simp only [pm_i] at h
    obtain ⟨x, hx1, rfl⟩ := pm_ldi_inv h
    intro H locs ls hl hP hS hh
    exact lv_iload_n hx hb hd rfl (pm_lk_ok hl hx1) (kk H locs ls hl hP hS hh)
  | iload k =>
    simp only [pm_i] at h
    obtain ⟨x, hx1, rfl⟩ := pm_ldi_inv h
    intro H locs ls hl hP hS hh
    exact lv_iload hx hb hd (pm_lk_ok hl hx1) (kk H locs ls hl hP hS hh)
  | lload_n k =>
    simp only [pm_i] at h
    obtain ⟨x, hx1, rfl⟩ := pm_ldl_inv h
    intro H locs ls hl hP hS hh
    exact lv_lload_n hx hb hd rfl (pm_lk_ok hl hx1) (kk H locs ls hl hP hS hh)
  | lload k =>
    simp only [pm_i] at h
    obtain ⟨x, hx1, rfl⟩ := pm_ldl_inv h
    intro H locs ls hl hP hS hh
    exact lv_lload hx hb hd (pm_lk_ok hl hx1) (kk H locs ls hl hP hS hh)
  | aload_n k =>
    simp only [pm_i] at h
    obtain ⟨x, hx1, rfl⟩ := pm_lda_inv h
    intro H locs ls hl hP hS hh
    exact lv_aload_n hx hb hd rfl (pm_lk_ok hl hx1) (kk H locs ls hl hP hS hh)
  | aload k =>
    simp only [pm_i] at h
    obtain ⟨x, hx1, rfl⟩ := pm_lda_inv h
    intro H locs ls hl hP hS hh
    exact lv_aload hx hb hd (pm_lk_ok hl hx1) (kk H locs ls hl hP hS hh)
  | istore_n k =>
    simp only [pm_i] at h
    obtain ⟨x, r, rfl, hi, rfl⟩ := pm_sti_inv h
    intro H locs ls hl hP hS hh
    exact lv_istore_n hx hb hd rfl hl hi (by rw [pm_f1_eq]) (fun ls' hl' => kk H locs ls' hl' hP hS hh)
  | istore k =>
    simp only [pm_i] at h
    obtain ⟨x, r, rfl, hi, rfl⟩ := pm_sti_inv h
    intro H locs ls hl hP hS hh
    exact lv_istore hx hb hd hl hi (by rw [pm_f1_eq]) (fun ls' hl' => kk H locs ls' hl' hP hS hh)
  | lstore_n k =>
    simp only [pm_i] at h
    obtain ⟨x, r, rfl, hi, rfl⟩ := pm_stl_inv h
    intro H locs ls hl hP hS hh
    exact lv_lstore_n hx hb hd rfl hl hi (by rw [pm_f2_eq]) (fun ls' hl' => kk H locs ls' hl' hP hS hh)
  | lstore k =>
    simp only [pm_i] at h
    obtain ⟨x, r, rfl, hi, rfl⟩ := pm_stl_inv h
    intro H locs ls hl hP hS hh
    exact lv_lstore hx hb hd hl hi (by rw [pm_f2_eq]) (fun ls' hl' => kk H locs ls' hl' hP hS hh)
  | astore_n k =>
    simp only [pm_i] at h
    obtain ⟨x, r, rfl, hi, rfl⟩ := pm_sta_inv h
    intro H locs ls hl hP hS hh
    exact lv_astore_n hx hb hd rfl hl hi (by rw [pm_f1_eq]) (fun ls' hl' => kk H locs ls' hl' hP hS hh)
  | astore k =>
    simp only [pm_i] at h
    obtain ⟨x, r, rfl, hi, rfl⟩ := pm_sta_inv h
    intro H locs ls hl hP hS hh
    exact lv_astore hx hb hd hl hi (by rw [pm_f1_eq]) (fun ls' hl' => kk H locs ls' hl' hP hS hh)
  | iinc k d =>
    simp only [pm_i] at h
    split at h
    · next x hx1 =>
      by_cases hi : k < nL
      · rw [if_pos hi] at h
        cases h
        intro H locs ls hl hP hS hh
        obtain ⟨j, hj⟩ := List.getElem?_of_mem (pm_lk_mem hx1)
        exact lv_iinc hx hb hd hl hj rfl hi (by rw [pm_f1_eq]) (fun ls' hl' => kk H locs ls' hl' hP hS hh)
      · rw [if_neg hi] at h
        cases h
    · cases h
  | iadd =>
    simp only [pm_i] at h
    obtain ⟨x, y, r, rfl, rfl⟩ := pm_ii_inv h
    intro H locs ls hl hP hS hh
    exact lv_iadd hx hb hd (kk H locs ls hl hP hS hh)
  | isub =>
    simp only [pm_i] at h
    obtain ⟨x, y, r, rfl, rfl⟩ := pm_ii_inv h
    intro H locs ls hl hP hS hh
    exact lv_isub hx hb hd (kk H locs ls hl hP hS hh)
  | imul =>
    simp only [pm_i] at h
    obtain ⟨x, y, r, rfl, rfl⟩ := pm_ii_inv h
    intro H locs ls hl hP hS hh
    exact lv_imul hx hb hd (kk H locs ls hl hP hS hh)
  | iand =>
    simp only [pm_i] at h
    obtain ⟨x, y, r, rfl, rfl⟩ := pm_ii_inv h
    intro H locs ls hl hP hS hh
    exact lv_iand hx hb hd (kk H locs ls hl hP hS hh)
  | ior =>
    simp only [pm_i] at h
    obtain ⟨x, y, r, rfl, rfl⟩ := pm_ii_inv h
    intro H locs ls hl hP hS hh
    exact lv_ior hx hb hd (kk H locs ls hl hP hS hh)
  | ixor =>
    simp only [pm_i] at h
    obtain ⟨x, y, r, rfl, rfl⟩ := pm_ii_inv h
    intro H locs ls hl hP hS hh
    exact lv_ixor hx hb hd (kk H locs ls hl hP hS hh)
  | ishl =>
    simp only [pm_i] at h
    obtain ⟨x, y, r, rfl, rfl⟩ := pm_ii_inv h
    intro H locs ls hl hP hS hh
    exact lv_ishl hx hb hd (kk H locs ls hl hP hS hh)
  | ishr =>
    simp only [pm_i] at h
    obtain ⟨x, y, r, rfl, rfl⟩ := pm_ii_inv h
    intro H locs ls hl hP hS hh
    exact lv_ishr hx hb hd (kk H locs ls hl hP hS hh)
  | iushr =>
    simp only [pm_i] at h
    obtain ⟨x, y, r, rfl, rfl⟩ := pm_ii_inv h
    intro H locs ls hl hP hS hh
    exact lv_iushr hx hb hd rfl (kk H locs ls hl hP hS hh)
  | idiv =>
    simp only [pm_i] at h
    obtain ⟨x, y, r, rfl, hy, rfl⟩ := pm_di_inv h
    intro H locs ls hl hP hS hh
    exact lv_idiv hx hb hd hy (kk H locs ls hl hP hS hh)
  | irem =>
    simp only [pm_i] at h
    obtain ⟨x, y, r, rfl, hy, rfl⟩ := pm_di_inv h
    intro H locs ls hl hP hS hh
    exact lv_irem hx hb hd hy (kk H locs ls hl hP hS hh)
  | ladd =>
    simp only [pm_i] at h
    obtain ⟨x, y, r, rfl, rfl⟩ := pm_ll_inv h
    intro H locs ls hl hP hS hh
    exact lv_ladd hx hb hd (kk H locs ls hl hP hS hh)
  | lsub =>
    simp only [pm_i] at h
    obtain ⟨x, y, r, rfl, rfl⟩ := pm_ll_inv h
    intro H locs ls hl hP hS hh
    exact lv_lsub hx hb hd (kk H locs ls hl hP hS hh)
  | lmul =>
    simp only [pm_i] at h
    obtain ⟨x, y, r, rfl, rfl⟩ := pm_ll_inv h
    intro H locs ls hl hP hS hh
    exact lv_lmul hx hb hd (kk H locs ls hl hP hS hh)
  | land =>
    simp only [pm_i] at h
    obtain ⟨x, y, r, rfl, rfl⟩ := pm_ll_inv h
    intro H locs ls hl hP hS hh
    exact lv_land hx hb hd (kk H locs ls hl hP hS hh)
  | lor =>
    simp only [pm_i] at h
    obtain ⟨x, y, r, rfl, rfl⟩ := pm_ll_inv h
    intro H locs ls hl hP hS hh
    exact lv_lor hx hb hd (kk H locs ls hl hP hS hh)
  | lxor =>
    simp only [pm_i] at h
    obtain ⟨x, y, r, rfl, rfl⟩ := pm_ll_inv h
    intro H locs ls hl hP hS hh
    exact lv_lxor hx hb hd (kk H locs ls hl hP hS hh)
  | lshl =>
    simp only [pm_i] at h
    obtain ⟨x, y, r, rfl, rfl⟩ := pm_li_inv h
    intro H locs ls hl hP hS hh
    exact lv_lshl hx hb hd rfl (kk H locs ls hl hP hS hh)
  | lushr =>
    simp only [pm_i] at h
    obtain ⟨x, y, r, rfl, rfl⟩ := pm_li_inv h
    intro H locs ls hl hP hS hh
    exact lv_lushr hx hb hd rfl (kk H locs ls hl hP hS hh)
  | ineg =>
    simp only [pm_i] at h
    split at h
    · cases h
      intro H locs ls hl hP hS hh
      exact lv_ineg hx hb hd (kk H locs ls hl hP hS hh)
    · cases h
  | lcmp =>
    simp only [pm_i] at h
    split at h
    · cases h
      intro H locs ls hl hP hS hh
      exact W.lcmp hx hb hd (kk H locs ls hl hP hS hh)
    · cases h
  | i2l =>
    simp only [pm_i] at h
    split at h
    · cases h
      intro H locs ls hl hP hS hh
      exact lv_i2l hx hb hd rfl (kk H locs ls hl hP hS hh)
    · cases h
  | l2i =>
    simp only [pm_i] at h
    split at h
    · cases h
      intro H locs ls hl hP hS hh
      exact lv_l2i hx hb hd rfl (kk H locs ls hl hP hS hh)
    · cases h
  | dup =>
    simp only [pm_i] at h
    split at h
    · next v r =>
      by_cases hv : v.category = 1
      · rw [if_pos hv] at h
        cases h
        intro H locs ls hl hP hS hh
        exact lv_dup hx hb hd hv (kk H locs ls hl hP hS hh)
      · rw [if_neg hv] at h
        cases h
    · cases h
  | pop =>
    simp only [pm_i] at h
    split at h
    · next v r =>
      by_cases hv : v.category = 1
      · rw [if_pos hv] at h
        cases h
        intro H locs ls hl hP hS hh
        exact lv_pop hx hb hd hv (kk H locs ls hl hP hS hh)
      · rw [if_neg hv] at h
        cases h
    · cases h
  | dup_x1 =>
    simp only [pm_i] at h
    split at h
    · next v u r =>
      by_cases hv : v.category = 1 ∧ u.category = 1
      · rw [if_pos hv] at h
        cases h
        intro H locs ls hl hP hS hh
        exact lv_dup_x1 hx hb hd hv.1 hv.2 (kk H locs ls hl hP hS hh)
      · rw [if_neg hv] at h
        cases h
    · cases h
  | dup2 =>
    simp only [pm_i] at h
    split at h
    · next v u r =>
      by_cases hv : v.category = 1 ∧ u.category = 1
      · rw [if_pos hv] at h
        cases h
        intro H locs ls hl hP hS hh
        exact lv_dup2_11 hx hb hd hv.1 hv.2 (kk H locs ls hl hP hS hh)
      · rw [if_neg hv] at h
        cases h
    · cases h
  | goto off =>
    simp only [pm_i] at h
    by_cases h0 : 0 ≤ (pc : Int) + off
    · rw [if_pos h0] at h
      cases h
      intro H locs ls hl hP hS hh
      exact lv_goto hx hb hd (Int.toNat_of_nonneg h0).symm (kk H locs ls hl hP hS hh)
    · rw [if_neg h0] at h
      cases h
  | ifCond k off =>
    simp only [pm_i] at h
    split at h
    · next x r =>
      by_cases h0 : 0 ≤ (pc : Int) + off
      · rw [if_pos h0] at h
        cases h
        have ht := (Int.toNat_of_nonneg h0).symm
        intro H locs ls hl hP hS hh
        cases k
        · refine lv_if_eq hx hb hd ht (fun hc => ?_) (fun hc => ?_)
          · have h9 : pm_cz .eq x = true := by
              simp only [pm_cz, decide_eq_true_eq]
              exact hc
            have h8 := kk H locs ls hl hP hS hh
            dsimp only at h8
            rw [if_pos h9] at h8
            exact h8
          · have h9 : ¬ pm_cz .eq x = true := by
              simp only [pm_cz, decide_eq_true_eq]
              exact hc
            have h8 := kk H locs ls hl hP hS hh
            dsimp only at h8
            rw [if_neg h9] at h8
            exact h8
        · refine lv_if_ne hx hb hd ht (fun hc => ?_) (fun hc => ?_)
          · have h9 : pm_cz .ne x = true := by
              simp only [pm_cz, decide_eq_true_eq]
              exact hc
            have h8 := kk H locs ls hl hP hS hh
            dsimp only at h8
            rw [if_pos h9] at h8
            exact h8
          · have h9 : ¬ pm_cz .ne x = true := by
              simp only [pm_cz, decide_eq_true_eq]
              exact fun z => z hc
            have h8 := kk H locs ls hl hP hS hh
            dsimp only at h8
            rw [if_neg h9] at h8
            exact h8
        · refine lv_if_lt hx hb hd ht (fun hc => ?_) (fun hc => ?_)
          · have h9 : pm_cz .lt x = true := by
              simp only [pm_cz, decide_eq_true_eq]
              exact hc
            have h8 := kk H locs ls hl hP hS hh
            dsimp only at h8
            rw [if_pos h9] at h8
            exact h8
          · have h9 : ¬ pm_cz .lt x = true := by
              simp only [pm_cz, decide_eq_true_eq]
              exact hc
            have h8 := kk H locs ls hl hP hS hh
            dsimp only at h8
            rw [if_neg h9] at h8
            exact h8
        · refine lv_if_ge hx hb hd ht (fun hc => ?_) (fun hc => ?_)
          · have h9 : pm_cz .ge x = true := by
              simp only [pm_cz, decide_eq_true_eq]
              exact hc
            have h8 := kk H locs ls hl hP hS hh
            dsimp only at h8
            rw [if_pos h9] at h8
            exact h8
          · have h9 : ¬ pm_cz .ge x = true := by
              simp only [pm_cz, decide_eq_true_eq]
              exact hc
            have h8 := kk H locs ls hl hP hS hh
            dsimp only at h8
            rw [if_neg h9] at h8
            exact h8
        · refine lv_if_gt hx hb hd ht (fun hc => ?_) (fun hc => ?_)
          · have h9 : pm_cz .gt x = true := by
              simp only [pm_cz, decide_eq_true_eq]
              exact hc
            have h8 := kk H locs ls hl hP hS hh
            dsimp only at h8
            rw [if_pos h9] at h8
            exact h8
          · have h9 : ¬ pm_cz .gt x = true := by
              simp only [pm_cz, decide_eq_true_eq]
              exact hc
            have h8 := kk H locs ls hl hP hS hh
            dsimp only at h8
            rw [if_neg h9] at h8
            exact h8
        · refine lv_if_le hx hb hd ht (fun hc => ?_) (fun hc => ?_)
          · have h9 : pm_cz .le x = true := by
              simp only [pm_cz, decide_eq_true_eq]
              exact hc
            have h8 := kk H locs ls hl hP hS hh
            dsimp only at h8
            rw [if_pos h9] at h8
            exact h8
          · have h9 : ¬ pm_cz .le x = true := by
              simp only [pm_cz, decide_eq_true_eq]
              exact hc
            have h8 := kk H locs ls hl hP hS hh
            dsimp only at h8
            rw [if_neg h9] at h8
            exact h8
      · rw [if_neg h0] at h
        cases h
    · cases h
  | if_icmp k off =>
    simp only [pm_i] at h
    split at h
    · next y x r =>
      by_cases h0 : 0 ≤ (pc : Int) + off
      · rw [if_pos h0] at h
        cases h
        have ht := (Int.toNat_of_nonneg h0).symm
        intro H locs ls hl hP hS hh
        cases k
        · refine lv_icmp_eq hx hb hd ht (fun hc => ?_) (fun hc => ?_)
          · have h9 : pm_cc .eq x y = true := by
              simp only [pm_cc, decide_eq_true_eq]
              exact hc
            have h8 := kk H locs ls hl hP hS hh
            dsimp only at h8
            rw [if_pos h9] at h8
            exact h8
          · have h9 : ¬ pm_cc .eq x y = true := by
              simp only [pm_cc, decide_eq_true_eq]
              exact hc
            have h8 := kk H locs ls hl hP hS hh
            dsimp only at h8
            rw [if_neg h9] at h8
            exact h8
        · refine lv_icmp_ne hx hb hd ht (fun hc => ?_) (fun hc => ?_)
          · have h9 : pm_cc .ne x y = true := by
              simp only [pm_cc, decide_eq_true_eq]
              exact hc
            have h8 := kk H locs ls hl hP hS hh
            dsimp only at h8
            rw [if_pos h9] at h8
            exact h8
          · have h9 : ¬ pm_cc .ne x y = true := by
              simp only [pm_cc, decide_eq_true_eq]
              exact fun z => z hc
            have h8 := kk H locs ls hl hP hS hh
            dsimp only at h8
            rw [if_neg h9] at h8
            exact h8
        · refine lv_icmp_lt hx hb hd ht (fun hc => ?_) (fun hc => ?_)
          · have h9 : pm_cc .lt x y = true := by
              simp only [pm_cc, decide_eq_true_eq]
              exact hc
            have h8 := kk H locs ls hl hP hS hh
            dsimp only at h8
            rw [if_pos h9] at h8
            exact h8
          · have h9 : ¬ pm_cc .lt x y = true := by
              simp only [pm_cc, decide_eq_true_eq]
              exact hc
            have h8 := kk H locs ls hl hP hS hh
            dsimp only at h8
            rw [if_neg h9] at h8
            exact h8
        · refine lv_icmp_ge hx hb hd ht (fun hc => ?_) (fun hc => ?_)
          · have h9 : pm_cc .ge x y = true := by
              simp only [pm_cc, decide_eq_true_eq]
              exact hc
            have h8 := kk H locs ls hl hP hS hh
            dsimp only at h8
            rw [if_pos h9] at h8
            exact h8
          · have h9 : ¬ pm_cc .ge x y = true := by
              simp only [pm_cc, decide_eq_true_eq]
              exact hc
            have h8 := kk H locs ls hl hP hS hh
            dsimp only at h8
            rw [if_neg h9] at h8
            exact h8
        · refine lv_icmp_gt hx hb hd ht (fun hc => ?_) (fun hc => ?_)
          · have h9 : pm_cc .gt x y = true := by
              simp only [pm_cc, decide_eq_true_eq]
              exact hc
            have h8 := kk H locs ls hl hP hS hh
            dsimp only at h8
            rw [if_pos h9] at h8
            exact h8
          · have h9 : ¬ pm_cc .gt x y = true := by
              simp only [pm_cc, decide_eq_true_eq]
              exact hc
            have h8 := kk H locs ls hl hP hS hh
            dsimp only at h8
            rw [if_neg h9] at h8
            exact h8
        · refine lv_icmp_le hx hb hd ht (fun hc => ?_) (fun hc => ?_)
          · have h9 : pm_cc .le x y = true := by
              simp only [pm_cc, decide_eq_true_eq]
              exact hc
            have h8 := kk H locs ls hl hP hS hh
            dsimp only at h8
            rw [if_pos h9] at h8
            exact h8
          · have h9 : ¬ pm_cc .le x y = true := by
              simp only [pm_cc, decide_eq_true_eq]
              exact hc
            have h8 := kk H locs ls hl hP hS hh
            dsimp only at h8
            rw [if_neg h9] at h8
            exact h8
      · rw [if_neg h0] at h
        cases h
    · cases h
  | iaload =>
    simp only [pm_i] at h
    split at h
    · next j a r =>
      obtain ⟨N, f, hat, hj, rfl⟩ := pm_ial_inv h
      obtain ⟨k, rfl, hk, hw, -⟩ := pm_at_inv hat
      intro H locs ls hl hP hS hh
      exact va_iald hx hb hK hP k 0 (by rw [pm_L_get hk, hw]) rfl hj hd (kk H locs ls hl hP hS hh)
    · cases h
  | baload =>
    simp only [pm_i] at h
    split at h
    · next j a r =>
      obtain ⟨N, f, hat, hj, rfl⟩ := pm_ial_inv h
      obtain ⟨k, rfl, hk, hw, -⟩ := pm_at_inv hat
      intro H locs ls hl hP hS hh
      exact va_zald hx hb hK hP k 2 (by rw [pm_L_get hk, hw]) rfl hj hd (kk H locs ls hl hP hS hh)
    · cases h
  | laload =>
    simp only [pm_i] at h
    split at h
    · next j a r =>
      obtain ⟨N, f, hat, hj, rfl⟩ := pm_lal_inv h
      obtain ⟨k, rfl, hk, hw, -⟩ := pm_at_inv hat
      intro H locs ls hl hP hS hh
      exact va_lald hx hb hK hP k 1 (by rw [pm_L_get hk, hw]) rfl hj hd (kk H locs ls hl hP hS hh)
    · cases h
  | aaload =>
    simp only [pm_i] at h
    split at h
    · next j a r =>
      obtain ⟨cA, N, f, hc, hat, hj, rfl⟩ := pm_aal_inv h
      obtain ⟨k, rfl, hk, hw, -⟩ := pm_at_inv hat
      intro H locs ls hl hP hS hh
      rcases hc with hc | hc
      · subst hc
        exact va_aldq hx hb hK hP k 3 (by rw [pm_L_get hk, hw]) rfl hj hd (kk H locs ls hl hP hS hh)
      · subst hc
        exact va_aldq hx hb hK hP k 4 (by rw [pm_L_get hk, hw]) rfl hj hd (kk H locs ls hl hP hS hh)
    · cases h
  | iastore =>
    simp only [pm_i] at h
    split at h
    · next x j a r =>
      obtain ⟨N, f, hat, hj, rfl⟩ := pm_ias_inv h
      obtain ⟨k, rfl, hk, hw, he⟩ := pm_at_inv hat
      rw [he] at kk
      exact pm_iast hx hb hK hk hw hj hd kk
    · cases h
  | bastore =>
    simp only [pm_i] at h
    split at h
    · next x j a r =>
      obtain ⟨N, f, hat, hj, rfl⟩ := pm_ias_inv h
      obtain ⟨k, rfl, hk, hw, he⟩ := pm_at_inv hat
      rw [he] at kk
      exact pm_zast hx hb hK hk hw hj hd kk
    · cases h
  | lastore =>
    simp only [pm_i] at h
    split at h
    · next x j a r =>
      obtain ⟨N, f, hat, hj, rfl⟩ := pm_las_inv h
      obtain ⟨k, rfl, hk, hw, he⟩ := pm_at_inv hat
      rw [he] at kk
      exact pm_last hx hb hK hk hw hj hd kk
    · cases h
  | arraylength =>
    simp only [pm_i] at h
    split at h
    · next a r =>
      obtain ⟨cA, x, hc, hat, rfl⟩ := pm_len_inv h
      obtain ⟨k, rfl, hk, hw, -⟩ := pm_at_inv hat
      intro H locs ls hl hP hS hh
      rcases hc with hc | hc | hc
      · subst hc
        exact va_alen hx hb hK hP k 0 (by rw [pm_L_get hk, hw]) rfl rfl hd (kk H locs ls hl hP hS hh)
      · subst hc
        exact va_alen hx hb hK hP k 1 (by rw [pm_L_get hk, hw]) rfl rfl hd (kk H locs ls hl hP hS hh)
      · subst hc
        exact va_alen hx hb hK hP k 2 (by rw [pm_L_get hk, hw]) rfl rfl hd (kk H locs ls hl hP hS hh)
    · cases h
  | getfield k0 =>
    simp only [pm_i] at h
    split at h
    · next a r =>
      obtain ⟨ci, i, ty, fin, fs, u, hf, hat, hu, rfl⟩ := pm_gf_inv h
      obtain ⟨k, rfl, hk, hw, -⟩ := pm_at_inv hat
      exact pm_get hx hb ho hK (hF _ _ _ _ _ hf) hk hw hu hd kk
    · cases h
  | putfield k0 =>
    simp only [pm_i] at h
    split at h
    · next v a r =>
      obtain ⟨ci, i, ty, fs, hf, hat, h1, h2, h3, rfl⟩ := pm_pf_inv h
      obtain ⟨k, rfl, hk, hw, he⟩ := pm_at_inv hat
      rw [he] at kk
      exact pm_put hx hb ho hK (hF _ _ _ _ _ hf) hk hw h1 h2 h3 hd kk
    · cases h
  | _ => simp [pm_i] at h
theorem pm_v_ok (X : pm_X p s m args c cc own D cl tc F K) : ∀ (k pc : Nat) (lv : List (Nat × Value)) (st : List Value) (w : Nat → va_E) {pc' : Nat} {lv' : List (Nat × Value)} {st' : List Value} {w' : Nat → va_E}, pm_v cc F K tc sz n nL k pc lv st w = some (pc', lv', st', w') →
    pm_G p l e R s m args below meth c Q D cl sz nL hz n cells slots w' pc' lv' st' → pm_G p l e R s m args below meth c Q D cl sz nL hz n cells slots w pc lv st := by
  intro k
  induction k with
  | zero =>
    intro pc lv st w pc' lv' st' w' h kk
    cases h
    exact kk
  | succ k ih =>
    intro pc lv st w pc' lv' st' w' h kk
    unfold pm_v at h
    split at h
    · next pc1 lv1 st1 w1 h1 =>
      cases hdc : decode cc pc with
      | error z =>
        rw [hdc] at h1
        cases h1
      | ok z =>
        obtain ⟨i, len⟩ := z
        rw [hdc] at h1
        unfold pm_d at h1
        by_cases hlen : len = pm_ln i
        · subst hlen
          simp only [if_true] at h1
          exact pm_i_ok X hdc h1 (ih pc1 lv1 st1 w1 h kk)
        · simp only [if_neg hlen] at h1
          cases h1
    · cases h
end PMM
end
section
section PMR
variable {cc : ByteArray} {F : pm_FT} {K : Nat → Option Value} {tc : Nat → ClassId} {sz n nL k pc i : Nat} {lv : List (Nat × Value)} {st r : List Value} {w : Nat → va_E}
theorem pv_0 : pm_v cc F K tc sz n nL 0 pc lv st w = some (pc, lv, st, w) := rfl
theorem pv_s : pm_v cc F K tc sz n nL (k + 1) pc lv st w = (pm_d F K tc sz n nL (decode cc pc) pc lv st w).bind (fun q => pm_v cc F K tc sz n nL k q.1 q.2.1 q.2.2.1 q.2.2.2) := by
  show (match pm_d F K tc sz n nL (decode cc pc) pc lv st w with
    | some (pc', lv', st', w') => pm_v cc F K tc sz n nL k pc' lv' st' w'
    | none => none) = _
  cases pm_d F K tc sz n nL (decode cc pc) pc lv st w <;> rfl
theorem pd_iconst {z : Int} : pm_d F K tc sz n nL (.ok (.iconst z, 1)) pc lv (st) w = some (pc + 1, lv, .int (Int32.ofInt z) :: st, w) := rfl
theorem pd_bipush {z : Int} : pm_d F K tc sz n nL (.ok (.bipush z, 2)) pc lv (st) w = some (pc + 2, lv, .int (Int8.ofInt z).toInt32 :: st, w) := rfl
theorem pd_sipush {z : Int} : pm_d F K tc sz n nL (.ok (.sipush z, 3)) pc lv (st) w = some (pc + 3, lv, .int (Int16.ofInt z).toInt32 :: st, w) := rfl
theorem pd_lconst_0 : pm_d F K tc sz n nL (.ok (.lconst 0, 1)) pc lv (st) w = some (pc + 1, lv, .long 0 :: st, w) := rfl
theorem pd_lconst_1 : pm_d F K tc sz n nL (.ok (.lconst 1, 1)) pc lv (st) w = some (pc + 1, lv, .long 1 :: st, w) := rfl
theorem pd_ldc : pm_d F K tc sz n nL (.ok (.ldc i, 2)) pc lv (st) w = (match K i with | some (.int v) => some (pc + 2, lv, .int v :: st, w) | _ => none) := rfl
theorem pd_ldc2 : pm_d F K tc sz n nL (.ok (.ldc2_w i, 3)) pc lv (st) w = (match K i with | some (.long v) => some (pc + 3, lv, .long v :: st, w) | _ => none) := rfl
theorem pd_iload_0 : pm_d F K tc sz n nL (.ok (.iload_n 0, 1)) pc lv (st) w = pm_ldi 0 (pc + 1) lv st w := rfl
theorem pd_iload_1 : pm_d F K tc sz n nL (.ok (.iload_n 1, 1)) pc lv (st) w = pm_ldi 1 (pc + 1) lv st w := rfl
theorem pd_iload_2 : pm_d F K tc sz n nL (.ok (.iload_n 2, 1)) pc lv (st) w = pm_ldi 2 (pc + 1) lv st w := rfl
theorem pd_iload_3 : pm_d F K tc sz n nL (.ok (.iload_n 3, 1)) pc lv (st) w = pm_ldi 3 (pc + 1) lv st w := rfl
theorem pd_iload : pm_d F K tc sz n nL (.ok (.iload i, 2)) pc lv (st) w = pm_ldi i (pc + 2) lv st w := rfl
theorem pd_lload_0 : pm_d F K tc sz n nL (.ok (.lload_n 0, 1)) pc lv (st) w = pm_ldl 0 (pc + 1) lv st w := rfl
theorem pd_lload_1 : pm_d F K tc sz n nL (.ok (.lload_n 1, 1)) pc lv (st) w = pm_ldl 1 (pc + 1) lv st w := rfl
theorem pd_lload_2 : pm_d F K tc sz n nL (.ok (.lload_n 2, 1)) pc lv (st) w = pm_ldl 2 (pc + 1) lv st w := rfl
theorem pd_lload_3 : pm_d F K tc sz n nL (.ok (.lload_n 3, 1)) pc lv (st) w = pm_ldl 3 (pc + 1) lv st w := rfl
theorem pd_lload : pm_d F K tc sz n nL (.ok (.lload i, 2)) pc lv (st) w = pm_ldl i (pc + 2) lv st w := rfl
theorem pd_aload_0 : pm_d F K tc sz n nL (.ok (.aload_n 0, 1)) pc lv (st) w = pm_lda 0 (pc + 1) lv st w := rfl
theorem pd_aload_1 : pm_d F K tc sz n nL (.ok (.aload_n 1, 1)) pc lv (st) w = pm_lda 1 (pc + 1) lv st w := rfl
theorem pd_aload_2 : pm_d F K tc sz n nL (.ok (.aload_n 2, 1)) pc lv (st) w = pm_lda 2 (pc + 1) lv st w := rfl
theorem pd_aload_3 : pm_d F K tc sz n nL (.ok (.aload_n 3, 1)) pc lv (st) w = pm_lda 3 (pc + 1) lv st w := rfl
theorem pd_aload : pm_d F K tc sz n nL (.ok (.aload i, 2)) pc lv (st) w = pm_lda i (pc + 2) lv st w := rfl
theorem pd_istore_0 : pm_d F K tc sz n nL (.ok (.istore_n 0, 1)) pc lv (st) w = pm_sti nL 0 (pc + 1) lv st w := rfl
theorem pd_istore_1 : pm_d F K tc sz n nL (.ok (.istore_n 1, 1)) pc lv (st) w = pm_sti nL 1 (pc + 1) lv st w := rfl
theorem pd_istore_2 : pm_d F K tc sz n nL (.ok (.istore_n 2, 1)) pc lv (st) w = pm_sti nL 2 (pc + 1) lv st w := rfl
theorem pd_istore_3 : pm_d F K tc sz n nL (.ok (.istore_n 3, 1)) pc lv (st) w = pm_sti nL 3 (pc + 1) lv st w := rfl
theorem pd_istore : pm_d F K tc sz n nL (.ok (.istore i, 2)) pc lv (st) w = pm_sti nL i (pc + 2) lv st w := rfl
theorem pd_lstore_0 : pm_d F K tc sz n nL (.ok (.lstore_n 0, 1)) pc lv (st) w = pm_stl nL 0 (pc + 1) lv st w := rfl
theorem pd_lstore_1 : pm_d F K tc sz n nL (.ok (.lstore_n 1, 1)) pc lv (st) w = pm_stl nL 1 (pc + 1) lv st w := rfl
theorem pd_lstore_2 : pm_d F K tc sz n nL (.ok (.lstore_n 2, 1)) pc lv (st) w = pm_stl nL 2 (pc + 1) lv st w := rfl
theorem pd_lstore_3 : pm_d F K tc sz n nL (.ok (.lstore_n 3, 1)) pc lv (st) w = pm_stl nL 3 (pc + 1) lv st w := rfl
theorem pd_lstore : pm_d F K tc sz n nL (.ok (.lstore i, 2)) pc lv (st) w = pm_stl nL i (pc + 2) lv st w := rfl
theorem pd_astore_0 : pm_d F K tc sz n nL (.ok (.astore_n 0, 1)) pc lv (st) w = pm_sta nL 0 (pc + 1) lv st w := rfl
theorem pd_astore_1 : pm_d F K tc sz n nL (.ok (.astore_n 1, 1)) pc lv (st) w = pm_sta nL 1 (pc + 1) lv st w := rfl
theorem pd_astore_2 : pm_d F K tc sz n nL (.ok (.astore_n 2, 1)) pc lv (st) w = pm_sta nL 2 (pc + 1) lv st w := rfl
theorem pd_astore_3 : pm_d F K tc sz n nL (.ok (.astore_n 3, 1)) pc lv (st) w = pm_sta nL 3 (pc + 1) lv st w := rfl
theorem pd_astore : pm_d F K tc sz n nL (.ok (.astore i, 2)) pc lv (st) w = pm_sta nL i (pc + 2) lv st w := rfl
theorem pd_iinc {d : Int} : pm_d F K tc sz n nL (.ok (.iinc i d, 3)) pc lv (st) w = (match pm_lk lv i with | some (.int x) => if i < nL then some (pc + 3, (i, .int (x + Int32.ofInt d)) :: pm_f1 i lv, st, w) else none | _ => none) := rfl
theorem pd_iadd {x y : Int32} : pm_d F K tc sz n nL (.ok (.iadd, 1)) pc lv (.int y :: .int x :: r) w = some (pc + 1, lv, .int (x + y) :: r, w) := rfl
theorem pd_isub {x y : Int32} : pm_d F K tc sz n nL (.ok (.isub, 1)) pc lv (.int y :: .int x :: r) w = some (pc + 1, lv, .int (x - y) :: r, w) := rfl
theorem pd_imul {x y : Int32} : pm_d F K tc sz n nL (.ok (.imul, 1)) pc lv (.int y :: .int x :: r) w = some (pc + 1, lv, .int (x * y) :: r, w) := rfl
theorem pd_iand {x y : Int32} : pm_d F K tc sz n nL (.ok (.iand, 1)) pc lv (.int y :: .int x :: r) w = some (pc + 1, lv, .int (x &&& y) :: r, w) := rfl
theorem pd_ior {x y : Int32} : pm_d F K tc sz n nL (.ok (.ior, 1)) pc lv (.int y :: .int x :: r) w = some (pc + 1, lv, .int (x ||| y) :: r, w) := rfl
theorem pd_ixor {x y : Int32} : pm_d F K tc sz n nL (.ok (.ixor, 1)) pc lv (.int y :: .int x :: r) w = some (pc + 1, lv, .int (x ^^^ y) :: r, w) := rfl
theorem pd_ishl {x y : Int32} : pm_d F K tc sz n nL (.ok (.ishl, 1)) pc lv (.int y :: .int x :: r) w = some (pc + 1, lv, .int (jv_shl x y) :: r, w) := rfl
theorem pd_ishr {x y : Int32} : pm_d F K tc sz n nL (.ok (.ishr, 1)) pc lv (.int y :: .int x :: r) w = some (pc + 1, lv, .int (jv_shr x y) :: r, w) := rfl
theorem pd_iushr {x y : Int32} : pm_d F K tc sz n nL (.ok (.iushr, 1)) pc lv (.int y :: .int x :: r) w = some (pc + 1, lv, .int (jv_ushr x y) :: r, w) := rfl
theorem pd_idiv {x y : Int32} : pm_d F K tc sz n nL (.ok (.idiv, 1)) pc lv (.int y :: .int x :: r) w = (if y = 0 then none else some (pc + 1, lv, .int (x / y) :: r, w)) := rfl
theorem pd_irem {x y : Int32} : pm_d F K tc sz n nL (.ok (.irem, 1)) pc lv (.int y :: .int x :: r) w = (if y = 0 then none else some (pc + 1, lv, .int (jv_rem x y) :: r, w)) := rfl
theorem pd_ineg {x : Int32} : pm_d F K tc sz n nL (.ok (.ineg, 1)) pc lv (.int x :: r) w = some (pc + 1, lv, .int (-x) :: r, w) := rfl
theorem pd_ladd {x y : Int64} : pm_d F K tc sz n nL (.ok (.ladd, 1)) pc lv (.long y :: .long x :: r) w = some (pc + 1, lv, .long (x + y) :: r, w) := rfl
theorem pd_lsub {x y : Int64} : pm_d F K tc sz n nL (.ok (.lsub, 1)) pc lv (.long y :: .long x :: r) w = some (pc + 1, lv, .long (x - y) :: r, w) := rfl
theorem pd_lmul {x y : Int64} : pm_d F K tc sz n nL (.ok (.lmul, 1)) pc lv (.long y :: .long x :: r) w = some (pc + 1, lv, .long (x * y) :: r, w) := rfl
theorem pd_land {x y : Int64} : pm_d F K tc sz n nL (.ok (.land, 1)) pc lv (.long y :: .long x :: r) w = some (pc + 1, lv, .long (x &&& y) :: r, w) := rfl
theorem pd_lor {x y : Int64} : pm_d F K tc sz n nL (.ok (.lor, 1)) pc lv (.long y :: .long x :: r) w = some (pc + 1, lv, .long (x ||| y) :: r, w) := rfl
theorem pd_lxor {x y : Int64} : pm_d F K tc sz n nL (.ok (.lxor, 1)) pc lv (.long y :: .long x :: r) w = some (pc + 1, lv, .long (x ^^^ y) :: r, w) := rfl
theorem pd_lshl {x : Int64} {y : Int32} : pm_d F K tc sz n nL (.ok (.lshl, 1)) pc lv (.int y :: .long x :: r) w = some (pc + 1, lv, .long (jl_shl x y) :: r, w) := rfl
theorem pd_lushr {x : Int64} {y : Int32} : pm_d F K tc sz n nL (.ok (.lushr, 1)) pc lv (.int y :: .long x :: r) w = some (pc + 1, lv, .long (jl_ushr x y) :: r, w) := rfl
theorem pd_lcmp {x y : Int64} : pm_d F K tc sz n nL (.ok (.lcmp, 1)) pc lv (.long y :: .long x :: r) w = some (pc + 1, lv, .int (lg_cmp x y) :: r, w) := rfl
theorem pd_i2l {x : Int32} : pm_d F K tc sz n nL (.ok (.i2l, 1)) pc lv (.int x :: r) w = some (pc + 1, lv, .long x.toInt64 :: r, w) := rfl
theorem pd_l2i {x : Int64} : pm_d F K tc sz n nL (.ok (.l2i, 1)) pc lv (.long x :: r) w = some (pc + 1, lv, .int x.toInt32 :: r, w) := rfl
theorem pd_dup_int {x : Int32} : pm_d F K tc sz n nL (.ok (.dup, 1)) pc lv (.int x :: r) w = some (pc + 1, lv, .int x :: .int x :: r, w) := rfl
theorem pd_pop_int {x : Int32} : pm_d F K tc sz n nL (.ok (.pop, 1)) pc lv (.int x :: r) w = some (pc + 1, lv, r, w) := rfl
theorem pd_dup_ref {x : Nat} : pm_d F K tc sz n nL (.ok (.dup, 1)) pc lv (.ref x :: r) w = some (pc + 1, lv, .ref x :: .ref x :: r, w) := rfl
theorem pd_pop_ref {x : Nat} : pm_d F K tc sz n nL (.ok (.pop, 1)) pc lv (.ref x :: r) w = some (pc + 1, lv, r, w) := rfl
theorem pd_dup_x1_ir {x : Int32} {y : Nat} : pm_d F K tc sz n nL (.ok (.dup_x1, 1)) pc lv (.int x :: .ref y :: r) w = some (pc + 1, lv, .int x :: .ref y :: .int x :: r, w) := rfl
theorem pd_dup_x1_ii {x y : Int32} : pm_d F K tc sz n nL (.ok (.dup_x1, 1)) pc lv (.int x :: .int y :: r) w = some (pc + 1, lv, .int x :: .int y :: .int x :: r, w) := rfl
theorem pd_dup2_ir {x : Int32} {y : Nat} : pm_d F K tc sz n nL (.ok (.dup2, 1)) pc lv (.int x :: .ref y :: r) w = some (pc + 1, lv, .int x :: .ref y :: .int x :: .ref y :: r, w) := rfl
theorem pd_dup2_ii {x y : Int32} : pm_d F K tc sz n nL (.ok (.dup2, 1)) pc lv (.int x :: .int y :: r) w = some (pc + 1, lv, .int x :: .int y :: .int x :: .int y :: r, w) := rfl
theorem pd_goto {z : Int} : pm_d F K tc sz n nL (.ok (.goto z, 3)) pc lv (st) w = (if 0 ≤ (pc : Int) + z then some (((pc : Int) + z).toNat, lv, st, w) else none) := rfl
theorem pd_if_eq {z : Int} {x : Int32} : pm_d F K tc sz n nL (.ok (.ifCond .eq z, 3)) pc lv (.int x :: r) w = (if 0 ≤ (pc : Int) + z then some ((if x = 0 then ((pc : Int) + z).toNat else pc + 3), lv, r, w) else none) := by simp [pm_d, pm_i, pm_ln, pm_cz]
theorem pd_if_ne {z : Int} {x : Int32} : pm_d F K tc sz n nL (.ok (.ifCond .ne z, 3)) pc lv (.int x :: r) w = (if 0 ≤ (pc : Int) + z then some ((if ¬ x = 0 then ((pc : Int) + z).toNat else pc + 3), lv, r, w) else none) := by simp [pm_d, pm_i, pm_ln, pm_cz]
theorem pd_if_lt {z : Int} {x : Int32} : pm_d F K tc sz n nL (.ok (.ifCond .lt z, 3)) pc lv (.int x :: r) w = (if 0 ≤ (pc : Int) + z then some ((if x < 0 then ((pc : Int) + z).toNat else pc + 3), lv, r, w) else none) := by simp [pm_d, pm_i, pm_ln, pm_cz]
theorem pd_if_ge {z : Int} {x : Int32} : pm_d F K tc sz n nL (.ok (.ifCond .ge z, 3)) pc lv (.int x :: r) w = (if 0 ≤ (pc : Int) + z then some ((if 0 ≤ x then ((pc : Int) + z).toNat else pc + 3), lv, r, w) else none) := by simp [pm_d, pm_i, pm_ln, pm_cz]
theorem pd_if_gt {z : Int} {x : Int32} : pm_d F K tc sz n nL (.ok (.ifCond .gt z, 3)) pc lv (.int x :: r) w = (if 0 ≤ (pc : Int) + z then some ((if 0 < x then ((pc : Int) + z).toNat else pc + 3), lv, r, w) else none) := by simp [pm_d, pm_i, pm_ln, pm_cz]
theorem pd_if_le {z : Int} {x : Int32} : pm_d F K tc sz n nL (.ok (.ifCond .le z, 3)) pc lv (.int x :: r) w = (if 0 ≤ (pc : Int) + z then some ((if x ≤ 0 then ((pc : Int) + z).toNat else pc + 3), lv, r, w) else none) := by simp [pm_d, pm_i, pm_ln, pm_cz]
theorem pd_icmp_eq {z : Int} {x y : Int32} : pm_d F K tc sz n nL (.ok (.if_icmp .eq z, 3)) pc lv (.int y :: .int x :: r) w = (if 0 ≤ (pc : Int) + z then some ((if x = y then ((pc : Int) + z).toNat else pc + 3), lv, r, w) else none) := by simp [pm_d, pm_i, pm_ln, pm_cc]
theorem pd_icmp_ne {z : Int} {x y : Int32} : pm_d F K tc sz n nL (.ok (.if_icmp .ne z, 3)) pc lv (.int y :: .int x :: r) w = (if 0 ≤ (pc : Int) + z then some ((if ¬ x = y then ((pc : Int) + z).toNat else pc + 3), lv, r, w) else none) := by simp [pm_d, pm_i, pm_ln, pm_cc]
theorem pd_icmp_lt {z : Int} {x y : Int32} : pm_d F K tc sz n nL (.ok (.if_icmp .lt z, 3)) pc lv (.int y :: .int x :: r) w = (if 0 ≤ (pc : Int) + z then some ((if x < y then ((pc : Int) + z).toNat else pc + 3), lv, r, w) else none) := by simp [pm_d, pm_i, pm_ln, pm_cc]
theorem pd_icmp_ge {z : Int} {x y : Int32} : pm_d F K tc sz n nL (.ok (.if_icmp .ge z, 3)) pc lv (.int y :: .int x :: r) w = (if 0 ≤ (pc : Int) + z then some ((if y ≤ x then ((pc : Int) + z).toNat else pc + 3), lv, r, w) else none) := by simp [pm_d, pm_i, pm_ln, pm_cc]
theorem pd_icmp_gt {z : Int} {x y : Int32} : pm_d F K tc sz n nL (.ok (.if_icmp .gt z, 3)) pc lv (.int y :: .int x :: r) w = (if 0 ≤ (pc : Int) + z then some ((if y < x then ((pc : Int) + z).toNat else pc + 3), lv, r, w) else none) := by simp [pm_d, pm_i, pm_ln, pm_cc]
theorem pd_icmp_le {z : Int} {x y : Int32} : pm_d F K tc sz n nL (.ok (.if_icmp .le z, 3)) pc lv (.int y :: .int x :: r) w = (if 0 ≤ (pc : Int) + z then some ((if x ≤ y then ((pc : Int) + z).toNat else pc + 3), lv, r, w) else none) := by simp [pm_d, pm_i, pm_ln, pm_cc]
theorem pd_iaload {j : Int32} {a : Nat} : pm_d F K tc sz n nL (.ok (.iaload, 1)) pc lv (.int j :: .ref a :: r) w = pm_ial (tc 0) (pm_at sz n w a) j (pc + 1) lv r w := rfl
theorem pd_baload {j : Int32} {a : Nat} : pm_d F K tc sz n nL (.ok (.baload, 1)) pc lv (.int j :: .ref a :: r) w = pm_ial (tc 2) (pm_at sz n w a) j (pc + 1) lv r w := rfl
theorem pd_laload {j : Int32} {a : Nat} : pm_d F K tc sz n nL (.ok (.laload, 1)) pc lv (.int j :: .ref a :: r) w = pm_lal (tc 1) (pm_at sz n w a) j (pc + 1) lv r w := rfl
theorem pd_aaload {j : Int32} {a : Nat} : pm_d F K tc sz n nL (.ok (.aaload, 1)) pc lv (.int j :: .ref a :: r) w = pm_aal (tc 3) (tc 4) (pm_at sz n w a) j (pc + 1) lv r w := rfl
theorem pd_iastore {j : Int32} {a : Nat} {x : Int32} : pm_d F K tc sz n nL (.ok (.iastore, 1)) pc lv (.int x :: .int j :: .ref a :: r) w = pm_ias (tc 0) (pm_at sz n w a) (a - sz) j x (pc + 1) lv r w := rfl
theorem pd_bastore {j : Int32} {a : Nat} {x : Int32} : pm_d F K tc sz n nL (.ok (.bastore, 1)) pc lv (.int x :: .int j :: .ref a :: r) w = pm_ias (tc 2) (pm_at sz n w a) (a - sz) j (vp_nar .boolean x) (pc + 1) lv r w := rfl
theorem pd_lastore {j : Int32} {a : Nat} {x : Int64} : pm_d F K tc sz n nL (.ok (.lastore, 1)) pc lv (.long x :: .int j :: .ref a :: r) w = pm_las (tc 1) (pm_at sz n w a) (a - sz) j x (pc + 1) lv r w := rfl
theorem pd_alen {a : Nat} : pm_d F K tc sz n nL (.ok (.arraylength, 1)) pc lv (.ref a :: r) w = pm_len tc (pm_at sz n w a) (pc + 1) lv r w := rfl
theorem pd_getfield {a : Nat} : pm_d F K tc sz n nL (.ok (.getfield i, 3)) pc lv (.ref a :: r) w = pm_gf (F i) (pm_at sz n w a) (pc + 3) lv r w := rfl
theorem pd_putfield {a : Nat} {v : Value} : pm_d F K tc sz n nL (.ok (.putfield i, 3)) pc lv (v :: .ref a :: r) w = pm_pf (F i) (pm_at sz n w a) (a - sz) v (pc + 3) lv r w := rfl
theorem ph_ial {j x : Int32} {N : Nat} {c0 c1 : ClassId} {f : Nat → Int32} : pm_ial c0 (some (.inl (c0, N, .inl f))) j pc lv r w = (pm_ix j N).map (fun i => (pc, lv, .int (f i) :: r, w)) := if_pos rfl
theorem ph_lal {j x : Int32} {N : Nat} {c0 c1 : ClassId} {f : Nat → Int64} : pm_lal c0 (some (.inl (c0, N, .inr (.inl f)))) j pc lv r w = (pm_ix j N).map (fun i => (pc, lv, .long (f i) :: r, w)) := if_pos rfl
theorem ph_aal0 {j x : Int32} {N : Nat} {c0 c1 : ClassId} {f : Nat → Option Nat} : pm_aal c0 c1 (some (.inl (c0, N, .inr (.inr (.inr (.inr f)))))) j pc lv r w = (pm_ix j N).map (fun i => (pc, lv, va_rf (f i) :: r, w)) := if_pos (Or.inl rfl)
theorem ph_aal1 {j x : Int32} {N : Nat} {c0 c1 : ClassId} {f : Nat → Option Nat} : pm_aal c0 c1 (some (.inl (c1, N, .inr (.inr (.inr (.inr f)))))) j pc lv r w = (pm_ix j N).map (fun i => (pc, lv, va_rf (f i) :: r, w)) := if_pos (Or.inr rfl)
theorem ph_ias {j x : Int32} {N : Nat} {c0 c1 : ClassId} {f : Nat → Int32} : pm_ias c0 (some (.inl (c0, N, .inl f))) k j x pc lv r w = (pm_ix j N).map (fun i => (pc, lv, r, va_up w k (.inl (c0, N, .inl (upd f i x))))) := if_pos rfl
theorem ph_las {j : Int32} {x : Int64} {N : Nat} {c0 : ClassId} {f : Nat → Int64} : pm_las c0 (some (.inl (c0, N, .inr (.inl f)))) k j x pc lv r w = (pm_ix j N).map (fun i => (pc, lv, r, va_up w k (.inl (c0, N, .inr (.inl (vp_updL f i x)))))) := if_pos rfl
theorem ph_len0 {y : vp_A} : pm_len tc (some (.inl (tc 0, y))) pc lv r w = some (pc, lv, .int (Int32.ofNat y.1) :: r, w) := if_pos (by simp)
theorem ph_len1 {y : vp_A} : pm_len tc (some (.inl (tc 1, y))) pc lv r w = some (pc, lv, .int (Int32.ofNat y.1) :: r, w) := if_pos (by simp)
theorem ph_len2 {y : vp_A} : pm_len tc (some (.inl (tc 2, y))) pc lv r w = some (pc, lv, .int (Int32.ofNat y.1) :: r, w) := if_pos (by simp)
theorem ph_gf {ci i : Nat} {ty : FieldType} {fin : Bool} {fs : List Value} : pm_gf (some (ci, i, ty, fin)) (some (.inr (ci, fs))) pc lv r w = (fs[i]?).map (fun v => (pc, lv, v :: r, w)) := if_pos rfl
theorem ph_pfi {ci i : Nat} {x : Int32} {fs : List Value} : pm_pf (some (ci, i, .int, false)) (some (.inr (ci, fs))) k (.int x) pc lv r w = if i < fs.length then some (pc, lv, r, va_up w k (.inr (ci, fs.set i (.int x)))) else none := by simp [pm_pf, narrow, fits]
theorem ph_pfl {ci i : Nat} {x : Int64} {fs : List Value} : pm_pf (some (ci, i, .long, false)) (some (.inr (ci, fs))) k (.long x) pc lv r w = if i < fs.length then some (pc, lv, r, va_up w k (.inr (ci, fs.set i (.long x)))) else none := by simp [pm_pf, narrow, fits]
theorem ph_pfz0 {ci i : Nat} {fs : List Value} : pm_pf (some (ci, i, .boolean, false)) (some (.inr (ci, fs))) k (.int (nI 0)) pc lv r w = if i < fs.length then some (pc, lv, r, va_up w k (.inr (ci, fs.set i (.int (nI 0))))) else none := by
  have h1 : narrow .boolean (.int (nI 0)) = .int (nI 0) := by decide
  have h2 : fits .boolean (.int (nI 0)) = true := by decide
  simp [pm_pf, h1, h2]
theorem ph_pfz1 {ci i : Nat} {fs : List Value} : pm_pf (some (ci, i, .boolean, false)) (some (.inr (ci, fs))) k (.int (nI 1)) pc lv r w = if i < fs.length then some (pc, lv, r, va_up w k (.inr (ci, fs.set i (.int (nI 1))))) else none := by
  have h1 : narrow .boolean (.int (nI 1)) = .int (nI 1) := by decide
  have h2 : fits .boolean (.int (nI 1)) = true := by decide
  simp [pm_pf, h1, h2]
theorem ph_nz0 : vp_nar .boolean (nI 0) = nI 0 := by decide
theorem ph_nz1 : vp_nar .boolean (nI 1) = nI 1 := by decide
theorem pm_cm1 : Int32.ofInt (-1) = -1 := by decide
theorem pm_c0 : Int32.ofInt 0 = nI 0 := by decide
theorem pm_c1 : Int32.ofInt 1 = nI 1 := by decide
theorem pm_c2 : Int32.ofInt 2 = nI 2 := by decide
theorem pm_c3 : Int32.ofInt 3 = nI 3 := by decide
theorem pm_c4 : Int32.ofInt 4 = nI 4 := by decide
theorem pm_c5 : Int32.ofInt 5 = nI 5 := by decide
theorem pm_b6 : (Int8.ofInt 6).toInt32 = nI 6 := by decide
theorem pm_b7 : (Int8.ofInt 7).toInt32 = nI 7 := by decide
theorem pm_b8 : (Int8.ofInt 8).toInt32 = nI 8 := by decide
theorem pm_b9 : (Int8.ofInt 9).toInt32 = nI 9 := by decide
theorem pm_b10 : (Int8.ofInt 10).toInt32 = nI 10 := by decide
theorem pm_b11 : (Int8.ofInt 11).toInt32 = nI 11 := by decide
theorem pm_b12 : (Int8.ofInt 12).toInt32 = nI 12 := by decide
theorem pm_b14 : (Int8.ofInt 14).toInt32 = nI 14 := by decide
theorem pm_b15 : (Int8.ofInt 15).toInt32 = nI 15 := by decide
theorem pm_b16 : (Int8.ofInt 16).toInt32 = nI 16 := by decide
theorem pm_b20 : (Int8.ofInt 20).toInt32 = nI 20 := by decide
theorem pm_b24 : (Int8.ofInt 24).toInt32 = nI 24 := by decide
theorem pm_b25 : (Int8.ofInt 25).toInt32 = nI 25 := by decide
theorem pm_b28 : (Int8.ofInt 28).toInt32 = nI 28 := by decide
theorem pm_b31 : (Int8.ofInt 31).toInt32 = nI 31 := by decide
theorem pm_b32 : (Int8.ofInt 32).toInt32 = nI 32 := by decide
theorem pm_b48 : (Int8.ofInt 48).toInt32 = nI 48 := by decide
theorem pm_b56 : (Int8.ofInt 56).toInt32 = nI 56 := by decide
theorem pm_b60 : (Int8.ofInt 60).toInt32 = nI 60 := by decide
theorem pm_b63 : (Int8.ofInt 63).toInt32 = nI 63 := by decide
theorem pm_b64 : (Int8.ofInt 64).toInt32 = nI 64 := by decide
theorem pm_b67 : (Int8.ofInt 67).toInt32 = nI 67 := by decide
theorem pm_b68 : (Int8.ofInt 68).toInt32 = nI 68 := by decide
theorem pm_b89 : (Int8.ofInt 89).toInt32 = nI 89 := by decide
theorem pm_b90 : (Int8.ofInt 90).toInt32 = nI 90 := by decide
theorem pm_b95 : (Int8.ofInt 95).toInt32 = nI 95 := by decide
theorem pm_b100 : (Int8.ofInt 100).toInt32 = nI 100 := by decide
theorem pm_b120 : (Int8.ofInt 120).toInt32 = nI 120 := by decide
theorem pm_b127 : (Int8.ofInt 127).toInt32 = nI 127 := by decide
theorem pm_h128 : (Int16.ofInt 128).toInt32 = nI 128 := by decide
theorem pm_h150 : (Int16.ofInt 150).toInt32 = nI 150 := by decide
theorem pm_h168 : (Int16.ofInt 168).toInt32 = nI 168 := by decide
theorem pm_h255 : (Int16.ofInt 255).toInt32 = nI 255 := by decide
theorem pm_h256 : (Int16.ofInt 256).toInt32 = nI 256 := by decide
theorem pm_h360 : (Int16.ofInt 360).toInt32 = nI 360 := by decide
theorem pm_h369 : (Int16.ofInt 369).toInt32 = nI 369 := by decide
theorem pm_h450 : (Int16.ofInt 450).toInt32 = nI 450 := by decide
theorem pm_h4096 : (Int16.ofInt 4096).toInt32 = nI 4096 := by decide
theorem pm_h8192 : (Int16.ofInt 8192).toInt32 = nI 8192 := by decide
theorem pm_h32767 : (Int16.ofInt 32767).toInt32 = nI 32767 := by decide
theorem pm_h4643 : (Int16.ofInt 4643).toInt32 = nI 4643 := by decide
theorem pm_h13363 : (Int16.ofInt 13363).toInt32 = nI 13363 := by decide
theorem pm_h20579 : (Int16.ofInt 20579).toInt32 = nI 20579 := by decide
theorem pm_h25843 : (Int16.ofInt 25843).toInt32 = nI 25843 := by decide
theorem pm_h29227 : (Int16.ofInt 29227).toInt32 = nI 29227 := by decide
theorem pm_h31145 : (Int16.ofInt 31145).toInt32 = nI 31145 := by decide
theorem pm_h32103 : (Int16.ofInt 32103).toInt32 = nI 32103 := by decide
theorem pm_h32525 : (Int16.ofInt 32525).toInt32 = nI 32525 := by decide
theorem pm_h32689 : (Int16.ofInt 32689).toInt32 = nI 32689 := by decide
theorem pm_h32745 : (Int16.ofInt 32745).toInt32 = nI 32745 := by decide
theorem pm_h32762 : (Int16.ofInt 32762).toInt32 = nI 32762 := by decide
theorem pm_h32766 : (Int16.ofInt 32766).toInt32 = nI 32766 := by decide
theorem pm_o {m : Nat} : Int32.ofNat m = nI m := rfl
end PMR
end
section
section PMQ
def pm_stb (sz : Nat) (St : State → Prop) : Prop := ∀ U V : State, U.WarmedH V.vm → U.heap.size ≤ V.heap.size → (∀ q : Nat, q < U.heap.size → ¬ sz ≤ q → V.heap[q]? = U.heap[q]?) → St U → St V
def pm_P (D : va_G) (cl : List vw_C) (tc : Nat → ClassId) (sz : Nat) (St : State → Prop) (As : List Value) (hz : Option Nat) (n : Nat) (w : Nat → va_E) : Array Value → State → Prop :=
  va_Pc As (fun U => va_P D cl (pm_L sz n w) U.heap ∧ va_K D cl (pm_T tc) U ∧ sz ≤ U.heap.size ∧ (∀ k, hz = some k → U.heap.size = k) ∧ St U)
def pm_Q (D : va_G) (cl : List vw_C) (sz : Nat) (hz : Option Nat) (n : Nat) (post : Option Value → (Nat → va_E) → Prop) : Array Value → State → Outcome → State → Prop := fun _ st oc t =>
  (∃ (v : Option Value) (w : Nat → va_E), oc = .returned v ∧ post v w ∧ va_P D cl (pm_L sz n w) t.heap ∧ ∀ k, hz = some k → t.heap.size = k) ∧ va_F (fun q => sz ≤ q) st t
def pm_M (l : Launch) (y : MethodName) (ws : List Cond) (rm : Room) (D : va_G) (cl : List vw_C) (tc : Nat → ClassId) (sz : Nat) (St : State → Prop) (As : List Value) (hz : Option Nat) (n : Nat) (w : Nat → va_E) (hz' : Option Nat) (n' : Nat) (post : Option Value → (Nat → va_E) → Prop) : Prop :=
  Met l y ws rm (pm_P D cl tc sz St As hz n w) (pm_Q D cl sz hz' n' post) rm.cells rm.slots (fun q => sz ≤ q)
theorem pm_blind {D : va_G} {cl : List vw_C} {tc : Nat → ClassId} {sz : Nat} {St : State → Prop} (hst : pm_stb sz St) {As : List Value} {hz : Option Nat} {n : Nat} {w : Nat → va_E} : FrameBlind (pm_P D cl tc sz St As hz n w) := by
  intro a U g mk h
  obtain ⟨h1, h2, h3, h4, h5, h6⟩ := h
  exact ⟨h1, h2, va_K.moved (u := U) (U := U.calling g mk a) (Vm.Alike.refl U.vm) h3, h4, h5, hst U (U.calling g mk a) (State.WarmedH.refl U) (Nat.le_refl _) (fun _ _ _ => rfl) h6⟩
variable {p : Program} {l : Launch} {e : Env} {R : Room} {s : State} {m : MethodId} {args : Array Value} {below : List Frame} {meth : Method} {c : Code} {Q : State → Prop} {cells slots : Nat}
variable {cc : ByteArray} {own : String} {D : va_G} {cl : List vw_C} {tc : Nat → ClassId} {sz nL n pc : Nat} {hz : Option Nat} {w : Nat → va_E} {lv : List (Nat × Value)} {st : List Value} {St : State → Prop}
theorem pm_ofG {y : MethodName} {ws ws' : List Cond} {rm : Room} {maxL : Nat} {ret : Option FieldType} {As : List Value} {hz' : Option Nat} {n' : Nat} {post : Option Value → (Nat → va_E) → Prop} (hy : plainName y.cls = true) (hw : ws = Cond.code y cc maxL ret :: ws') (hA : (lg_sl As).length ≤ maxL)
    (body : ∀ p e s m args below meth c, CallFix p m c cc maxL s args ws y.cls → meth.sig.returnType = ret → meth.locks = false → (s.methodNamed? y = some m ∧ s.vm.method? m = some meth) → va_K D cl (pm_T tc) s → sz ≤ s.heap.size → St s →
      pm_G p l e rm s m args below meth c (MQ below (pm_Q D cl sz hz' n' post) args s rm.cells rm.slots (fun q => sz ≤ q)) D cl sz maxL hz n 0 0 w 0 (lv_args 0 As) []) :
    pm_M l y ws rm D cl tc sz St As hz n w hz' n' post := by
  refine Met.ofW hy hw ?_
  intro p e s m args below meth c s₁ B hml hv
  obtain ⟨rfl, hP, hK, hsz, hh, hst⟩ := hv
  rw [lg_entry_eq]
  exact body p e s m _ below meth c ⟨B.exec, B.bytes, hml, findClass_of_methodNamed B.named, atoms_spec (ws := ws) B.pre⟩ B.returns B.notSynchronized ⟨B.named, B.method⟩ hK hsz hst s.heap [] _ (lv_entry As hA) hP va_S.rf hh
theorem pm_iret {post : Option Value → (Nat → va_E) → Prop} {mc ms : Nat} {v : Int32} (hx : p.tables.exec = Jvm.exec) (hb : c.code = cc) (hr : meth.sig.returnType = some .int) (hlocks : meth.locks = false) (hd : decode cc pc = .ok (.ireturn, 1)) (hp : post (some (.int v)) w) (hc : cells ≤ mc) (hs : slots ≤ ms) :
    pm_G p l e R s m args below meth c (MQ below (pm_Q D cl sz hz n post) args s mc ms (fun q => sz ≤ q)) D cl sz nL hz n cells slots w pc lv [.int v] := by
  intro H locs ls hl hP hS hh
  refine W.widen hc hs ?_
  exact W.iret hx hb hr (fun t ht hW => ⟨⟨some (.int v), w, rfl, hp, by rw [ht]; exact hP, fun k hk => by rw [ht]; exact hh k hk⟩, hS.F ht⟩) hS.2.2 hd hlocks
theorem pm_zret {post : Option Value → (Nat → va_E) → Prop} {mc ms : Nat} {v : Int32} (hx : p.tables.exec = Jvm.exec) (hb : c.code = cc) (hr : meth.sig.returnType = some .boolean) (hn : narrow .boolean (.int v) = .int v) (hlocks : meth.locks = false) (hd : decode cc pc = .ok (.ireturn, 1)) (hp : post (some (.int v)) w) (hc : cells ≤ mc) (hs : slots ≤ ms) :
    pm_G p l e R s m args below meth c (MQ below (pm_Q D cl sz hz n post) args s mc ms (fun q => sz ≤ q)) D cl sz nL hz n cells slots w pc lv [.int v] := by
  intro H locs ls hl hP hS hh
  refine W.widen hc hs ?_
  exact W.zret hx hb hr hn (fun t ht hW => ⟨⟨some (.int v), w, rfl, hp, by rw [ht]; exact hP, fun k hk => by rw [ht]; exact hh k hk⟩, hS.F ht⟩) hS.2.2 hd hlocks
theorem pm_lret {post : Option Value → (Nat → va_E) → Prop} {mc ms : Nat} {v : Int64} (hx : p.tables.exec = Jvm.exec) (hb : c.code = cc) (hr : meth.sig.returnType = some .long) (hlocks : meth.locks = false) (hd : decode cc pc = .ok (.lreturn, 1)) (hp : post (some (.long v)) w) (hc : cells ≤ mc) (hs : slots ≤ ms) :
    pm_G p l e R s m args below meth c (MQ below (pm_Q D cl sz hz n post) args s mc ms (fun q => sz ≤ q)) D cl sz nL hz n cells slots w pc lv [.long v] := by
  intro H locs ls hl hP hS hh
  refine W.widen hc hs ?_
  exact W.lret hx hb hr (fun t ht hW => ⟨⟨some (.long v), w, rfl, hp, by rw [ht]; exact hP, fun k hk => by rw [ht]; exact hh k hk⟩, hS.F ht⟩) hS.2.2 hd hlocks
theorem pm_aret {post : Option Value → (Nat → va_E) → Prop} {mc ms a : Nat} {C : String} (hx : p.tables.exec = Jvm.exec) (hb : c.code = cc) (hr : meth.sig.returnType = some (.object C)) (hlocks : meth.locks = false) (hd : decode cc pc = .ok (.areturn, 1)) (hp : post (some (.ref a)) w) (hc : cells ≤ mc) (hs : slots ≤ ms) :
    pm_G p l e R s m args below meth c (MQ below (pm_Q D cl sz hz n post) args s mc ms (fun q => sz ≤ q)) D cl sz nL hz n cells slots w pc lv [.ref a] := by
  intro H locs ls hl hP hS hh
  refine W.widen hc hs ?_
  exact W.aret hx hb hr (Or.inl ⟨_, rfl⟩) (Or.inr ⟨_, rfl⟩) (fun t ht hW => ⟨⟨some (.ref a), w, rfl, hp, by rw [ht]; exact hP, fun k hk => by rw [ht]; exact hh k hk⟩, hS.F ht⟩) hS.2.2 hd hlocks
theorem pm_vret {post : Option Value → (Nat → va_E) → Prop} {mc ms : Nat} (hx : p.tables.exec = Jvm.exec) (hb : c.code = cc) (hr : meth.sig.returnType = none) (hlocks : meth.locks = false) (hd : decode cc pc = .ok (.return_, 1)) (hp : post none w) (hc : cells ≤ mc) (hs : slots ≤ ms) :
    pm_G p l e R s m args below meth c (MQ below (pm_Q D cl sz hz n post) args s mc ms (fun q => sz ≤ q)) D cl sz nL hz n cells slots w pc lv [] := by
  intro H locs ls hl hP hS hh
  refine W.widen hc hs ?_
  exact W.vret hx hb hr (fun t ht hW => ⟨⟨none, w, rfl, hp, by rw [ht]; exact hP, fun k hk => by rw [ht]; exact hh k hk⟩, hS.F ht⟩) hS.2.2 hd hlocks
theorem pm_G.sub {lv' : List (Nat × Value)} (h : ∀ q ∈ lv', q ∈ lv) (k : pm_G p l e R s m args below meth c Q D cl sz nL hz n cells slots w pc lv' st) : pm_G p l e R s m args below meth c Q D cl sz nL hz n cells slots w pc lv st :=
  fun H locs ls hl hP hS hh => k H locs ls ⟨hl.1, hl.2.1, fun q hq => hl.2.2 q (h q hq)⟩ hP hS hh
theorem pm_G.wide {k1 k2 : Nat} (h1 : cells ≤ k1) (h2 : slots ≤ k2) (k : pm_G p l e R s m args below meth c Q D cl sz nL hz n k1 k2 w pc lv st) : pm_G p l e R s m args below meth c Q D cl sz nL hz n cells slots w pc lv st :=
  fun H locs ls hl hP hS hh => W.widen h1 h2 (k H locs ls hl hP hS hh)
theorem pm_call {hz' : Option Nat} {n' mc ms : Nat} {post : Option Value → (Nat → va_E) → Prop} {a : Array Value} {rest : List Value}
    (hr : ∀ (H : Heap) (locs : List Loc) (ls : Array Slot), ls.size = nL → va_P D cl (pm_L sz n w) H → va_S (fun q => sz ≤ q) s.heap H locs → (∀ k, hz = some k → H.size = k) → va_Run p l e R s m args below meth c H locs cells slots mc ms (F0 m pc ls st) rest (pm_Q D cl sz hz' n' post a) (fun q => sz ≤ q))
    (kk : ∀ (v : Option Value) (w' : Nat → va_E), post v w' → pm_G p l e R s m args below meth c Q D cl sz nL hz' n' (cells + mc) (slots + ms) w' (pc + 3) lv (v.toList ++ rest)) : pm_G p l e R s m args below meth c Q D cl sz nL hz n cells slots w pc lv st := by
  intro H locs ls hl hP hS hh T hT X
  obtain ⟨v, st₀, t, T', L, h0, X', hL, e1, e2, ⟨⟨v', w', hv, hp, hP1, hz1⟩, hzF, hk⟩, stp⟩ := hr H locs ls hl.1 hP hS hh T hT X
  cases hv
  rw [h0] at hzF hk
  obtain ⟨t2, a1, b1⟩ := kk v w' hp T'.heap (locs ++ L) ls hl (by rw [e1]; exact hP1)
    ⟨Nat.le_trans hS.1 (by rw [e1]; exact hzF), fun q h1 h2 => by rw [e1, hk q (Nat.lt_of_lt_of_le h1 hS.1) h2]; exact hS.2.1 q h1 h2, fun q hq => by
      rcases List.mem_append.mp hq with h | h
      · exact hS.2.2 q h
      · exact hL q h⟩ (fun k hk => by rw [e1]; exact hz1 k hk) T' rfl X'
  exact ⟨t2, stp t2 a1, b1⟩
theorem pm_pre (hst : pm_stb sz St) (hK : va_K D cl (pm_T tc) s) (hsz : sz ≤ s.heap.size) (hS0 : St s) {H : Heap} {locs : List Loc} (hP : va_P D cl (pm_L sz n w) H) (hS : va_S (fun q => sz ≤ q) s.heap H locs) (hh : ∀ k, hz = some k → H.size = k) {As : List Value} :
    ∀ U : State, U.heap = H → s.WarmedH U.vm → pm_P D cl tc sz St As hz n w As.toArray U := by
  intro U hU hW
  subst hU
  exact ⟨rfl, hP, va_K.moved hW.alike hK, Nat.le_trans hsz hS.1, hh, hst s U hW hS.1 (fun q h1 h2 => hS.2.1 q h1 h2) hS0⟩
end PMQ
end
