section PMW
def pm_L (sz n : Nat) (w : Nat → va_E) : va_W := (List.range n).map fun k => (sz + k, w k)
theorem pm_L_get {sz n k : Nat} {w : Nat → va_E} (h : k < n) : (pm_L sz n w)[k]? = some (sz + k, w k) := by
  unfold pm_L
  rw [List.getElem?_map, List.getElem?_range h]
  rfl
theorem pm_L_inv {sz n k : Nat} {w : Nat → va_E} {q : Nat × va_E} (h : (pm_L sz n w)[k]? = some q) : k < n ∧ q = (sz + k, w k) := by
  by_cases hk : k < n
  · rw [pm_L_get hk] at h
    exact ⟨hk, (Option.some.inj h).symm⟩
  · unfold pm_L at h
    rw [List.getElem?_eq_none (by simp; omega)] at h
    cases h
theorem pm_L_set {sz n k : Nat} {w : Nat → va_E} {x : va_E} : (pm_L sz n w).set k (sz + k, x) = pm_L sz n (va_up w k x) := by
  apply List.ext_getElem?
  intro j
  rw [List.getElem?_set]
  by_cases hj : k = j
  · subst hj
    rw [if_pos rfl]
    by_cases hk : k < n
    · rw [pm_L_get hk, if_pos (by simp [pm_L, hk])]
      simp [va_up]
    · rw [if_neg (by simp [pm_L]; omega)]
      unfold pm_L
      rw [List.getElem?_eq_none (by simp; omega)]
  · rw [if_neg hj]
    by_cases hk : j < n
    · rw [pm_L_get hk, pm_L_get hk]
      simp [va_up, Ne.symm hj]
    · unfold pm_L
      rw [List.getElem?_eq_none (by simp; omega), List.getElem?_eq_none (by simp; omega)]
theorem pm_L_push {sz n : Nat} {w : Nat → va_E} {x : va_E} : pm_L sz n w ++ [(sz + n, x)] = pm_L sz (n + 1) (va_up w n x) := by
  unfold pm_L
  rw [List.range_succ, List.map_append]
  congr 1
  · apply List.map_congr_left
    intro k hk
    have : k ≠ n := Nat.ne_of_lt (List.mem_range.mp hk)
    simp [va_up, this]
  · simp [va_up]
theorem pm_D {sz n : Nat} {w : Nat → va_E} : va_D (fun q => sz ≤ q) (pm_L sz n w) := by
  refine ⟨fun i j x y hx hy h => ?_, fun k q hq => ?_⟩
  · obtain ⟨_, rfl⟩ := pm_L_inv hx
    obtain ⟨_, rfl⟩ := pm_L_inv hy
    exact Nat.add_left_cancel h
  · obtain ⟨_, rfl⟩ := pm_L_inv hq
    exact Nat.le_add_right _ _
def pm_at (sz n : Nat) (w : Nat → va_E) (a : Nat) : Option va_E := if sz ≤ a ∧ a - sz < n then some (w (a - sz)) else none
theorem pm_at_add {sz n k : Nat} {w : Nat → va_E} (h : k < n) : pm_at sz n w (sz + k) = some (w k) := by
  unfold pm_at
  rw [Nat.add_sub_cancel_left, if_pos ⟨Nat.le_add_right _ _, h⟩]
theorem pm_at_inv {sz n a : Nat} {w : Nat → va_E} {x : va_E} (h : pm_at sz n w a = some x) : ∃ k, a = sz + k ∧ k < n ∧ w k = x ∧ a - sz = k := by
  unfold pm_at at h
  by_cases hc : sz ≤ a ∧ a - sz < n
  · rw [if_pos hc] at h
    exact ⟨a - sz, by omega, hc.2, Option.some.inj h, rfl⟩
  · rw [if_neg hc] at h
    cases h
def pm_T (tc : Nat → ClassId) : List (ClassId × FieldType) := [(tc 0, .int), (tc 1, .long), (tc 2, .boolean), (tc 3, .object "LatticeWraps$Key"), (tc 4, .object "LatticeWraps$Wrap")]
def pm_lk : List (Nat × Value) → Nat → Option Value
  | [], _ => none
  | (j, v) :: r, i => if j = i then some v else pm_lk r i
theorem pm_lk_mem {lv : List (Nat × Value)} {i : Nat} {v : Value} (h : pm_lk lv i = some v) : (i, v) ∈ lv := by
  induction lv with
  | nil => cases h
  | cons q r ih =>
    obtain ⟨j, x⟩ := q
    unfold pm_lk at h
    by_cases hj : j = i
    · rw [if_pos hj] at h
      cases h
      subst hj
      exact List.mem_cons_self
    · rw [if_neg hj] at h
      exact List.mem_cons_of_mem _ (ih h)
theorem pm_lk_ok {ls : Array Slot} {nL : Nat} {lv : List (Nat × Value)} (h : lv_has ls nL lv) {i : Nat} {v : Value} (hv : pm_lk lv i = some v) : ls[i]? = some (.val v) := h.2.2 (i, v) (pm_lk_mem hv)
def pm_f1 (i : Nat) : List (Nat × Value) → List (Nat × Value)
  | [] => []
  | (j, v) :: r => if j = i then pm_f1 i r else if j + 1 = i then (if v.category = 2 then pm_f1 i r else (j, v) :: pm_f1 i r) else (j, v) :: pm_f1 i r
def pm_f2 (i : Nat) : List (Nat × Value) → List (Nat × Value)
  | [] => []
  | (j, v) :: r => if j = i then pm_f2 i r else if j = i + 1 then pm_f2 i r else if j + 1 = i then (if v.category = 2 then pm_f2 i r else (j, v) :: pm_f2 i r) else (j, v) :: pm_f2 i r
theorem pm_f1_eq (i : Nat) (lv : List (Nat × Value)) : lv.filter (fun q => !(q.1 == i) && !(q.1 + 1 == i && q.2.category == 2)) = pm_f1 i lv := by
  induction lv with
  | nil => rfl
  | cons q r ih =>
    obtain ⟨j, v⟩ := q
    rw [List.filter_cons, ih]
    by_cases h1 : j = i
    · simp [pm_f1, h1]
    · by_cases h2 : j + 1 = i
      · by_cases h3 : v.category = 2
        · simp [pm_f1, h1, h2, h3]
        · simp [pm_f1, h1, h2, h3]
      · simp [pm_f1, h1, h2]
theorem pm_f2_eq (i : Nat) (lv : List (Nat × Value)) : lv.filter (fun q => !(q.1 == i) && (!(q.1 == i + 1) && !(q.1 + 1 == i && q.2.category == 2))) = pm_f2 i lv := by
  induction lv with
  | nil => rfl
  | cons q r ih =>
    obtain ⟨j, v⟩ := q
    rw [List.filter_cons, ih]
    by_cases h1 : j = i
    · simp [pm_f2, h1]
    · by_cases h0 : j = i + 1
      · simp [pm_f2, h0]
      · by_cases h2 : j + 1 = i
        · by_cases h3 : v.category = 2
          · simp [pm_f2, h1, h0, h2, h3]
          · simp [pm_f2, h1, h0, h2, h3]
        · simp [pm_f2, h1, h0, h2]
end PMW
section PMS
abbrev pm_C : Type := Nat × List (Nat × Value) × List Value × (Nat → va_E)
abbrev pm_FT : Type := Nat → Option (Nat × Nat × FieldType × Bool)
def pm_ln : Instr → Nat
  | .iload _ => 2
  | .lload _ => 2
  | .aload _ => 2
  | .istore _ => 2
  | .lstore _ => 2
  | .astore _ => 2
  | .bipush _ => 2
  | .ldc _ => 2
  | .sipush _ => 3
  | .getfield _ => 3
  | .putfield _ => 3
  | .goto _ => 3
  | .ifCond _ _ => 3
  | .if_icmp _ _ => 3
  | .iinc _ _ => 3
  | .ldc2_w _ => 3
  | _ => 1
def pm_ldi (i pc : Nat) (lv : List (Nat × Value)) (st : List Value) (w : Nat → va_E) : Option pm_C := match pm_lk lv i with
  | some (.int x) => some (pc, lv, .int x :: st, w)
  | _ => none
def pm_ldl (i pc : Nat) (lv : List (Nat × Value)) (st : List Value) (w : Nat → va_E) : Option pm_C := match pm_lk lv i with
  | some (.long x) => some (pc, lv, .long x :: st, w)
  | _ => none
def pm_lda (i pc : Nat) (lv : List (Nat × Value)) (st : List Value) (w : Nat → va_E) : Option pm_C := match pm_lk lv i with
  | some (.ref x) => some (pc, lv, .ref x :: st, w)
  | _ => none
def pm_sti (nL i pc : Nat) (lv : List (Nat × Value)) (st : List Value) (w : Nat → va_E) : Option pm_C := match st with
  | .int x :: r => if i < nL then some (pc, (i, .int x) :: pm_f1 i lv, r, w) else none
  | _ => none
def pm_stl (nL i pc : Nat) (lv : List (Nat × Value)) (st : List Value) (w : Nat → va_E) : Option pm_C := match st with
  | .long x :: r => if i + 1 < nL then some (pc, (i, .long x) :: pm_f2 i lv, r, w) else none
  | _ => none
def pm_sta (nL i pc : Nat) (lv : List (Nat × Value)) (st : List Value) (w : Nat → va_E) : Option pm_C := match st with
  | .ref x :: r => if i < nL then some (pc, (i, .ref x) :: pm_f1 i lv, r, w) else none
  | _ => none
def pm_ii (g : Int32 → Int32 → Int32) (pc : Nat) (lv : List (Nat × Value)) (st : List Value) (w : Nat → va_E) : Option pm_C := match st with
  | .int y :: .int x :: r => some (pc, lv, .int (g x y) :: r, w)
  | _ => none
def pm_di (g : Int32 → Int32 → Int32) (pc : Nat) (lv : List (Nat × Value)) (st : List Value) (w : Nat → va_E) : Option pm_C := match st with
  | .int y :: .int x :: r => if y = 0 then none else some (pc, lv, .int (g x y) :: r, w)
  | _ => none
def pm_ll (g : Int64 → Int64 → Int64) (pc : Nat) (lv : List (Nat × Value)) (st : List Value) (w : Nat → va_E) : Option pm_C := match st with
  | .long y :: .long x :: r => some (pc, lv, .long (g x y) :: r, w)
  | _ => none
def pm_li (g : Int64 → Int32 → Int64) (pc : Nat) (lv : List (Nat × Value)) (st : List Value) (w : Nat → va_E) : Option pm_C := match st with
  | .int y :: .long x :: r => some (pc, lv, .long (g x y) :: r, w)
  | _ => none
def pm_cz : ClassFile.Cond → Int32 → Bool
  | .eq, x => decide (x = 0)
  | .ne, x => decide (x ≠ 0)
  | .lt, x => decide (x < 0)
  | .ge, x => decide (0 ≤ x)
  | .gt, x => decide (0 < x)
  | .le, x => decide (x ≤ 0)
def pm_cc : ClassFile.Cond → Int32 → Int32 → Bool
  | .eq, x, y => decide (x = y)
  | .ne, x, y => decide (x ≠ y)
  | .lt, x, y => decide (x < y)
  | .ge, x, y => decide (y ≤ x)
  | .gt, x, y => decide (y < x)
  | .le, x, y => decide (x ≤ y)
end PMS
