section PMR
variable {cc : ByteArray} {F : pm_FT} {K : Nat → Option Value} {tc : Nat → ClassId} {sz n nL k pc i : Nat} {lv : List (Nat × Value)} {st r : List Value} {w : Nat → va_E}
theorem pv_0 : pm_v cc F K tc sz n nL 0 pc lv st w = some (pc, lv, st, w) := rfl
theorem pv_s : pm_v cc F K tc sz n nL (k + 1) pc lv st w = (pm_d F K tc sz n nL (decode cc pc) pc lv st w).bind (fun q => pm_v cc F K tc sz n nL k q.1 q.2.1 q.2.2.1 q.2.2.2) := by
  show (match pm_d F K tc sz n nL (decode cc pc) pc lv st w with
    | some (pc', lv', st', w') => pm_v cc F K tc sz n nL k pc' lv' st' w'
    | none => none) = _
  cases pm_d F K tc sz n nL (decode cc pc) pc lv st w <;> rfl
theorem pd_iconst {z : Int} : pm_d F K tc sz n nL (.ok (.iconst z, 1)) pc lv (st) w = some (pc + 1, lv, .int (Int32.ofInt z) :: st, w) := rfl
theorem pd_bipush {z : Int} : pm_d F K tc sz n nL (.ok (.bipush z, 2)) pc lv (st) w = some (pc + 2, lv, .int (Int8.ofInt z).toInt32 :: st, w) := rfl
theorem pd_sipush {z : Int} : pm_d F K tc sz n nL (.ok (.sipush z, 3)) pc lv (st) w = some (pc + 3, lv, .int (Int16.ofInt z).toInt32 :: st, w) := rfl
theorem pd_lconst_0 : pm_d F K tc sz n nL (.ok (.lconst 0, 1)) pc lv (st) w = some (pc + 1, lv, .long 0 :: st, w) := rfl
theorem pd_lconst_1 : pm_d F K tc sz n nL (.ok (.lconst 1, 1)) pc lv (st) w = some (pc + 1, lv, .long 1 :: st, w) := rfl
theorem pd_ldc : pm_d F K tc sz n nL (.ok (.ldc i, 2)) pc lv (st) w = (match K i with | some (.int v) => some (pc + 2, lv, .int v :: st, w) | _ => none) := rfl
theorem pd_ldc2 : pm_d F K tc sz n nL (.ok (.ldc2_w i, 3)) pc lv (st) w = (match K i with | some (.long v) => some (pc + 3, lv, .long v :: st, w) | _ => none) := rfl
theorem pd_iload_0 : pm_d F K tc sz n nL (.ok (.iload_n 0, 1)) pc lv (st) w = pm_ldi 0 (pc + 1) lv st w := rfl
theorem pd_iload_1 : pm_d F K tc sz n nL (.ok (.iload_n 1, 1)) pc lv (st) w = pm_ldi 1 (pc + 1) lv st w := rfl
theorem pd_iload_2 : pm_d F K tc sz n nL (.ok (.iload_n 2, 1)) pc lv (st) w = pm_ldi 2 (pc + 1) lv st w := rfl
theorem pd_iload_3 : pm_d F K tc sz n nL (.ok (.iload_n 3, 1)) pc lv (st) w = pm_ldi 3 (pc + 1) lv st w := rfl
theorem pd_iload : pm_d F K tc sz n nL (.ok (.iload i, 2)) pc lv (st) w = pm_ldi i (pc + 2) lv st w := rfl
theorem pd_lload_0 : pm_d F K tc sz n nL (.ok (.lload_n 0, 1)) pc lv (st) w = pm_ldl 0 (pc + 1) lv st w := rfl
theorem pd_lload_1 : pm_d F K tc sz n nL (.ok (.lload_n 1, 1)) pc lv (st) w = pm_ldl 1 (pc + 1) lv st w := rfl
theorem pd_lload_2 : pm_d F K tc sz n nL (.ok (.lload_n 2, 1)) pc lv (st) w = pm_ldl 2 (pc + 1) lv st w := rfl
theorem pd_lload_3 : pm_d F K tc sz n nL (.ok (.lload_n 3, 1)) pc lv (st) w = pm_ldl 3 (pc + 1) lv st w := rfl
theorem pd_lload : pm_d F K tc sz n nL (.ok (.lload i, 2)) pc lv (st) w = pm_ldl i (pc + 2) lv st w := rfl
theorem pd_aload_0 : pm_d F K tc sz n nL (.ok (.aload_n 0, 1)) pc lv (st) w = pm_lda 0 (pc + 1) lv st w := rfl
theorem pd_aload_1 : pm_d F K tc sz n nL (.ok (.aload_n 1, 1)) pc lv (st) w = pm_lda 1 (pc + 1) lv st w := rfl
theorem pd_aload_2 : pm_d F K tc sz n nL (.ok (.aload_n 2, 1)) pc lv (st) w = pm_lda 2 (pc + 1) lv st w := rfl
theorem pd_aload_3 : pm_d F K tc sz n nL (.ok (.aload_n 3, 1)) pc lv (st) w = pm_lda 3 (pc + 1) lv st w := rfl
theorem pd_aload : pm_d F K tc sz n nL (.ok (.aload i, 2)) pc lv (st) w = pm_lda i (pc + 2) lv st w := rfl
theorem pd_istore_0 : pm_d F K tc sz n nL (.ok (.istore_n 0, 1)) pc lv (st) w = pm_sti nL 0 (pc + 1) lv st w := rfl
theorem pd_istore_1 : pm_d F K tc sz n nL (.ok (.istore_n 1, 1)) pc lv (st) w = pm_sti nL 1 (pc + 1) lv st w := rfl
theorem pd_istore_2 : pm_d F K tc sz n nL (.ok (.istore_n 2, 1)) pc lv (st) w = pm_sti nL 2 (pc + 1) lv st w := rfl
theorem pd_istore_3 : pm_d F K tc sz n nL (.ok (.istore_n 3, 1)) pc lv (st) w = pm_sti nL 3 (pc + 1) lv st w := rfl
theorem pd_istore : pm_d F K tc sz n nL (.ok (.istore i, 2)) pc lv (st) w = pm_sti nL i (pc + 2) lv st w := rfl
theorem pd_lstore_0 : pm_d F K tc sz n nL (.ok (.lstore_n 0, 1)) pc lv (st) w = pm_stl nL 0 (pc + 1) lv st w := rfl
theorem pd_lstore_1 : pm_d F K tc sz n nL (.ok (.lstore_n 1, 1)) pc lv (st) w = pm_stl nL 1 (pc + 1) lv st w := rfl
theorem pd_lstore_2 : pm_d F K tc sz n nL (.ok (.lstore_n 2, 1)) pc lv (st) w = pm_stl nL 2 (pc + 1) lv st w := rfl
theorem pd_lstore_3 : pm_d F K tc sz n nL (.ok (.lstore_n 3, 1)) pc lv (st) w = pm_stl nL 3 (pc + 1) lv st w := rfl
theorem pd_lstore : pm_d F K tc sz n nL (.ok (.lstore i, 2)) pc lv (st) w = pm_stl nL i (pc + 2) lv st w := rfl
theorem pd_astore_0 : pm_d F K tc sz n nL (.ok (.astore_n 0, 1)) pc lv (st) w = pm_sta nL 0 (pc + 1) lv st w := rfl
theorem pd_astore_1 : pm_d F K tc sz n nL (.ok (.astore_n 1, 1)) pc lv (st) w = pm_sta nL 1 (pc + 1) lv st w := rfl
theorem pd_astore_2 : pm_d F K tc sz n nL (.ok (.astore_n 2, 1)) pc lv (st) w = pm_sta nL 2 (pc + 1) lv st w := rfl
theorem pd_astore_3 : pm_d F K tc sz n nL (.ok (.astore_n 3, 1)) pc lv (st) w = pm_sta nL 3 (pc + 1) lv st w := rfl
theorem pd_astore : pm_d F K tc sz n nL (.ok (.astore i, 2)) pc lv (st) w = pm_sta nL i (pc + 2) lv st w := rfl
theorem pd_iinc {d : Int} : pm_d F K tc sz n nL (.ok (.iinc i d, 3)) pc lv (st) w = (match pm_lk lv i with | some (.int x) => if i < nL then some (pc + 3, (i, .int (x + Int32.ofInt d)) :: pm_f1 i lv, st, w) else none | _ => none) := rfl
theorem pd_iadd {x y : Int32} : pm_d F K tc sz n nL (.ok (.iadd, 1)) pc lv (.int y :: .int x :: r) w = some (pc + 1, lv, .int (x + y) :: r, w) := rfl
theorem pd_isub {x y : Int32} : pm_d F K tc sz n nL (.ok (.isub, 1)) pc lv (.int y :: .int x :: r) w = some (pc + 1, lv, .int (x - y) :: r, w) := rfl
theorem pd_imul {x y : Int32} : pm_d F K tc sz n nL (.ok (.imul, 1)) pc lv (.int y :: .int x :: r) w = some (pc + 1, lv, .int (x * y) :: r, w) := rfl
theorem pd_iand {x y : Int32} : pm_d F K tc sz n nL (.ok (.iand, 1)) pc lv (.int y :: .int x :: r) w = some (pc + 1, lv, .int (x &&& y) :: r, w) := rfl
theorem pd_ior {x y : Int32} : pm_d F K tc sz n nL (.ok (.ior, 1)) pc lv (.int y :: .int x :: r) w = some (pc + 1, lv, .int (x ||| y) :: r, w) := rfl
theorem pd_ixor {x y : Int32} : pm_d F K tc sz n nL (.ok (.ixor, 1)) pc lv (.int y :: .int x :: r) w = some (pc + 1, lv, .int (x ^^^ y) :: r, w) := rfl
theorem pd_ishl {x y : Int32} : pm_d F K tc sz n nL (.ok (.ishl, 1)) pc lv (.int y :: .int x :: r) w = some (pc + 1, lv, .int (jv_shl x y) :: r, w) := rfl
theorem pd_ishr {x y : Int32} : pm_d F K tc sz n nL (.ok (.ishr, 1)) pc lv (.int y :: .int x :: r) w = some (pc + 1, lv, .int (jv_shr x y) :: r, w) := rfl
theorem pd_iushr {x y : Int32} : pm_d F K tc sz n nL (.ok (.iushr, 1)) pc lv (.int y :: .int x :: r) w = some (pc + 1, lv, .int (jv_ushr x y) :: r, w) := rfl
theorem pd_idiv {x y : Int32} : pm_d F K tc sz n nL (.ok (.idiv, 1)) pc lv (.int y :: .int x :: r) w = (if y = 0 then none else some (pc + 1, lv, .int (x / y) :: r, w)) := rfl
theorem pd_irem {x y : Int32} : pm_d F K tc sz n nL (.ok (.irem, 1)) pc lv (.int y :: .int x :: r) w = (if y = 0 then none else some (pc + 1, lv, .int (jv_rem x y) :: r, w)) := rfl
theorem pd_ineg {x : Int32} : pm_d F K tc sz n nL (.ok (.ineg, 1)) pc lv (.int x :: r) w = some (pc + 1, lv, .int (-x) :: r, w) := rfl
theorem pd_ladd {x y : Int64} : pm_d F K tc sz n nL (.ok (.ladd, 1)) pc lv (.long y :: .long x :: r) w = some (pc + 1, lv, .long (x + y) :: r, w) := rfl
theorem pd_lsub {x y : Int64} : pm_d F K tc sz n nL (.ok (.lsub, 1)) pc lv (.long y :: .long x :: r) w = some (pc + 1, lv, .long (x - y) :: r, w) := rfl
theorem pd_lmul {x y : Int64} : pm_d F K tc sz n nL (.ok (.lmul, 1)) pc lv (.long y :: .long x :: r) w = some (pc + 1, lv, .long (x * y) :: r, w) := rfl
theorem pd_land {x y : Int64} : pm_d F K tc sz n nL (.ok (.land, 1)) pc lv (.long y :: .long x :: r) w = some (pc + 1, lv, .long (x &&& y) :: r, w) := rfl
theorem pd_lor {x y : Int64} : pm_d F K tc sz n nL (.ok (.lor, 1)) pc lv (.long y :: .long x :: r) w = some (pc + 1, lv, .long (x ||| y) :: r, w) := rfl
theorem pd_lxor {x y : Int64} : pm_d F K tc sz n nL (.ok (.lxor, 1)) pc lv (.long y :: .long x :: r) w = some (pc + 1, lv, .long (x ^^^ y) :: r, w) := rfl
theorem pd_lshl {x : Int64} {y : Int32} : pm_d F K tc sz n nL (.ok (.lshl, 1)) pc lv (.int y :: .long x :: r) w = some (pc + 1, lv, .long (jl_shl x y) :: r, w) := rfl
theorem pd_lushr {x : Int64} {y : Int32} : pm_d F K tc sz n nL (.ok (.lushr, 1)) pc lv (.int y :: .long x :: r) w = some (pc + 1, lv, .long (jl_ushr x y) :: r, w) := rfl
theorem pd_lcmp {x y : Int64} : pm_d F K tc sz n nL (.ok (.lcmp, 1)) pc lv (.long y :: .long x :: r) w = some (pc + 1, lv, .int (lg_cmp x y) :: r, w) := rfl
theorem pd_i2l {x : Int32} : pm_d F K tc sz n nL (.ok (.i2l, 1)) pc lv (.int x :: r) w = some (pc + 1, lv, .long x.toInt64 :: r, w) := rfl
theorem pd_l2i {x : Int64} : pm_d F K tc sz n nL (.ok (.l2i, 1)) pc lv (.long x :: r) w = some (pc + 1, lv, .int x.toInt32 :: r, w) := rfl
theorem pd_dup_int {x : Int32} : pm_d F K tc sz n nL (.ok (.dup, 1)) pc lv (.int x :: r) w = some (pc + 1, lv, .int x :: .int x :: r, w) := rfl
theorem pd_pop_int {x : Int32} : pm_d F K tc sz n nL (.ok (.pop, 1)) pc lv (.int x :: r) w = some (pc + 1, lv, r, w) := rfl
theorem pd_dup_ref {x : Nat} : pm_d F K tc sz n nL (.ok (.dup, 1)) pc lv (.ref x :: r) w = some (pc + 1, lv, .ref x :: .ref x :: r, w) := rfl
theorem pd_pop_ref {x : Nat} : pm_d F K tc sz n nL (.ok (.pop, 1)) pc lv (.ref x :: r) w = some (pc + 1, lv, r, w) := rfl
theorem pd_dup_x1_ir {x : Int32} {y : Nat} : pm_d F K tc sz n nL (.ok (.dup_x1, 1)) pc lv (.int x :: .ref y :: r) w = some (pc + 1, lv, .int x :: .ref y :: .int x :: r, w) := rfl
theorem pd_dup_x1_ii {x y : Int32} : pm_d F K tc sz n nL (.ok (.dup_x1, 1)) pc lv (.int x :: .int y :: r) w = some (pc + 1, lv, .int x :: .int y :: .int x :: r, w) := rfl
theorem pd_dup2_ir {x : Int32} {y : Nat} : pm_d F K tc sz n nL (.ok (.dup2, 1)) pc lv (.int x :: .ref y :: r) w = some (pc + 1, lv, .int x :: .ref y :: .int x :: .ref y :: r, w) := rfl
theorem pd_dup2_ii {x y : Int32} : pm_d F K tc sz n nL (.ok (.dup2, 1)) pc lv (.int x :: .int y :: r) w = some (pc + 1, lv, .int x :: .int y :: .int x :: .int y :: r, w) := rfl
theorem pd_goto {z : Int} : pm_d F K tc sz n nL (.ok (.goto z, 3)) pc lv (st) w = (if 0 ≤ (pc : Int) + z then some (((pc : Int) + z).toNat, lv, st, w) else none) := rfl
theorem pd_if_eq {z : Int} {x : Int32} : pm_d F K tc sz n nL (.ok (.ifCond .eq z, 3)) pc lv (.int x :: r) w = (if 0 ≤ (pc : Int) + z then some ((if x = 0 then ((pc : Int) + z).toNat else pc + 3), lv, r, w) else none) := by simp [pm_d, pm_i, pm_ln, pm_cz]
theorem pd_if_ne {z : Int} {x : Int32} : pm_d F K tc sz n nL (.ok (.ifCond .ne z, 3)) pc lv (.int x :: r) w = (if 0 ≤ (pc : Int) + z then some ((if ¬ x = 0 then ((pc : Int) + z).toNat else pc + 3), lv, r, w) else none) := by simp [pm_d, pm_i, pm_ln, pm_cz]
theorem pd_if_lt {z : Int} {x : Int32} : pm_d F K tc sz n nL (.ok (.ifCond .lt z, 3)) pc lv (.int x :: r) w = (if 0 ≤ (pc : Int) + z then some ((if x < 0 then ((pc : Int) + z).toNat else pc + 3), lv, r, w) else none) := by simp [pm_d, pm_i, pm_ln, pm_cz]
theorem pd_if_ge {z : Int} {x : Int32} : pm_d F K tc sz n nL (.ok (.ifCond .ge z, 3)) pc lv (.int x :: r) w = (if 0 ≤ (pc : Int) + z then some ((if 0 ≤ x then ((pc : Int) + z).toNat else pc + 3), lv, r, w) else none) := by simp [pm_d, pm_i, pm_ln, pm_cz]
theorem pd_if_gt {z : Int} {x : Int32} : pm_d F K tc sz n nL (.ok (.ifCond .gt z, 3)) pc lv (.int x :: r) w = (if 0 ≤ (pc : Int) + z then some ((if 0 < x then ((pc : Int) + z).toNat else pc + 3), lv, r, w) else none) := by simp [pm_d, pm_i, pm_ln, pm_cz]
theorem pd_if_le {z : Int} {x : Int32} : pm_d F K tc sz n nL (.ok (.ifCond .le z, 3)) pc lv (.int x :: r) w = (if 0 ≤ (pc : Int) + z then some ((if x ≤ 0 then ((pc : Int) + z).toNat else pc + 3), lv, r, w) else none) := by simp [pm_d, pm_i, pm_ln, pm_cz]
theorem pd_icmp_eq {z : Int} {x y : Int32} : pm_d F K tc sz n nL (.ok (.if_icmp .eq z, 3)) pc lv (.int y :: .int x :: r) w = (if 0 ≤ (pc : Int) + z then some ((if x = y then ((pc : Int) + z).toNat else pc + 3), lv, r, w) else none) := by simp [pm_d, pm_i, pm_ln, pm_cc]
theorem pd_icmp_ne {z : Int} {x y : Int32} : pm_d F K tc sz n nL (.ok (.if_icmp .ne z, 3)) pc lv (.int y :: .int x :: r) w = (if 0 ≤ (pc : Int) + z then some ((if ¬ x = y then ((pc : Int) + z).toNat else pc + 3), lv, r, w) else none) := by simp [pm_d, pm_i, pm_ln, pm_cc]
theorem pd_icmp_lt {z : Int} {x y : Int32} : pm_d F K tc sz n nL (.ok (.if_icmp .lt z, 3)) pc lv (.int y :: .int x :: r) w = (if 0 ≤ (pc : Int) + z then some ((if x < y then ((pc : Int) + z).toNat else pc + 3), lv, r, w) else none) := by simp [pm_d, pm_i, pm_ln, pm_cc]
theorem pd_icmp_ge {z : Int} {x y : Int32} : pm_d F K tc sz n nL (.ok (.if_icmp .ge z, 3)) pc lv (.int y :: .int x :: r) w = (if 0 ≤ (pc : Int) + z then some ((if y ≤ x then ((pc : Int) + z).toNat else pc + 3), lv, r, w) else none) := by simp [pm_d, pm_i, pm_ln, pm_cc]
theorem pd_icmp_gt {z : Int} {x y : Int32} : pm_d F K tc sz n nL (.ok (.if_icmp .gt z, 3)) pc lv (.int y :: .int x :: r) w = (if 0 ≤ (pc : Int) + z then some ((if y < x then ((pc : Int) + z).toNat else pc + 3), lv, r, w) else none) := by simp [pm_d, pm_i, pm_ln, pm_cc]
theorem pd_icmp_le {z : Int} {x y : Int32} : pm_d F K tc sz n nL (.ok (.if_icmp .le z, 3)) pc lv (.int y :: .int x :: r) w = (if 0 ≤ (pc : Int) + z then some ((if x ≤ y then ((pc : Int) + z).toNat else pc + 3), lv, r, w) else none) := by simp [pm_d, pm_i, pm_ln, pm_cc]
theorem pd_iaload {j : Int32} {a : Nat} : pm_d F K tc sz n nL (.ok (.iaload, 1)) pc lv (.int j :: .ref a :: r) w = pm_ial (tc 0) (pm_at sz n w a) j (pc + 1) lv r w := rfl
theorem pd_baload {j : Int32} {a : Nat} : pm_d F K tc sz n nL (.ok (.baload, 1)) pc lv (.int j :: .ref a :: r) w = pm_ial (tc 2) (pm_at sz n w a) j (pc + 1) lv r w := rfl
theorem pd_laload {j : Int32} {a : Nat} : pm_d F K tc sz n nL (.ok (.laload, 1)) pc lv (.int j :: .ref a :: r) w = pm_lal (tc 1) (pm_at sz n w a) j (pc + 1) lv r w := rfl
theorem pd_aaload {j : Int32} {a : Nat} : pm_d F K tc sz n nL (.ok (.aaload, 1)) pc lv (.int j :: .ref a :: r) w = pm_aal (tc 3) (tc 4) (pm_at sz n w a) j (pc + 1) lv r w := rfl
theorem pd_iastore {j : Int32} {a : Nat} {x : Int32} : pm_d F K tc sz n nL (.ok (.iastore, 1)) pc lv (.int x :: .int j :: .ref a :: r) w = pm_ias (tc 0) (pm_at sz n w a) (a - sz) j x (pc + 1) lv r w := rfl
theorem pd_bastore {j : Int32} {a : Nat} {x : Int32} : pm_d F K tc sz n nL (.ok (.bastore, 1)) pc lv (.int x :: .int j :: .ref a :: r) w = pm_ias (tc 2) (pm_at sz n w a) (a - sz) j (vp_nar .boolean x) (pc + 1) lv r w := rfl
theorem pd_lastore {j : Int32} {a : Nat} {x : Int64} : pm_d F K tc sz n nL (.ok (.lastore, 1)) pc lv (.long x :: .int j :: .ref a :: r) w = pm_las (tc 1) (pm_at sz n w a) (a - sz) j x (pc + 1) lv r w := rfl
theorem pd_alen {a : Nat} : pm_d F K tc sz n nL (.ok (.arraylength, 1)) pc lv (.ref a :: r) w = pm_len tc (pm_at sz n w a) (pc + 1) lv r w := rfl
theorem pd_getfield {a : Nat} : pm_d F K tc sz n nL (.ok (.getfield i, 3)) pc lv (.ref a :: r) w = pm_gf (F i) (pm_at sz n w a) (pc + 3) lv r w := rfl
theorem pd_putfield {a : Nat} {v : Value} : pm_d F K tc sz n nL (.ok (.putfield i, 3)) pc lv (v :: .ref a :: r) w = pm_pf (F i) (pm_at sz n w a) (a - sz) v (pc + 3) lv r w := rfl
theorem ph_ial {j x : Int32} {N : Nat} {c0 c1 : ClassId} {f : Nat → Int32} : pm_ial c0 (some (.inl (c0, N, .inl f))) j pc lv r w = (pm_ix j N).map (fun i => (pc, lv, .int (f i) :: r, w)) := if_pos rfl
theorem ph_lal {j x : Int32} {N : Nat} {c0 c1 : ClassId} {f : Nat → Int64} : pm_lal c0 (some (.inl (c0, N, .inr (.inl f)))) j pc lv r w = (pm_ix j N).map (fun i => (pc, lv, .long (f i) :: r, w)) := if_pos rfl
theorem ph_aal0 {j x : Int32} {N : Nat} {c0 c1 : ClassId} {f : Nat → Option Nat} : pm_aal c0 c1 (some (.inl (c0, N, .inr (.inr (.inr (.inr f)))))) j pc lv r w = (pm_ix j N).map (fun i => (pc, lv, va_rf (f i) :: r, w)) := if_pos (Or.inl rfl)
theorem ph_aal1 {j x : Int32} {N : Nat} {c0 c1 : ClassId} {f : Nat → Option Nat} : pm_aal c0 c1 (some (.inl (c1, N, .inr (.inr (.inr (.inr f)))))) j pc lv r w = (pm_ix j N).map (fun i => (pc, lv, va_rf (f i) :: r, w)) := if_pos (Or.inr rfl)
theorem ph_ias {j x : Int32} {N : Nat} {c0 c1 : ClassId} {f : Nat → Int32} : pm_ias c0 (some (.inl (c0, N, .inl f))) k j x pc lv r w = (pm_ix j N).map (fun i => (pc, lv, r, va_up w k (.inl (c0, N, .inl (upd f i x))))) := if_pos rfl
theorem ph_las {j : Int32} {x : Int64} {N : Nat} {c0 : ClassId} {f : Nat → Int64} : pm_las c0 (some (.inl (c0, N, .inr (.inl f)))) k j x pc lv r w = (pm_ix j N).map (fun i => (pc, lv, r, va_up w k (.inl (c0, N, .inr (.inl (vp_updL f i x)))))) := if_pos rfl
theorem ph_len0 {y : vp_A} : pm_len tc (some (.inl (tc 0, y))) pc lv r w = some (pc, lv, .int (Int32.ofNat y.1) :: r, w) := if_pos (by simp)
theorem ph_len1 {y : vp_A} : pm_len tc (some (.inl (tc 1, y))) pc lv r w = some (pc, lv, .int (Int32.ofNat y.1) :: r, w) := if_pos (by simp)
theorem ph_len2 {y : vp_A} : pm_len tc (some (.inl (tc 2, y))) pc lv r w = some (pc, lv, .int (Int32.ofNat y.1) :: r, w) := if_pos (by simp)
theorem ph_gf {ci i : Nat} {ty : FieldType} {fin : Bool} {fs : List Value} : pm_gf (some (ci, i, ty, fin)) (some (.inr (ci, fs))) pc lv r w = (fs[i]?).map (fun v => (pc, lv, v :: r, w)) := if_pos rfl
theorem ph_pfi {ci i : Nat} {x : Int32} {fs : List Value} : pm_pf (some (ci, i, .int, false)) (some (.inr (ci, fs))) k (.int x) pc lv r w = if i < fs.length then some (pc, lv, r, va_up w k (.inr (ci, fs.set i (.int x)))) else none := by simp [pm_pf, narrow, fits]
theorem ph_pfl {ci i : Nat} {x : Int64} {fs : List Value} : pm_pf (some (ci, i, .long, false)) (some (.inr (ci, fs))) k (.long x) pc lv r w = if i < fs.length then some (pc, lv, r, va_up w k (.inr (ci, fs.set i (.long x)))) else none := by simp [pm_pf, narrow, fits]
theorem ph_pfz0 {ci i : Nat} {fs : List Value} : pm_pf (some (ci, i, .boolean, false)) (some (.inr (ci, fs))) k (.int (nI 0)) pc lv r w = if i < fs.length then some (pc, lv, r, va_up w k (.inr (ci, fs.set i (.int (nI 0))))) else none := by
  have h1 : narrow .boolean (.int (nI 0)) = .int (nI 0) := by decide
  have h2 : fits .boolean (.int (nI 0)) = true := by decide
  simp [pm_pf, h1, h2]
theorem ph_pfz1 {ci i : Nat} {fs : List Value} : pm_pf (some (ci, i, .boolean, false)) (some (.inr (ci, fs))) k (.int (nI 1)) pc lv r w = if i < fs.length then some (pc, lv, r, va_up w k (.inr (ci, fs.set i (.int (nI 1))))) else none := by
  have h1 : narrow .boolean (.int (nI 1)) = .int (nI 1) := by decide
  have h2 : fits .boolean (.int (nI 1)) = true := by decide
  simp [pm_pf, h1, h2]
theorem ph_nz0 : vp_nar .boolean (nI 0) = nI 0 := by decide
theorem ph_nz1 : vp_nar .boolean (nI 1) = nI 1 := by decide
theorem pm_cm1 : Int32.ofInt (-1) = -1 := by decide
theorem pm_c0 : Int32.ofInt 0 = nI 0 := by decide
theorem pm_c1 : Int32.ofInt 1 = nI 1 := by decide
theorem pm_c2 : Int32.ofInt 2 = nI 2 := by decide
theorem pm_c3 : Int32.ofInt 3 = nI 3 := by decide
theorem pm_c4 : Int32.ofInt 4 = nI 4 := by decide
theorem pm_c5 : Int32.ofInt 5 = nI 5 := by decide
theorem pm_b6 : (Int8.ofInt 6).toInt32 = nI 6 := by decide
theorem pm_b7 : (Int8.ofInt 7).toInt32 = nI 7 := by decide
theorem pm_b8 : (Int8.ofInt 8).toInt32 = nI 8 := by decide
theorem pm_b9 : (Int8.ofInt 9).toInt32 = nI 9 := by decide
theorem pm_b10 : (Int8.ofInt 10).toInt32 = nI 10 := by decide
theorem pm_b11 : (Int8.ofInt 11).toInt32 = nI 11 := by decide
theorem pm_b12 : (Int8.ofInt 12).toInt32 = nI 12 := by decide
theorem pm_b14 : (Int8.ofInt 14).toInt32 = nI 14 := by decide
theorem pm_b15 : (Int8.ofInt 15).toInt32 = nI 15 := by decide
theorem pm_b16 : (Int8.ofInt 16).toInt32 = nI 16 := by decide
theorem pm_b20 : (Int8.ofInt 20).toInt32 = nI 20 := by decide
theorem pm_b24 : (Int8.ofInt 24).toInt32 = nI 24 := by decide
theorem pm_b25 : (Int8.ofInt 25).toInt32 = nI 25 := by decide
theorem pm_b28 : (Int8.ofInt 28).toInt32 = nI 28 := by decide
theorem pm_b31 : (Int8.ofInt 31).toInt32 = nI 31 := by decide
theorem pm_b32 : (Int8.ofInt 32).toInt32 = nI 32 := by decide
theorem pm_b48 : (Int8.ofInt 48).toInt32 = nI 48 := by decide
theorem pm_b56 : (Int8.ofInt 56).toInt32 = nI 56 := by decide
theorem pm_b60 : (Int8.ofInt 60).toInt32 = nI 60 := by decide
theorem pm_b63 : (Int8.ofInt 63).toInt32 = nI 63 := by decide
theorem pm_b64 : (Int8.ofInt 64).toInt32 = nI 64 := by decide
theorem pm_b67 : (Int8.ofInt 67).toInt32 = nI 67 := by decide
theorem pm_b68 : (Int8.ofInt 68).toInt32 = nI 68 := by decide
theorem pm_b89 : (Int8.ofInt 89).toInt32 = nI 89 := by decide
theorem pm_b90 : (Int8.ofInt 90).toInt32 = nI 90 := by decide
theorem pm_b95 : (Int8.ofInt 95).toInt32 = nI 95 := by decide
theorem pm_b100 : (Int8.ofInt 100).toInt32 = nI 100 := by decide
theorem pm_b120 : (Int8.ofInt 120).toInt32 = nI 120 := by decide
theorem pm_b127 : (Int8.ofInt 127).toInt32 = nI 127 := by decide
theorem pm_h128 : (Int16.ofInt 128).toInt32 = nI 128 := by decide
theorem pm_h150 : (Int16.ofInt 150).toInt32 = nI 150 := by decide
theorem pm_h168 : (Int16.ofInt 168).toInt32 = nI 168 := by decide
theorem pm_h255 : (Int16.ofInt 255).toInt32 = nI 255 := by decide
theorem pm_h256 : (Int16.ofInt 256).toInt32 = nI 256 := by decide
theorem pm_h360 : (Int16.ofInt 360).toInt32 = nI 360 := by decide
theorem pm_h369 : (Int16.ofInt 369).toInt32 = nI 369 := by decide
theorem pm_h450 : (Int16.ofInt 450).toInt32 = nI 450 := by decide
theorem pm_h4096 : (Int16.ofInt 4096).toInt32 = nI 4096 := by decide
theorem pm_h8192 : (Int16.ofInt 8192).toInt32 = nI 8192 := by decide
theorem pm_h32767 : (Int16.ofInt 32767).toInt32 = nI 32767 := by decide
theorem pm_h4643 : (Int16.ofInt 4643).toInt32 = nI 4643 := by decide
theorem pm_h13363 : (Int16.ofInt 13363).toInt32 = nI 13363 := by decide
theorem pm_h20579 : (Int16.ofInt 20579).toInt32 = nI 20579 := by decide
theorem pm_h25843 : (Int16.ofInt 25843).toInt32 = nI 25843 := by decide
theorem pm_h29227 : (Int16.ofInt 29227).toInt32 = nI 29227 := by decide
theorem pm_h31145 : (Int16.ofInt 31145).toInt32 = nI 31145 := by decide
theorem pm_h32103 : (Int16.ofInt 32103).toInt32 = nI 32103 := by decide
theorem pm_h32525 : (Int16.ofInt 32525).toInt32 = nI 32525 := by decide
theorem pm_h32689 : (Int16.ofInt 32689).toInt32 = nI 32689 := by decide
theorem pm_h32745 : (Int16.ofInt 32745).toInt32 = nI 32745 := by decide
theorem pm_h32762 : (Int16.ofInt 32762).toInt32 = nI 32762 := by decide
theorem pm_h32766 : (Int16.ofInt 32766).toInt32 = nI 32766 := by decide
theorem pm_o {m : Nat} : Int32.ofNat m = nI m := rfl
end PMR
