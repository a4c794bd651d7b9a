section R1
variable {p : Program} {l : Launch} {e : Env} {R : Room} {s : State} {m : MethodId} {args : Array Value} {below : List Frame} {meth : Method} {c : Code} {Q : State → Prop} {D : va_G} {tc : Nat → ClassId} {sz : Nat} {tk : Nat → Nat} {hz : Option Nat} {w : Nat → va_E}
variable {f g h f1 f2 : Nat → Int64} {len N i j k a b n0 : Nat} {x : Int64} {r u r1 e0 : Nat → Int32} {y co : Int32} {bb b1 : Nat → Int64}
theorem pm_h167 : (Int16.ofInt 167).toInt32 = nI 167 := by decide
theorem pm_b80 : (Int8.ofInt 80).toInt32 = nI 80 := by decide
def rq_ (tc : Nat → ClassId) (sz : Nat) (w : Nat → va_E) (co : Int32) (n0 : Nat) (f g h : Nat → Int64) (r u : Nat → Int32) : Nat → va_E := fun k =>
  if k = 69 then .inr (6, [.int co, .ref (sz + 70), .ref (sz + 71), .ref (sz + 72), .ref (sz + 73), .ref (sz + 74), .int (nI n0), .ref (sz + 75), .ref (sz + 76), .ref (sz + 77), .ref (sz + 78), .ref (sz + 79), .ref (sz + 80), .ref (sz + 81), .ref (sz + 82), .ref (sz + 83), .ref (sz + 84), .ref (sz + 85), .ref (sz + 86), .ref (sz + 87), .ref (sz + 88), .ref (sz + 89)]) else if k = 72 then .inl (tc 1, 25, .inr (.inl f)) else if k = 73 then .inl (tc 1, 25, .inr (.inl g)) else if k = 74 then .inl (tc 1, 5, .inr (.inl h)) else if k = 75 then .inl (tc 0, 168, .inl r) else if k = 76 then .inl (tc 0, 168, .inl u) else w k
theorem rq_69 : rq_ tc sz w co n0 f g h r u 69 = .inr (6, [.int co, .ref (sz + 70), .ref (sz + 71), .ref (sz + 72), .ref (sz + 73), .ref (sz + 74), .int (nI n0), .ref (sz + 75), .ref (sz + 76), .ref (sz + 77), .ref (sz + 78), .ref (sz + 79), .ref (sz + 80), .ref (sz + 81), .ref (sz + 82), .ref (sz + 83), .ref (sz + 84), .ref (sz + 85), .ref (sz + 86), .ref (sz + 87), .ref (sz + 88), .ref (sz + 89)]) := rfl
theorem rq_72 : rq_ tc sz w co n0 f g h r u 72 = .inl (tc 1, 25, .inr (.inl f)) := rfl
theorem rq_73 : rq_ tc sz w co n0 f g h r u 73 = .inl (tc 1, 25, .inr (.inl g)) := rfl
theorem rq_74 : rq_ tc sz w co n0 f g h r u 74 = .inl (tc 1, 5, .inr (.inl h)) := rfl
theorem rq_75 : rq_ tc sz w co n0 f g h r u 75 = .inl (tc 0, 168, .inl r) := rfl
theorem rq_76 : rq_ tc sz w co n0 f g h r u 76 = .inl (tc 0, 168, .inl u) := rfl
theorem rq_u69a {y : Int32} : va_up (rq_ tc sz w co n0 f g h r u) 69 (.inr (6, [.int y, .ref (sz + 70), .ref (sz + 71), .ref (sz + 72), .ref (sz + 73), .ref (sz + 74), .int (nI n0), .ref (sz + 75), .ref (sz + 76), .ref (sz + 77), .ref (sz + 78), .ref (sz + 79), .ref (sz + 80), .ref (sz + 81), .ref (sz + 82), .ref (sz + 83), .ref (sz + 84), .ref (sz + 85), .ref (sz + 86), .ref (sz + 87), .ref (sz + 88), .ref (sz + 89)])) = rq_ tc sz w y n0 f g h r u := by
  funext k
  by_cases h69 : k = 69
  · subst h69; rfl
  by_cases h72 : k = 72
  · subst h72; rfl
  by_cases h73 : k = 73
  · subst h73; rfl
  by_cases h74 : k = 74
  · subst h74; rfl
  by_cases h75 : k = 75
  · subst h75; rfl
  by_cases h76 : k = 76
  · subst h76; rfl
  simp [va_up, rq_, h69, h72, h73, h74, h75, h76]
theorem rq_u69b {i : Nat} : va_up (rq_ tc sz w co n0 f g h r u) 69 (.inr (6, [.int co, .ref (sz + 70), .ref (sz + 71), .ref (sz + 72), .ref (sz + 73), .ref (sz + 74), .int (nI i), .ref (sz + 75), .ref (sz + 76), .ref (sz + 77), .ref (sz + 78), .ref (sz + 79), .ref (sz + 80), .ref (sz + 81), .ref (sz + 82), .ref (sz + 83), .ref (sz + 84), .ref (sz + 85), .ref (sz + 86), .ref (sz + 87), .ref (sz + 88), .ref (sz + 89)])) = rq_ tc sz w co i f g h r u := by
  funext k
  by_cases h69 : k = 69
  · subst h69; rfl
  by_cases h72 : k = 72
  · subst h72; rfl
  by_cases h73 : k = 73
  · subst h73; rfl
  by_cases h74 : k = 74
  · subst h74; rfl
  by_cases h75 : k = 75
  · subst h75; rfl
  by_cases h76 : k = 76
  · subst h76; rfl
  simp [va_up, rq_, h69, h72, h73, h74, h75, h76]
theorem rq_u72 : va_up (rq_ tc sz w co n0 f g h r u) 72 (.inl (tc 1, 25, .inr (.inl f1))) = rq_ tc sz w co n0 f1 g h r u := by
  funext k
  by_cases h69 : k = 69
  · subst h69; rfl
  by_cases h72 : k = 72
  · subst h72; rfl
  by_cases h73 : k = 73
  · subst h73; rfl
  by_cases h74 : k = 74
  · subst h74; rfl
  by_cases h75 : k = 75
  · subst h75; rfl
  by_cases h76 : k = 76
  · subst h76; rfl
  simp [va_up, rq_, h69, h72, h73, h74, h75, h76]
theorem rq_u73 : va_up (rq_ tc sz w co n0 f g h r u) 73 (.inl (tc 1, 25, .inr (.inl f1))) = rq_ tc sz w co n0 f f1 h r u := by
  funext k
  by_cases h69 : k = 69
  · subst h69; rfl
  by_cases h72 : k = 72
  · subst h72; rfl
  by_cases h73 : k = 73
  · subst h73; rfl
  by_cases h74 : k = 74
  · subst h74; rfl
  by_cases h75 : k = 75
  · subst h75; rfl
  by_cases h76 : k = 76
  · subst h76; rfl
  simp [va_up, rq_, h69, h72, h73, h74, h75, h76]
theorem rq_u74 : va_up (rq_ tc sz w co n0 f g h r u) 74 (.inl (tc 1, 5, .inr (.inl f1))) = rq_ tc sz w co n0 f g f1 r u := by
  funext k
  by_cases h69 : k = 69
  · subst h69; rfl
  by_cases h72 : k = 72
  · subst h72; rfl
  by_cases h73 : k = 73
  · subst h73; rfl
  by_cases h74 : k = 74
  · subst h74; rfl
  by_cases h75 : k = 75
  · subst h75; rfl
  by_cases h76 : k = 76
  · subst h76; rfl
  simp [va_up, rq_, h69, h72, h73, h74, h75, h76]
theorem rq_u75 : va_up (rq_ tc sz w co n0 f g h r u) 75 (.inl (tc 0, 168, .inl r1)) = rq_ tc sz w co n0 f g h r1 u := by
  funext k
  by_cases h69 : k = 69
  · subst h69; rfl
  by_cases h72 : k = 72
  · subst h72; rfl
  by_cases h73 : k = 73
  · subst h73; rfl
  by_cases h74 : k = 74
  · subst h74; rfl
  by_cases h75 : k = 75
  · subst h75; rfl
  by_cases h76 : k = 76
  · subst h76; rfl
  simp [va_up, rq_, h69, h72, h73, h74, h75, h76]
theorem rq_u76 : va_up (rq_ tc sz w co n0 f g h r u) 76 (.inl (tc 0, 168, .inl r1)) = rq_ tc sz w co n0 f g h r r1 := by
  funext k
  by_cases h69 : k = 69
  · subst h69; rfl
  by_cases h72 : k = 72
  · subst h72; rfl
  by_cases h73 : k = 73
  · subst h73; rfl
  by_cases h74 : k = 74
  · subst h74; rfl
  by_cases h75 : k = 75
  · subst h75; rfl
  by_cases h76 : k = 76
  · subst h76; rfl
  simp [va_up, rq_, h69, h72, h73, h74, h75, h76]
theorem rq_o {k : Nat} (hk : k < 69 ∨ k = 70 ∨ k = 71 ∨ 76 < k) : rq_ tc sz w co n0 f g h r u k = w k := by
  have h1 : k ≠ 69 ∧ k ≠ 72 ∧ k ≠ 73 ∧ k ≠ 74 ∧ k ≠ 75 ∧ k ≠ 76 := by omega
  simp [rq_, h1]
theorem rq_up {k : Nat} {z : va_E} (hk : k < 69 ∨ k = 70 ∨ k = 71 ∨ 76 < k) : va_up (rq_ tc sz w co n0 f g h r u) k z = rq_ tc sz (va_up w k z) co n0 f g h r u := by
  have h1 : k ≠ 69 ∧ k ≠ 72 ∧ k ≠ 73 ∧ k ≠ 74 ∧ k ≠ 75 ∧ k ≠ 76 := by omega
  funext i
  by_cases hi : i = k
  · subst hi
    simp [va_up, rq_, h1]
  · simp [va_up, rq_, hi]
theorem rq_rq {co1 : Int32} {n1 : Nat} {g1 h1 : Nat → Int64} {u1 : Nat → Int32} : rq_ tc sz (rq_ tc sz w co1 n1 f1 g1 h1 r1 u1) co n0 f g h r u = rq_ tc sz w co n0 f g h r u := by
  funext k
  by_cases q : k = 69 ∨ k = 72 ∨ k = 73 ∨ k = 74 ∨ k = 75 ∨ k = 76
  · rcases q with rfl | rfl | rfl | rfl | rfl | rfl <;> rfl
  · rw [rq_o (by omega), rq_o (by omega), rq_o (by omega)]
theorem ro_0 (x : Int64) : ro_ x 0 = x := by
  unfold ro_ jl_shl jl_ushr
  have h1 : ((0 : Int32).toInt64 &&& 63) = 0 := by decide
  have h2 : ((nI 64 - 0 : Int32).toInt64.toUInt64 &&& Int64.toUInt64 63) = 0 := by decide
  rw [h1, h2]
  apply Int64.toBitVec_inj.mp
  simp
set_option maxHeartbeats 4000000 in
theorem m_R_rot {n : Nat} : mm_ l y_R_rot c_R_rot 3 (some .long) (rm_ 0) D tc sz tk [.long x, .int y] hz n (w) hz n (fun v w1 => v = some (.long (ro_ x y)) ∧ w1 = w) := by
  refine mm_of (by decide) (Nat.le_of_ble_eq_true rfl) ?_
  intro p e s m args below meth c X hr hk hnm
  by_cases hy : y = 0
  · subst hy
    have e1 : ((0 : Int32) = 0) = True := eq_true rfl
    refine pm_v_ok (cx_X X X_R) 4 _ _ _ _ (by simp -implicitDefEqProofs only [pv_0, pv_s, pd_iconst, pd_bipush, pd_sipush, pd_lconst_0, pd_lconst_1, pd_ldc, pd_ldc2, pd_iload_0, pd_iload_1, pd_iload_2, pd_iload_3, pd_iload, pd_lload_0, pd_lload_1, pd_lload_2, pd_lload_3, pd_lload, pd_aload_0, pd_aload_1, pd_aload_2, pd_aload_3, pd_aload, pd_istore_0, pd_istore_1, pd_istore_2, pd_istore_3, pd_istore, pd_lstore_0, pd_lstore_1, pd_lstore_2, pd_lstore_3, pd_lstore, pd_astore_0, pd_astore_1, pd_astore_2, pd_astore_3, pd_astore, pd_iinc, pd_iadd, pd_isub, pd_imul, pd_iand, pd_ior, pd_ixor, pd_ishl, pd_ishr, pd_iushr, pd_idiv, pd_irem, pd_ineg, pd_ladd, pd_lsub, pd_lmul, pd_land, pd_lor, pd_lxor, pd_lshl, pd_lushr, pd_lcmp, pd_i2l, pd_l2i, pd_dup_int, pd_pop_int, pd_dup_ref, pd_pop_ref, pd_dup_x1_ir, pd_dup_x1_ii, pd_dup2_ir, pd_dup2_ii, pd_goto, pd_if_eq, pd_if_ne, pd_if_lt, pd_if_ge, pd_if_gt, pd_if_le, pd_icmp_eq, pd_icmp_ne, pd_icmp_lt, pd_icmp_ge, pd_icmp_gt, pd_icmp_le, pd_iaload, pd_baload, pd_laload, pd_aaload, pd_iastore, pd_bastore, pd_lastore, pd_alen, pd_getfield, pd_putfield, ph_las, ph_len0, ph_len1, ph_len2, ph_gf, ph_pfi, ph_pfl, ph_pfz0, ph_pfz1, ph_nz0, ph_nz1, pm_cm1, pm_c0, pm_c1, pm_c2, pm_c3, pm_c4, pm_c5, pm_b6, pm_b7, pm_b8, pm_b9, pm_b10, pm_b11, pm_b12, pm_b14, pm_b15, pm_b16, pm_b20, pm_b24, pm_b25, pm_b28, pm_b31, pm_b32, pm_b48, pm_b56, pm_b60, pm_b63, pm_b64, pm_b67, pm_b68, pm_b89, pm_b90, pm_b95, pm_b100, pm_b120, pm_b127, pm_h128, pm_h150, pm_h168, pm_h255, pm_h256, pm_h360, pm_h369, pm_h450, pm_h4096, pm_h8192, pm_h32767, pm_h4643, pm_h13363, pm_h20579, pm_h25843, pm_h29227, pm_h31145, pm_h32103, pm_h32525, pm_h32689, pm_h32745, pm_h32762, pm_h32766, pm_o, pm_ldi, pm_ldl, pm_lda, pm_sti, pm_stl, pm_sta, pm_lk, pm_f1, pm_f2, Value.category, lv_args, Option.bind_some, Option.map_some, if_true, if_false, ite_true, ite_false, Nat.reduceAdd, Nat.reduceSub, Nat.reduceMul, Nat.reduceDiv, Nat.reduceMod, Nat.reduceLT, Nat.reduceLeDiff, Nat.reduceEqDiff, reduceIte, reduceCtorEq, Int.reduceNatCast, Int.reduceNatCast', Int.reduceAdd, Int.reduceLE, Int.reduceLT, Int.reduceToNat, Int.reduceNeg, Int.reduceSub, pm_at_add, Nat.add_sub_cancel_left, va_up_g, Int.ofNat_eq_natCast, List.getElem?_cons_zero, List.getElem?_cons_succ, List.set_cons_zero, List.set_cons_succ, List.length_cons, List.length_nil, Nat.zero_add, va_rf, nI_add, pk_mul, Int.toNat_natCast, pm_ix_nI, Option.toList_none, Option.toList_some, List.nil_append, List.cons_append, pq_ial, pq_lal, pq_aal0, pq_aal1, pq_ias, F_R, K_R, d_R_rot_0, d_R_rot_1, d_R_rot_4, d_R_rot_5, e1, not_true_eq_false]; exact rfl) ?_
    exact mr_l X hr hk d_R_rot_18 (Nat.le_refl _) (Nat.le_refl _) ⟨by rw [ro_0], rfl⟩
  · have e1 : (y = 0) = False := eq_false hy
    refine pm_v_ok (cx_X X X_R) 11 _ _ _ _ (by simp -implicitDefEqProofs only [pv_0, pv_s, pd_iconst, pd_bipush, pd_sipush, pd_lconst_0, pd_lconst_1, pd_ldc, pd_ldc2, pd_iload_0, pd_iload_1, pd_iload_2, pd_iload_3, pd_iload, pd_lload_0, pd_lload_1, pd_lload_2, pd_lload_3, pd_lload, pd_aload_0, pd_aload_1, pd_aload_2, pd_aload_3, pd_aload, pd_istore_0, pd_istore_1, pd_istore_2, pd_istore_3, pd_istore, pd_lstore_0, pd_lstore_1, pd_lstore_2, pd_lstore_3, pd_lstore, pd_astore_0, pd_astore_1, pd_astore_2, pd_astore_3, pd_astore, pd_iinc, pd_iadd, pd_isub, pd_imul, pd_iand, pd_ior, pd_ixor, pd_ishl, pd_ishr, pd_iushr, pd_idiv, pd_irem, pd_ineg, pd_ladd, pd_lsub, pd_lmul, pd_land, pd_lor, pd_lxor, pd_lshl, pd_lushr, pd_lcmp, pd_i2l, pd_l2i, pd_dup_int, pd_pop_int, pd_dup_ref, pd_pop_ref, pd_dup_x1_ir, pd_dup_x1_ii, pd_dup2_ir, pd_dup2_ii, pd_goto, pd_if_eq, pd_if_ne, pd_if_lt, pd_if_ge, pd_if_gt, pd_if_le, pd_icmp_eq, pd_icmp_ne, pd_icmp_lt, pd_icmp_ge, pd_icmp_gt, pd_icmp_le, pd_iaload, pd_baload, pd_laload, pd_aaload, pd_iastore, pd_bastore, pd_lastore, pd_alen, pd_getfield, pd_putfield, ph_las, ph_len0, ph_len1, ph_len2, ph_gf, ph_pfi, ph_pfl, ph_pfz0, ph_pfz1, ph_nz0, ph_nz1, pm_cm1, pm_c0, pm_c1, pm_c2, pm_c3, pm_c4, pm_c5, pm_b6, pm_b7, pm_b8, pm_b9, pm_b10, pm_b11, pm_b12, pm_b14, pm_b15, pm_b16, pm_b20, pm_b24, pm_b25, pm_b28, pm_b31, pm_b32, pm_b48, pm_b56, pm_b60, pm_b63, pm_b64, pm_b67, pm_b68, pm_b89, pm_b90, pm_b95, pm_b100, pm_b120, pm_b127, pm_h128, pm_h150, pm_h168, pm_h255, pm_h256, pm_h360, pm_h369, pm_h450, pm_h4096, pm_h8192, pm_h32767, pm_h4643, pm_h13363, pm_h20579, pm_h25843, pm_h29227, pm_h31145, pm_h32103, pm_h32525, pm_h32689, pm_h32745, pm_h32762, pm_h32766, pm_o, pm_ldi, pm_ldl, pm_lda, pm_sti, pm_stl, pm_sta, pm_lk, pm_f1, pm_f2, Value.category, lv_args, Option.bind_some, Option.map_some, if_true, if_false, ite_true, ite_false, Nat.reduceAdd, Nat.reduceSub, Nat.reduceMul, Nat.reduceDiv, Nat.reduceMod, Nat.reduceLT, Nat.reduceLeDiff, Nat.reduceEqDiff, reduceIte, reduceCtorEq, Int.reduceNatCast, Int.reduceNatCast', Int.reduceAdd, Int.reduceLE, Int.reduceLT, Int.reduceToNat, Int.reduceNeg, Int.reduceSub, pm_at_add, Nat.add_sub_cancel_left, va_up_g, Int.ofNat_eq_natCast, List.getElem?_cons_zero, List.getElem?_cons_succ, List.set_cons_zero, List.set_cons_succ, List.length_cons, List.length_nil, Nat.zero_add, va_rf, nI_add, pk_mul, Int.toNat_natCast, pm_ix_nI, Option.toList_none, Option.toList_some, List.nil_append, List.cons_append, pq_ial, pq_lal, pq_aal0, pq_aal1, pq_ias, F_R, K_R, d_R_rot_0, d_R_rot_1, d_R_rot_8, d_R_rot_9, d_R_rot_10, d_R_rot_11, d_R_rot_12, d_R_rot_14, d_R_rot_15, d_R_rot_16, d_R_rot_17, e1, not_false_eq_true]; exact rfl) ?_
    exact mr_l X hr hk d_R_rot_18 (Nat.le_refl _) (Nat.le_refl _) ⟨rfl, rfl⟩
def ul_ : Nat → Nat
  | 0 => 1
  | t + 1 => if 255 < 2 * ul_ t then (2 * ul_ t) ^^^ 369 else 2 * ul_ t
def fp_ (t : Nat) : Nat := ul_ t % 2
def xq_ (a : Nat) : Nat → Int64
  | 0 => 0
  | j + 1 => if fp_ (7 * a + j) = 0 then xq_ a j else xq_ a j ^^^ jl_shl 1 (jv_shl (nI 1) (nI j) - nI 1)
def tu_ (tc : Nat → ClassId) (w : Nat → va_E) : Prop := ∃ q : Nat → Int32, w 70 = .inl (tc 0, 25, .inl q) ∧ ∀ k, k < 25 → q k = nI (tn_ k)
def fu_ (tc : Nat → ClassId) (w : Nat → va_E) : Prop := ∃ q : Nat → Int32, w 71 = .inl (tc 2, 168, .inl q) ∧ ∀ k, k < 168 → q k = nI (fp_ k)
set_option maxHeartbeats 4000000 in
theorem lp1_R_round  (X : cx_ p s m args c c_R_round 7 R_R D tc sz tk) (he : pm_G p l e (rm_ 1) s m args below meth c Q D cl_ sz 7 hz 91 0 0 (rq_ tc sz w co n0 f g (ch_ f h 5) r u) 64 [(2, .int (nI 5)), (0, .ref (sz + 69)), (1, .int (nI a))] []) : ∀ i j : Nat, j + i = 5 → pm_G p l e (rm_ 1) s m args below meth c Q D cl_ sz 7 hz 91 0 0 (rq_ tc sz w co n0 f g (ch_ f h j) r u) 2 [(2, .int (nI j)), (0, .ref (sz + 69)), (1, .int (nI a))] [] := by
  intro i
  induction i with
  | zero =>
    intro j hj
    obtain rfl : j = 5 := by omega
    have h1 : (nI 5 ≤ nI 5) = True := eq_true (nI_le (Nat.le_refl _) (by decide))
    refine pm_v_ok (cx_X X X_R) 3 _ _ _ _ (by simp -implicitDefEqProofs only [pv_0, pv_s, pd_iconst, pd_bipush, pd_sipush, pd_lconst_0, pd_lconst_1, pd_ldc, pd_ldc2, pd_iload_0, pd_iload_1, pd_iload_2, pd_iload_3, pd_iload, pd_lload_0, pd_lload_1, pd_lload_2, pd_lload_3, pd_lload, pd_aload_0, pd_aload_1, pd_aload_2, pd_aload_3, pd_aload, pd_istore_0, pd_istore_1, pd_istore_2, pd_istore_3, pd_istore, pd_lstore_0, pd_lstore_1, pd_lstore_2, pd_lstore_3, pd_lstore, pd_astore_0, pd_astore_1, pd_astore_2, pd_astore_3, pd_astore, pd_iinc, pd_iadd, pd_isub, pd_imul, pd_iand, pd_ior, pd_ixor, pd_ishl, pd_ishr, pd_iushr, pd_idiv, pd_irem, pd_ineg, pd_ladd, pd_lsub, pd_lmul, pd_land, pd_lor, pd_lxor, pd_lshl, pd_lushr, pd_lcmp, pd_i2l, pd_l2i, pd_dup_int, pd_pop_int, pd_dup_ref, pd_pop_ref, pd_dup_x1_ir, pd_dup_x1_ii, pd_dup2_ir, pd_dup2_ii, pd_goto, pd_if_eq, pd_if_ne, pd_if_lt, pd_if_ge, pd_if_gt, pd_if_le, pd_icmp_eq, pd_icmp_ne, pd_icmp_lt, pd_icmp_ge, pd_icmp_gt, pd_icmp_le, pd_iaload, pd_baload, pd_laload, pd_aaload, pd_iastore, pd_bastore, pd_lastore, pd_alen, pd_getfield, pd_putfield, ph_las, ph_len0, ph_len1, ph_len2, ph_gf, ph_pfi, ph_pfl, ph_pfz0, ph_pfz1, ph_nz0, ph_nz1, pm_cm1, pm_c0, pm_c1, pm_c2, pm_c3, pm_c4, pm_c5, pm_b6, pm_b7, pm_b8, pm_b9, pm_b10, pm_b11, pm_b12, pm_b14, pm_b15, pm_b16, pm_b20, pm_b24, pm_b25, pm_b28, pm_b31, pm_b32, pm_b48, pm_b56, pm_b60, pm_b63, pm_b64, pm_b67, pm_b68, pm_b89, pm_b90, pm_b95, pm_b100, pm_b120, pm_b127, pm_h128, pm_h150, pm_h168, pm_h255, pm_h256, pm_h360, pm_h369, pm_h450, pm_h4096, pm_h8192, pm_h32767, pm_h4643, pm_h13363, pm_h20579, pm_h25843, pm_h29227, pm_h31145, pm_h32103, pm_h32525, pm_h32689, pm_h32745, pm_h32762, pm_h32766, pm_o, pm_ldi, pm_ldl, pm_lda, pm_sti, pm_stl, pm_sta, pm_lk, pm_f1, pm_f2, Value.category, lv_args, Option.bind_some, Option.map_some, if_true, if_false, ite_true, ite_false, Nat.reduceAdd, Nat.reduceSub, Nat.reduceMul, Nat.reduceDiv, Nat.reduceMod, Nat.reduceLT, Nat.reduceLeDiff, Nat.reduceEqDiff, reduceIte, reduceCtorEq, Int.reduceNatCast, Int.reduceNatCast', Int.reduceAdd, Int.reduceLE, Int.reduceLT, Int.reduceToNat, Int.reduceNeg, Int.reduceSub, pm_at_add, Nat.add_sub_cancel_left, va_up_g, Int.ofNat_eq_natCast, List.getElem?_cons_zero, List.getElem?_cons_succ, List.set_cons_zero, List.set_cons_succ, List.length_cons, List.length_nil, Nat.zero_add, va_rf, nI_add, pk_mul, Int.toNat_natCast, pm_ix_nI, Option.toList_none, Option.toList_some, List.nil_append, List.cons_append, pq_ial, pq_lal, pq_aal0, pq_aal1, pq_ias, F_R, K_R, d_R_round_2, d_R_round_3, d_R_round_4, h1]; exact rfl) ?_
    exact he
  | succ i ih =>
    intro j hj
    have h1 : (nI 5 ≤ nI j) = False := eq_false (nI_ge (by omega) (by decide))
    have e0 : pm_ix (nI j) 5 = some j := pm_ix_nI (by omega) (by decide)
    have e1 : pm_ix (nI j) 25 = some j := pm_ix_nI (by omega) (by decide)
    have e2 : pm_ix (nI (j + 5)) 25 = some (j + 5) := pm_ix_nI (by omega) (by decide)
    have e3 : pm_ix (nI (j + 10)) 25 = some (j + 10) := pm_ix_nI (by omega) (by decide)
    have e4 : pm_ix (nI (j + 15)) 25 = some (j + 15) := pm_ix_nI (by omega) (by decide)
    have e5 : pm_ix (nI (j + 20)) 25 = some (j + 20) := pm_ix_nI (by omega) (by decide)
    refine pm_v_ok (cx_X X X_R) 41 _ _ _ _ (by simp -implicitDefEqProofs only [pv_0, pv_s, pd_iconst, pd_bipush, pd_sipush, pd_lconst_0, pd_lconst_1, pd_ldc, pd_ldc2, pd_iload_0, pd_iload_1, pd_iload_2, pd_iload_3, pd_iload, pd_lload_0, pd_lload_1, pd_lload_2, pd_lload_3, pd_lload, pd_aload_0, pd_aload_1, pd_aload_2, pd_aload_3, pd_aload, pd_istore_0, pd_istore_1, pd_istore_2, pd_istore_3, pd_istore, pd_lstore_0, pd_lstore_1, pd_lstore_2, pd_lstore_3, pd_lstore, pd_astore_0, pd_astore_1, pd_astore_2, pd_astore_3, pd_astore, pd_iinc, pd_iadd, pd_isub, pd_imul, pd_iand, pd_ior, pd_ixor, pd_ishl, pd_ishr, pd_iushr, pd_idiv, pd_irem, pd_ineg, pd_ladd, pd_lsub, pd_lmul, pd_land, pd_lor, pd_lxor, pd_lshl, pd_lushr, pd_lcmp, pd_i2l, pd_l2i, pd_dup_int, pd_pop_int, pd_dup_ref, pd_pop_ref, pd_dup_x1_ir, pd_dup_x1_ii, pd_dup2_ir, pd_dup2_ii, pd_goto, pd_if_eq, pd_if_ne, pd_if_lt, pd_if_ge, pd_if_gt, pd_if_le, pd_icmp_eq, pd_icmp_ne, pd_icmp_lt, pd_icmp_ge, pd_icmp_gt, pd_icmp_le, pd_iaload, pd_baload, pd_laload, pd_aaload, pd_iastore, pd_bastore, pd_lastore, pd_alen, pd_getfield, pd_putfield, ph_las, ph_len0, ph_len1, ph_len2, ph_gf, ph_pfi, ph_pfl, ph_pfz0, ph_pfz1, ph_nz0, ph_nz1, pm_cm1, pm_c0, pm_c1, pm_c2, pm_c3, pm_c4, pm_c5, pm_b6, pm_b7, pm_b8, pm_b9, pm_b10, pm_b11, pm_b12, pm_b14, pm_b15, pm_b16, pm_b20, pm_b24, pm_b25, pm_b28, pm_b31, pm_b32, pm_b48, pm_b56, pm_b60, pm_b63, pm_b64, pm_b67, pm_b68, pm_b89, pm_b90, pm_b95, pm_b100, pm_b120, pm_b127, pm_h128, pm_h150, pm_h168, pm_h255, pm_h256, pm_h360, pm_h369, pm_h450, pm_h4096, pm_h8192, pm_h32767, pm_h4643, pm_h13363, pm_h20579, pm_h25843, pm_h29227, pm_h31145, pm_h32103, pm_h32525, pm_h32689, pm_h32745, pm_h32762, pm_h32766, pm_o, pm_ldi, pm_ldl, pm_lda, pm_sti, pm_stl, pm_sta, pm_lk, pm_f1, pm_f2, Value.category, lv_args, Option.bind_some, Option.map_some, if_true, if_false, ite_true, ite_false, Nat.reduceAdd, Nat.reduceSub, Nat.reduceMul, Nat.reduceDiv, Nat.reduceMod, Nat.reduceLT, Nat.reduceLeDiff, Nat.reduceEqDiff, reduceIte, reduceCtorEq, Int.reduceNatCast, Int.reduceNatCast', Int.reduceAdd, Int.reduceLE, Int.reduceLT, Int.reduceToNat, Int.reduceNeg, Int.reduceSub, pm_at_add, Nat.add_sub_cancel_left, va_up_g, Int.ofNat_eq_natCast, List.getElem?_cons_zero, List.getElem?_cons_succ, List.set_cons_zero, List.set_cons_succ, List.length_cons, List.length_nil, Nat.zero_add, va_rf, nI_add, pk_mul, Int.toNat_natCast, pm_ix_nI, Option.toList_none, Option.toList_some, List.nil_append, List.cons_append, pq_ial, pq_lal, pq_aal0, pq_aal1, pq_ias, F_R, K_R, d_R_round_2, d_R_round_3, d_R_round_4, d_R_round_7, d_R_round_8, d_R_round_11, d_R_round_12, d_R_round_13, d_R_round_16, d_R_round_17, d_R_round_18, d_R_round_19, d_R_round_22, d_R_round_23, d_R_round_24, d_R_round_25, d_R_round_26, d_R_round_27, d_R_round_28, d_R_round_31, d_R_round_32, d_R_round_34, d_R_round_35, d_R_round_36, d_R_round_37, d_R_round_38, d_R_round_41, d_R_round_42, d_R_round_44, d_R_round_45, d_R_round_46, d_R_round_47, d_R_round_48, d_R_round_51, d_R_round_52, d_R_round_54, d_R_round_55, d_R_round_56, d_R_round_57, d_R_round_58, d_R_round_61, rq_69, rq_72, rq_73, rq_74, rq_75, rq_76, rq_u69a, rq_u69b, rq_u72, rq_u73, rq_u74, rq_u75, rq_u76, pm_h167, pm_b80, h1, e0, e1, e2, e3, e4, e5, ch_s]; exact rfl) ?_
    exact pm_G.sub (by simp) (ih (j + 1) (by omega))
theorem go_eq : ∀ j, j < 25 → j / 5 + 5 * ((2 * (j % 5) + 3 * (j / 5)) % 5) = go_ j := by decide
theorem ti_eq (hj : j < 25) : f j ^^^ co_ f ((j + 4) % 5) ^^^ ro_ (co_ f ((j + 1) % 5)) (nI 1) = ti_ f 5 0 j := by
  unfold ti_ mx_
  rw [if_pos (by omega), show (j % 5 + 4) % 5 = (j + 4) % 5 by omega, show (j % 5 + 1) % 5 = (j + 1) % 5 by omega, Int64.xor_assoc]
set_option maxHeartbeats 4000000 in
theorem lp2_R_round (ht : tu_ tc w) (X : cx_ p s m args c c_R_round 7 R_R D tc sz tk) (he : pm_G p l e (rm_ 1) s m args below meth c Q D cl_ sz 7 hz 91 0 0 (rq_ tc sz w co n0 f (mv_ (ti_ f 5 0) g 25) (ch_ f h 5) r u) 152 [(2, .int (nI 25)), (0, .ref (sz + 69)), (1, .int (nI a))] []) : ∀ i j : Nat, j + i = 25 → pm_G p l e (rm_ 1) s m args below meth c Q D cl_ sz 7 hz 91 0 0 (rq_ tc sz w co n0 f (mv_ (ti_ f 5 0) g j) (ch_ f h 5) r u) 66 [(2, .int (nI j)), (0, .ref (sz + 69)), (1, .int (nI a))] [] := by
  intro i
  induction i with
  | zero =>
    intro j hj
    obtain rfl : j = 25 := by omega
    have h1 : (nI 25 ≤ nI 25) = True := eq_true (nI_le (Nat.le_refl _) (by decide))
    refine pm_v_ok (cx_X X X_R) 3 _ _ _ _ (by simp -implicitDefEqProofs only [pv_0, pv_s, pd_iconst, pd_bipush, pd_sipush, pd_lconst_0, pd_lconst_1, pd_ldc, pd_ldc2, pd_iload_0, pd_iload_1, pd_iload_2, pd_iload_3, pd_iload, pd_lload_0, pd_lload_1, pd_lload_2, pd_lload_3, pd_lload, pd_aload_0, pd_aload_1, pd_aload_2, pd_aload_3, pd_aload, pd_istore_0, pd_istore_1, pd_istore_2, pd_istore_3, pd_istore, pd_lstore_0, pd_lstore_1, pd_lstore_2, pd_lstore_3, pd_lstore, pd_astore_0, pd_astore_1, pd_astore_2, pd_astore_3, pd_astore, pd_iinc, pd_iadd, pd_isub, pd_imul, pd_iand, pd_ior, pd_ixor, pd_ishl, pd_ishr, pd_iushr, pd_idiv, pd_irem, pd_ineg, pd_ladd, pd_lsub, pd_lmul, pd_land, pd_lor, pd_lxor, pd_lshl, pd_lushr, pd_lcmp, pd_i2l, pd_l2i, pd_dup_int, pd_pop_int, pd_dup_ref, pd_pop_ref, pd_dup_x1_ir, pd_dup_x1_ii, pd_dup2_ir, pd_dup2_ii, pd_goto, pd_if_eq, pd_if_ne, pd_if_lt, pd_if_ge, pd_if_gt, pd_if_le, pd_icmp_eq, pd_icmp_ne, pd_icmp_lt, pd_icmp_ge, pd_icmp_gt, pd_icmp_le, pd_iaload, pd_baload, pd_laload, pd_aaload, pd_iastore, pd_bastore, pd_lastore, pd_alen, pd_getfield, pd_putfield, ph_las, ph_len0, ph_len1, ph_len2, ph_gf, ph_pfi, ph_pfl, ph_pfz0, ph_pfz1, ph_nz0, ph_nz1, pm_cm1, pm_c0, pm_c1, pm_c2, pm_c3, pm_c4, pm_c5, pm_b6, pm_b7, pm_b8, pm_b9, pm_b10, pm_b11, pm_b12, pm_b14, pm_b15, pm_b16, pm_b20, pm_b24, pm_b25, pm_b28, pm_b31, pm_b32, pm_b48, pm_b56, pm_b60, pm_b63, pm_b64, pm_b67, pm_b68, pm_b89, pm_b90, pm_b95, pm_b100, pm_b120, pm_b127, pm_h128, pm_h150, pm_h168, pm_h255, pm_h256, pm_h360, pm_h369, pm_h450, pm_h4096, pm_h8192, pm_h32767, pm_h4643, pm_h13363, pm_h20579, pm_h25843, pm_h29227, pm_h31145, pm_h32103, pm_h32525, pm_h32689, pm_h32745, pm_h32762, pm_h32766, pm_o, pm_ldi, pm_ldl, pm_lda, pm_sti, pm_stl, pm_sta, pm_lk, pm_f1, pm_f2, Value.category, lv_args, Option.bind_some, Option.map_some, if_true, if_false, ite_true, ite_false, Nat.reduceAdd, Nat.reduceSub, Nat.reduceMul, Nat.reduceDiv, Nat.reduceMod, Nat.reduceLT, Nat.reduceLeDiff, Nat.reduceEqDiff, reduceIte, reduceCtorEq, Int.reduceNatCast, Int.reduceNatCast', Int.reduceAdd, Int.reduceLE, Int.reduceLT, Int.reduceToNat, Int.reduceNeg, Int.reduceSub, pm_at_add, Nat.add_sub_cancel_left, va_up_g, Int.ofNat_eq_natCast, List.getElem?_cons_zero, List.getElem?_cons_succ, List.set_cons_zero, List.set_cons_succ, List.length_cons, List.length_nil, Nat.zero_add, va_rf, nI_add, pk_mul, Int.toNat_natCast, pm_ix_nI, Option.toList_none, Option.toList_some, List.nil_append, List.cons_append, pq_ial, pq_lal, pq_aal0, pq_aal1, pq_ias, F_R, K_R, d_R_round_66, d_R_round_67, d_R_round_69, h1]; exact rfl) ?_
    exact he
  | succ i ih =>
    intro j hj
    have h1 : (nI 25 ≤ nI j) = False := eq_false (nI_ge (by omega) (by decide))
    obtain ⟨q, hq0, hq1⟩ := ht
    have hw70 : (rq_ tc sz w co n0 f (mv_ (ti_ f 5 0) g j) (ch_ f h 5) r u) 70 = .inl (tc 0, 25, .inl q) := by rw [rq_o (by decide), hq0]
    have e1 : jv_rem (nI (j + 4)) (nI 5) = nI ((j + 4) % 5) := jr_ (by omega) (by decide) (by decide)
    have e2 : jv_rem (nI (j + 1)) (nI 5) = nI ((j + 1) % 5) := jr_ (by omega) (by decide) (by decide)
    have e3 : pm_ix (nI ((j + 4) % 5)) 5 = some ((j + 4) % 5) := pm_ix_nI (by omega) (by decide)
    have e4 : pm_ix (nI ((j + 1) % 5)) 5 = some ((j + 1) % 5) := pm_ix_nI (by omega) (by decide)
    have e5 : ch_ f h 5 ((j + 4) % 5) = co_ f ((j + 4) % 5) := if_pos (by omega)
    have e6 : ch_ f h 5 ((j + 1) % 5) = co_ f ((j + 1) % 5) := if_pos (by omega)
    have e7 : pm_ix (nI j) 25 = some j := pm_ix_nI (by omega) (by decide)
    refine pm_v_ok (cx_X X X_R) 25 _ _ _ _ (by simp -implicitDefEqProofs only [pv_0, pv_s, pd_iconst, pd_bipush, pd_sipush, pd_lconst_0, pd_lconst_1, pd_ldc, pd_ldc2, pd_iload_0, pd_iload_1, pd_iload_2, pd_iload_3, pd_iload, pd_lload_0, pd_lload_1, pd_lload_2, pd_lload_3, pd_lload, pd_aload_0, pd_aload_1, pd_aload_2, pd_aload_3, pd_aload, pd_istore_0, pd_istore_1, pd_istore_2, pd_istore_3, pd_istore, pd_lstore_0, pd_lstore_1, pd_lstore_2, pd_lstore_3, pd_lstore, pd_astore_0, pd_astore_1, pd_astore_2, pd_astore_3, pd_astore, pd_iinc, pd_iadd, pd_isub, pd_imul, pd_iand, pd_ior, pd_ixor, pd_ishl, pd_ishr, pd_iushr, pd_idiv, pd_irem, pd_ineg, pd_ladd, pd_lsub, pd_lmul, pd_land, pd_lor, pd_lxor, pd_lshl, pd_lushr, pd_lcmp, pd_i2l, pd_l2i, pd_dup_int, pd_pop_int, pd_dup_ref, pd_pop_ref, pd_dup_x1_ir, pd_dup_x1_ii, pd_dup2_ir, pd_dup2_ii, pd_goto, pd_if_eq, pd_if_ne, pd_if_lt, pd_if_ge, pd_if_gt, pd_if_le, pd_icmp_eq, pd_icmp_ne, pd_icmp_lt, pd_icmp_ge, pd_icmp_gt, pd_icmp_le, pd_iaload, pd_baload, pd_laload, pd_aaload, pd_iastore, pd_bastore, pd_lastore, pd_alen, pd_getfield, pd_putfield, ph_las, ph_len0, ph_len1, ph_len2, ph_gf, ph_pfi, ph_pfl, ph_pfz0, ph_pfz1, ph_nz0, ph_nz1, pm_cm1, pm_c0, pm_c1, pm_c2, pm_c3, pm_c4, pm_c5, pm_b6, pm_b7, pm_b8, pm_b9, pm_b10, pm_b11, pm_b12, pm_b14, pm_b15, pm_b16, pm_b20, pm_b24, pm_b25, pm_b28, pm_b31, pm_b32, pm_b48, pm_b56, pm_b60, pm_b63, pm_b64, pm_b67, pm_b68, pm_b89, pm_b90, pm_b95, pm_b100, pm_b120, pm_b127, pm_h128, pm_h150, pm_h168, pm_h255, pm_h256, pm_h360, pm_h369, pm_h450, pm_h4096, pm_h8192, pm_h32767, pm_h4643, pm_h13363, pm_h20579, pm_h25843, pm_h29227, pm_h31145, pm_h32103, pm_h32525, pm_h32689, pm_h32745, pm_h32762, pm_h32766, pm_o, pm_ldi, pm_ldl, pm_lda, pm_sti, pm_stl, pm_sta, pm_lk, pm_f1, pm_f2, Value.category, lv_args, Option.bind_some, Option.map_some, if_true, if_false, ite_true, ite_false, Nat.reduceAdd, Nat.reduceSub, Nat.reduceMul, Nat.reduceDiv, Nat.reduceMod, Nat.reduceLT, Nat.reduceLeDiff, Nat.reduceEqDiff, reduceIte, reduceCtorEq, Int.reduceNatCast, Int.reduceNatCast', Int.reduceAdd, Int.reduceLE, Int.reduceLT, Int.reduceToNat, Int.reduceNeg, Int.reduceSub, pm_at_add, Nat.add_sub_cancel_left, va_up_g, Int.ofNat_eq_natCast, List.getElem?_cons_zero, List.getElem?_cons_succ, List.set_cons_zero, List.set_cons_succ, List.length_cons, List.length_nil, Nat.zero_add, va_rf, nI_add, pk_mul, Int.toNat_natCast, pm_ix_nI, Option.toList_none, Option.toList_some, List.nil_append, List.cons_append, pq_ial, pq_lal, pq_aal0, pq_aal1, pq_ias, F_R, K_R, d_R_round_66, d_R_round_67, d_R_round_69, d_R_round_72, d_R_round_73, d_R_round_76, d_R_round_77, d_R_round_78, d_R_round_79, d_R_round_82, d_R_round_83, d_R_round_84, d_R_round_85, d_R_round_86, d_R_round_87, d_R_round_88, d_R_round_89, d_R_round_90, d_R_round_93, d_R_round_94, d_R_round_95, d_R_round_96, d_R_round_97, d_R_round_98, d_R_round_99, rq_69, rq_72, rq_73, rq_74, rq_75, rq_76, rq_u69a, rq_u69b, rq_u72, rq_u73, rq_u74, rq_u75, rq_u76, pm_h167, pm_b80, h1, e1, e2, e3, e4, e5, e6, e7, nz_5]; exact rfl) ?_
    refine mm_S X (m_R_rot (x := co_ f ((j + 1) % 5)) (y := nI 1)) b_R_rot l_R_76 rfl rfl (Nat.le_of_ble_eq_true rfl) d_R_round_100 (by decide) (by decide) (fun v w1 hq => ?_)
    obtain ⟨rfl, rfl⟩ := hq
    have e8 := ti_eq (f := f) (j := j) (by omega)
    have e9 : jv_rem (nI j) (nI 5) = nI (j % 5) := jr_ (by omega) (by decide) (by decide)
    have e10 : nI j / nI 5 = nI (j / 5) := pk_div (by omega) (by decide) (by decide)
    have e11 : jv_rem (nI (2 * (j % 5) + 3 * (j / 5))) (nI 5) = nI ((2 * (j % 5) + 3 * (j / 5)) % 5) := jr_ (by omega) (by decide) (by decide)
    have e12 := go_eq j (by omega)
    have e13 := hq1 j (by omega)
    refine pm_v_ok (cx_X X X_R) 30 _ _ _ _ (by simp -implicitDefEqProofs only [pv_0, pv_s, pd_iconst, pd_bipush, pd_sipush, pd_lconst_0, pd_lconst_1, pd_ldc, pd_ldc2, pd_iload_0, pd_iload_1, pd_iload_2, pd_iload_3, pd_iload, pd_lload_0, pd_lload_1, pd_lload_2, pd_lload_3, pd_lload, pd_aload_0, pd_aload_1, pd_aload_2, pd_aload_3, pd_aload, pd_istore_0, pd_istore_1, pd_istore_2, pd_istore_3, pd_istore, pd_lstore_0, pd_lstore_1, pd_lstore_2, pd_lstore_3, pd_lstore, pd_astore_0, pd_astore_1, pd_astore_2, pd_astore_3, pd_astore, pd_iinc, pd_iadd, pd_isub, pd_imul, pd_iand, pd_ior, pd_ixor, pd_ishl, pd_ishr, pd_iushr, pd_idiv, pd_irem, pd_ineg, pd_ladd, pd_lsub, pd_lmul, pd_land, pd_lor, pd_lxor, pd_lshl, pd_lushr, pd_lcmp, pd_i2l, pd_l2i, pd_dup_int, pd_pop_int, pd_dup_ref, pd_pop_ref, pd_dup_x1_ir, pd_dup_x1_ii, pd_dup2_ir, pd_dup2_ii, pd_goto, pd_if_eq, pd_if_ne, pd_if_lt, pd_if_ge, pd_if_gt, pd_if_le, pd_icmp_eq, pd_icmp_ne, pd_icmp_lt, pd_icmp_ge, pd_icmp_gt, pd_icmp_le, pd_iaload, pd_baload, pd_laload, pd_aaload, pd_iastore, pd_bastore, pd_lastore, pd_alen, pd_getfield, pd_putfield, ph_las, ph_len0, ph_len1, ph_len2, ph_gf, ph_pfi, ph_pfl, ph_pfz0, ph_pfz1, ph_nz0, ph_nz1, pm_cm1, pm_c0, pm_c1, pm_c2, pm_c3, pm_c4, pm_c5, pm_b6, pm_b7, pm_b8, pm_b9, pm_b10, pm_b11, pm_b12, pm_b14, pm_b15, pm_b16, pm_b20, pm_b24, pm_b25, pm_b28, pm_b31, pm_b32, pm_b48, pm_b56, pm_b60, pm_b63, pm_b64, pm_b67, pm_b68, pm_b89, pm_b90, pm_b95, pm_b100, pm_b120, pm_b127, pm_h128, pm_h150, pm_h168, pm_h255, pm_h256, pm_h360, pm_h369, pm_h450, pm_h4096, pm_h8192, pm_h32767, pm_h4643, pm_h13363, pm_h20579, pm_h25843, pm_h29227, pm_h31145, pm_h32103, pm_h32525, pm_h32689, pm_h32745, pm_h32762, pm_h32766, pm_o, pm_ldi, pm_ldl, pm_lda, pm_sti, pm_stl, pm_sta, pm_lk, pm_f1, pm_f2, Value.category, lv_args, Option.bind_some, Option.map_some, if_true, if_false, ite_true, ite_false, Nat.reduceAdd, Nat.reduceSub, Nat.reduceMul, Nat.reduceDiv, Nat.reduceMod, Nat.reduceLT, Nat.reduceLeDiff, Nat.reduceEqDiff, reduceIte, reduceCtorEq, Int.reduceNatCast, Int.reduceNatCast', Int.reduceAdd, Int.reduceLE, Int.reduceLT, Int.reduceToNat, Int.reduceNeg, Int.reduceSub, pm_at_add, Nat.add_sub_cancel_left, va_up_g, Int.ofNat_eq_natCast, List.getElem?_cons_zero, List.getElem?_cons_succ, List.set_cons_zero, List.set_cons_succ, List.length_cons, List.length_nil, Nat.zero_add, va_rf, nI_add, pk_mul, Int.toNat_natCast, pm_ix_nI, Option.toList_none, Option.toList_some, List.nil_append, List.cons_append, pq_ial, pq_lal, pq_aal0, pq_aal1, pq_ias, F_R, K_R, d_R_round_103, d_R_round_104, d_R_round_105, d_R_round_106, d_R_round_107, d_R_round_108, d_R_round_110, d_R_round_111, d_R_round_112, d_R_round_113, d_R_round_115, d_R_round_116, d_R_round_119, d_R_round_121, d_R_round_122, d_R_round_123, d_R_round_125, d_R_round_126, d_R_round_127, d_R_round_129, d_R_round_130, d_R_round_131, d_R_round_132, d_R_round_133, d_R_round_134, d_R_round_135, d_R_round_136, d_R_round_137, d_R_round_140, d_R_round_141, rq_69, rq_72, rq_73, rq_74, rq_75, rq_76, hw70, e7, e8, e9, e10, e11, e12, e13, nz_5]; exact rfl) ?_
    refine mm_S X (m_R_rot (x := ti_ f 5 0 j) (y := nI (tn_ j))) b_R_rot l_R_76 rfl rfl (Nat.le_of_ble_eq_true rfl) d_R_round_142 (by decide) (by decide) (fun v w1 hq => ?_)
    obtain ⟨rfl, rfl⟩ := hq
    have e14 : vp_updL (mv_ (ti_ f 5 0) g j) (go_ j) (ro_ (ti_ f 5 0 j) (nI (tn_ j))) = mv_ (ti_ f 5 0) g (j + 1) := rfl
    have e15 : pm_ix (nI (go_ j)) 25 = some (go_ j) := pm_ix_nI (go_lt j (by omega)) (by decide)
    refine pm_v_ok (cx_X X X_R) 3 _ _ _ _ (by simp -implicitDefEqProofs only [pv_0, pv_s, pd_iconst, pd_bipush, pd_sipush, pd_lconst_0, pd_lconst_1, pd_ldc, pd_ldc2, pd_iload_0, pd_iload_1, pd_iload_2, pd_iload_3, pd_iload, pd_lload_0, pd_lload_1, pd_lload_2, pd_lload_3, pd_lload, pd_aload_0, pd_aload_1, pd_aload_2, pd_aload_3, pd_aload, pd_istore_0, pd_istore_1, pd_istore_2, pd_istore_3, pd_istore, pd_lstore_0, pd_lstore_1, pd_lstore_2, pd_lstore_3, pd_lstore, pd_astore_0, pd_astore_1, pd_astore_2, pd_astore_3, pd_astore, pd_iinc, pd_iadd, pd_isub, pd_imul, pd_iand, pd_ior, pd_ixor, pd_ishl, pd_ishr, pd_iushr, pd_idiv, pd_irem, pd_ineg, pd_ladd, pd_lsub, pd_lmul, pd_land, pd_lor, pd_lxor, pd_lshl, pd_lushr, pd_lcmp, pd_i2l, pd_l2i, pd_dup_int, pd_pop_int, pd_dup_ref, pd_pop_ref, pd_dup_x1_ir, pd_dup_x1_ii, pd_dup2_ir, pd_dup2_ii, pd_goto, pd_if_eq, pd_if_ne, pd_if_lt, pd_if_ge, pd_if_gt, pd_if_le, pd_icmp_eq, pd_icmp_ne, pd_icmp_lt, pd_icmp_ge, pd_icmp_gt, pd_icmp_le, pd_iaload, pd_baload, pd_laload, pd_aaload, pd_iastore, pd_bastore, pd_lastore, pd_alen, pd_getfield, pd_putfield, ph_las, ph_len0, ph_len1, ph_len2, ph_gf, ph_pfi, ph_pfl, ph_pfz0, ph_pfz1, ph_nz0, ph_nz1, pm_cm1, pm_c0, pm_c1, pm_c2, pm_c3, pm_c4, pm_c5, pm_b6, pm_b7, pm_b8, pm_b9, pm_b10, pm_b11, pm_b12, pm_b14, pm_b15, pm_b16, pm_b20, pm_b24, pm_b25, pm_b28, pm_b31, pm_b32, pm_b48, pm_b56, pm_b60, pm_b63, pm_b64, pm_b67, pm_b68, pm_b89, pm_b90, pm_b95, pm_b100, pm_b120, pm_b127, pm_h128, pm_h150, pm_h168, pm_h255, pm_h256, pm_h360, pm_h369, pm_h450, pm_h4096, pm_h8192, pm_h32767, pm_h4643, pm_h13363, pm_h20579, pm_h25843, pm_h29227, pm_h31145, pm_h32103, pm_h32525, pm_h32689, pm_h32745, pm_h32762, pm_h32766, pm_o, pm_ldi, pm_ldl, pm_lda, pm_sti, pm_stl, pm_sta, pm_lk, pm_f1, pm_f2, Value.category, lv_args, Option.bind_some, Option.map_some, if_true, if_false, ite_true, ite_false, Nat.reduceAdd, Nat.reduceSub, Nat.reduceMul, Nat.reduceDiv, Nat.reduceMod, Nat.reduceLT, Nat.reduceLeDiff, Nat.reduceEqDiff, reduceIte, reduceCtorEq, Int.reduceNatCast, Int.reduceNatCast', Int.reduceAdd, Int.reduceLE, Int.reduceLT, Int.reduceToNat, Int.reduceNeg, Int.reduceSub, pm_at_add, Nat.add_sub_cancel_left, va_up_g, Int.ofNat_eq_natCast, List.getElem?_cons_zero, List.getElem?_cons_succ, List.set_cons_zero, List.set_cons_succ, List.length_cons, List.length_nil, Nat.zero_add, va_rf, nI_add, pk_mul, Int.toNat_natCast, pm_ix_nI, Option.toList_none, Option.toList_some, List.nil_append, List.cons_append, pq_ial, pq_lal, pq_aal0, pq_aal1, pq_ias, F_R, K_R, d_R_round_145, d_R_round_146, d_R_round_149, rq_69, rq_72, rq_73, rq_74, rq_75, rq_76, rq_u69a, rq_u69b, rq_u72, rq_u73, rq_u74, rq_u75, rq_u76, pm_h167, pm_b80, e14, e15]; exact rfl) ?_
    exact pm_G.sub (by simp) (ih (j + 1) (by omega))
theorem mr_s3 : vp_updL (mr_ f g j) j (g j ^^^ ((g (j / 5 * 5 + (j + 1) % 5) ^^^ (-1)) &&& g (j / 5 * 5 + (j + 2) % 5))) = mr_ f g (j + 1) := by
  funext k
  by_cases hk : k = j
  · subst hk
    have h1 : (k % 5 + 1) % 5 = (k + 1) % 5 := by omega
    have h2 : (k % 5 + 2) % 5 = (k + 2) % 5 := by omega
    simp [vp_updL, mr_, cc_, h1, h2]
  · by_cases h2 : k < j
    · have h3 : k < j + 1 := by omega
      simp [vp_updL, mr_, hk, h2, h3]
    · have h3 : ¬ k < j + 1 := by omega
      simp [vp_updL, mr_, hk, h2, h3]
set_option maxHeartbeats 4000000 in
theorem lp3_R_round  (X : cx_ p s m args c c_R_round 7 R_R D tc sz tk) (he : pm_G p l e (rm_ 1) s m args below meth c Q D cl_ sz 7 hz 91 0 0 (rq_ tc sz w co n0 (mr_ f g 25) g h r u) 214 [(2, .int (nI 25)), (0, .ref (sz + 69)), (1, .int (nI a))] []) : ∀ i j : Nat, j + i = 25 → pm_G p l e (rm_ 1) s m args below meth c Q D cl_ sz 7 hz 91 0 0 (rq_ tc sz w co n0 (mr_ f g j) g h r u) 154 [(2, .int (nI j)), (0, .ref (sz + 69)), (1, .int (nI a))] [] := by
  intro i
  induction i with
  | zero =>
    intro j hj
    obtain rfl : j = 25 := by omega
    have h1 : (nI 25 ≤ nI 25) = True := eq_true (nI_le (Nat.le_refl _) (by decide))
    refine pm_v_ok (cx_X X X_R) 3 _ _ _ _ (by simp -implicitDefEqProofs only [pv_0, pv_s, pd_iconst, pd_bipush, pd_sipush, pd_lconst_0, pd_lconst_1, pd_ldc, pd_ldc2, pd_iload_0, pd_iload_1, pd_iload_2, pd_iload_3, pd_iload, pd_lload_0, pd_lload_1, pd_lload_2, pd_lload_3, pd_lload, pd_aload_0, pd_aload_1, pd_aload_2, pd_aload_3, pd_aload, pd_istore_0, pd_istore_1, pd_istore_2, pd_istore_3, pd_istore, pd_lstore_0, pd_lstore_1, pd_lstore_2, pd_lstore_3, pd_lstore, pd_astore_0, pd_astore_1, pd_astore_2, pd_astore_3, pd_astore, pd_iinc, pd_iadd, pd_isub, pd_imul, pd_iand, pd_ior, pd_ixor, pd_ishl, pd_ishr, pd_iushr, pd_idiv, pd_irem, pd_ineg, pd_ladd, pd_lsub, pd_lmul, pd_land, pd_lor, pd_lxor, pd_lshl, pd_lushr, pd_lcmp, pd_i2l, pd_l2i, pd_dup_int, pd_pop_int, pd_dup_ref, pd_pop_ref, pd_dup_x1_ir, pd_dup_x1_ii, pd_dup2_ir, pd_dup2_ii, pd_goto, pd_if_eq, pd_if_ne, pd_if_lt, pd_if_ge, pd_if_gt, pd_if_le, pd_icmp_eq, pd_icmp_ne, pd_icmp_lt, pd_icmp_ge, pd_icmp_gt, pd_icmp_le, pd_iaload, pd_baload, pd_laload, pd_aaload, pd_iastore, pd_bastore, pd_lastore, pd_alen, pd_getfield, pd_putfield, ph_las, ph_len0, ph_len1, ph_len2, ph_gf, ph_pfi, ph_pfl, ph_pfz0, ph_pfz1, ph_nz0, ph_nz1, pm_cm1, pm_c0, pm_c1, pm_c2, pm_c3, pm_c4, pm_c5, pm_b6, pm_b7, pm_b8, pm_b9, pm_b10, pm_b11, pm_b12, pm_b14, pm_b15, pm_b16, pm_b20, pm_b24, pm_b25, pm_b28, pm_b31, pm_b32, pm_b48, pm_b56, pm_b60, pm_b63, pm_b64, pm_b67, pm_b68, pm_b89, pm_b90, pm_b95, pm_b100, pm_b120, pm_b127, pm_h128, pm_h150, pm_h168, pm_h255, pm_h256, pm_h360, pm_h369, pm_h450, pm_h4096, pm_h8192, pm_h32767, pm_h4643, pm_h13363, pm_h20579, pm_h25843, pm_h29227, pm_h31145, pm_h32103, pm_h32525, pm_h32689, pm_h32745, pm_h32762, pm_h32766, pm_o, pm_ldi, pm_ldl, pm_lda, pm_sti, pm_stl, pm_sta, pm_lk, pm_f1, pm_f2, Value.category, lv_args, Option.bind_some, Option.map_some, if_true, if_false, ite_true, ite_false, Nat.reduceAdd, Nat.reduceSub, Nat.reduceMul, Nat.reduceDiv, Nat.reduceMod, Nat.reduceLT, Nat.reduceLeDiff, Nat.reduceEqDiff, reduceIte, reduceCtorEq, Int.reduceNatCast, Int.reduceNatCast', Int.reduceAdd, Int.reduceLE, Int.reduceLT, Int.reduceToNat, Int.reduceNeg, Int.reduceSub, pm_at_add, Nat.add_sub_cancel_left, va_up_g, Int.ofNat_eq_natCast, List.getElem?_cons_zero, List.getElem?_cons_succ, List.set_cons_zero, List.set_cons_succ, List.length_cons, List.length_nil, Nat.zero_add, va_rf, nI_add, pk_mul, Int.toNat_natCast, pm_ix_nI, Option.toList_none, Option.toList_some, List.nil_append, List.cons_append, pq_ial, pq_lal, pq_aal0, pq_aal1, pq_ias, F_R, K_R, d_R_round_154, d_R_round_155, d_R_round_157, h1]; exact rfl) ?_
    exact he
  | succ i ih =>
    intro j hj
    have h1 : (nI 25 ≤ nI j) = False := eq_false (nI_ge (by omega) (by decide))
    have e1 : jv_rem (nI (j + 1)) (nI 5) = nI ((j + 1) % 5) := jr_ (by omega) (by decide) (by decide)
    have e2 : jv_rem (nI (j + 2)) (nI 5) = nI ((j + 2) % 5) := jr_ (by omega) (by decide) (by decide)
    have e10 : nI j / nI 5 = nI (j / 5) := pk_div (by omega) (by decide) (by decide)
    have e3 : pm_ix (nI (j / 5 * 5 + (j + 1) % 5)) 25 = some (j / 5 * 5 + (j + 1) % 5) := pm_ix_nI (by omega) (by decide)
    have e4 : pm_ix (nI (j / 5 * 5 + (j + 2) % 5)) 25 = some (j / 5 * 5 + (j + 2) % 5) := pm_ix_nI (by omega) (by decide)
    have e5 : pm_ix (nI j) 25 = some j := pm_ix_nI (by omega) (by decide)
    have e6 := mr_s3 (f := f) (g := g) (j := j)
    refine pm_v_ok (cx_X X X_R) 43 _ _ _ _ (by simp -implicitDefEqProofs only [pv_0, pv_s, pd_iconst, pd_bipush, pd_sipush, pd_lconst_0, pd_lconst_1, pd_ldc, pd_ldc2, pd_iload_0, pd_iload_1, pd_iload_2, pd_iload_3, pd_iload, pd_lload_0, pd_lload_1, pd_lload_2, pd_lload_3, pd_lload, pd_aload_0, pd_aload_1, pd_aload_2, pd_aload_3, pd_aload, pd_istore_0, pd_istore_1, pd_istore_2, pd_istore_3, pd_istore, pd_lstore_0, pd_lstore_1, pd_lstore_2, pd_lstore_3, pd_lstore, pd_astore_0, pd_astore_1, pd_astore_2, pd_astore_3, pd_astore, pd_iinc, pd_iadd, pd_isub, pd_imul, pd_iand, pd_ior, pd_ixor, pd_ishl, pd_ishr, pd_iushr, pd_idiv, pd_irem, pd_ineg, pd_ladd, pd_lsub, pd_lmul, pd_land, pd_lor, pd_lxor, pd_lshl, pd_lushr, pd_lcmp, pd_i2l, pd_l2i, pd_dup_int, pd_pop_int, pd_dup_ref, pd_pop_ref, pd_dup_x1_ir, pd_dup_x1_ii, pd_dup2_ir, pd_dup2_ii, pd_goto, pd_if_eq, pd_if_ne, pd_if_lt, pd_if_ge, pd_if_gt, pd_if_le, pd_icmp_eq, pd_icmp_ne, pd_icmp_lt, pd_icmp_ge, pd_icmp_gt, pd_icmp_le, pd_iaload, pd_baload, pd_laload, pd_aaload, pd_iastore, pd_bastore, pd_lastore, pd_alen, pd_getfield, pd_putfield, ph_las, ph_len0, ph_len1, ph_len2, ph_gf, ph_pfi, ph_pfl, ph_pfz0, ph_pfz1, ph_nz0, ph_nz1, pm_cm1, pm_c0, pm_c1, pm_c2, pm_c3, pm_c4, pm_c5, pm_b6, pm_b7, pm_b8, pm_b9, pm_b10, pm_b11, pm_b12, pm_b14, pm_b15, pm_b16, pm_b20, pm_b24, pm_b25, pm_b28, pm_b31, pm_b32, pm_b48, pm_b56, pm_b60, pm_b63, pm_b64, pm_b67, pm_b68, pm_b89, pm_b90, pm_b95, pm_b100, pm_b120, pm_b127, pm_h128, pm_h150, pm_h168, pm_h255, pm_h256, pm_h360, pm_h369, pm_h450, pm_h4096, pm_h8192, pm_h32767, pm_h4643, pm_h13363, pm_h20579, pm_h25843, pm_h29227, pm_h31145, pm_h32103, pm_h32525, pm_h32689, pm_h32745, pm_h32762, pm_h32766, pm_o, pm_ldi, pm_ldl, pm_lda, pm_sti, pm_stl, pm_sta, pm_lk, pm_f1, pm_f2, Value.category, lv_args, Option.bind_some, Option.map_some, if_true, if_false, ite_true, ite_false, Nat.reduceAdd, Nat.reduceSub, Nat.reduceMul, Nat.reduceDiv, Nat.reduceMod, Nat.reduceLT, Nat.reduceLeDiff, Nat.reduceEqDiff, reduceIte, reduceCtorEq, Int.reduceNatCast, Int.reduceNatCast', Int.reduceAdd, Int.reduceLE, Int.reduceLT, Int.reduceToNat, Int.reduceNeg, Int.reduceSub, pm_at_add, Nat.add_sub_cancel_left, va_up_g, Int.ofNat_eq_natCast, List.getElem?_cons_zero, List.getElem?_cons_succ, List.set_cons_zero, List.set_cons_succ, List.length_cons, List.length_nil, Nat.zero_add, va_rf, nI_add, pk_mul, Int.toNat_natCast, pm_ix_nI, Option.toList_none, Option.toList_some, List.nil_append, List.cons_append, pq_ial, pq_lal, pq_aal0, pq_aal1, pq_ias, F_R, K_R, d_R_round_154, d_R_round_155, d_R_round_157, d_R_round_160, d_R_round_161, d_R_round_162, d_R_round_163, d_R_round_164, d_R_round_165, d_R_round_166, d_R_round_167, d_R_round_170, d_R_round_171, d_R_round_172, d_R_round_175, d_R_round_176, d_R_round_177, d_R_round_178, d_R_round_181, d_R_round_182, d_R_round_183, d_R_round_184, d_R_round_185, d_R_round_186, d_R_round_187, d_R_round_188, d_R_round_189, d_R_round_192, d_R_round_193, d_R_round_194, d_R_round_197, d_R_round_198, d_R_round_199, d_R_round_200, d_R_round_201, d_R_round_202, d_R_round_203, d_R_round_204, d_R_round_205, d_R_round_206, d_R_round_207, d_R_round_208, d_R_round_211, rq_69, rq_72, rq_73, rq_74, rq_75, rq_76, rq_u69a, rq_u69b, rq_u72, rq_u73, rq_u74, rq_u75, rq_u76, pm_h167, pm_b80, h1, e1, e2, e3, e4, e5, e6, e10, nz_5]; exact rfl) ?_
    exact pm_G.sub (by simp) (ih (j + 1) (by omega))
theorem fp_c (t : Nat) : fp_ t = 0 ∨ fp_ t = 1 := by unfold fp_; omega
set_option maxHeartbeats 4000000 in
theorem lp4_R_round (ha : a < 24) (hf : fu_ tc w) (X : cx_ p s m args c c_R_round 7 R_R D tc sz tk) (he : pm_G p l e (rm_ 1) s m args below meth c Q D cl_ sz 7 hz 91 0 0 (rq_ tc sz w co n0 (vp_updL f 0 (x ^^^ xq_ a 7)) g h r u) 271 [(2, .int (nI 7)), (0, .ref (sz + 69)), (1, .int (nI a))] []) : ∀ i j : Nat, j + i = 7 → pm_G p l e (rm_ 1) s m args below meth c Q D cl_ sz 7 hz 91 0 0 (rq_ tc sz w co n0 (vp_updL f 0 (x ^^^ xq_ a j)) g h r u) 216 [(2, .int (nI j)), (0, .ref (sz + 69)), (1, .int (nI a))] [] := by
  intro i
  induction i with
  | zero =>
    intro j hj
    obtain rfl : j = 7 := by omega
    have h1 : (nI 7 ≤ nI 7) = True := eq_true (nI_le (Nat.le_refl _) (by decide))
    refine pm_v_ok (cx_X X X_R) 3 _ _ _ _ (by simp -implicitDefEqProofs only [pv_0, pv_s, pd_iconst, pd_bipush, pd_sipush, pd_lconst_0, pd_lconst_1, pd_ldc, pd_ldc2, pd_iload_0, pd_iload_1, pd_iload_2, pd_iload_3, pd_iload, pd_lload_0, pd_lload_1, pd_lload_2, pd_lload_3, pd_lload, pd_aload_0, pd_aload_1, pd_aload_2, pd_aload_3, pd_aload, pd_istore_0, pd_istore_1, pd_istore_2, pd_istore_3, pd_istore, pd_lstore_0, pd_lstore_1, pd_lstore_2, pd_lstore_3, pd_lstore, pd_astore_0, pd_astore_1, pd_astore_2, pd_astore_3, pd_astore, pd_iinc, pd_iadd, pd_isub, pd_imul, pd_iand, pd_ior, pd_ixor, pd_ishl, pd_ishr, pd_iushr, pd_idiv, pd_irem, pd_ineg, pd_ladd, pd_lsub, pd_lmul, pd_land, pd_lor, pd_lxor, pd_lshl, pd_lushr, pd_lcmp, pd_i2l, pd_l2i, pd_dup_int, pd_pop_int, pd_dup_ref, pd_pop_ref, pd_dup_x1_ir, pd_dup_x1_ii, pd_dup2_ir, pd_dup2_ii, pd_goto, pd_if_eq, pd_if_ne, pd_if_lt, pd_if_ge, pd_if_gt, pd_if_le, pd_icmp_eq, pd_icmp_ne, pd_icmp_lt, pd_icmp_ge, pd_icmp_gt, pd_icmp_le, pd_iaload, pd_baload, pd_laload, pd_aaload, pd_iastore, pd_bastore, pd_lastore, pd_alen, pd_getfield, pd_putfield, ph_las, ph_len0, ph_len1, ph_len2, ph_gf, ph_pfi, ph_pfl, ph_pfz0, ph_pfz1, ph_nz0, ph_nz1, pm_cm1, pm_c0, pm_c1, pm_c2, pm_c3, pm_c4, pm_c5, pm_b6, pm_b7, pm_b8, pm_b9, pm_b10, pm_b11, pm_b12, pm_b14, pm_b15, pm_b16, pm_b20, pm_b24, pm_b25, pm_b28, pm_b31, pm_b32, pm_b48, pm_b56, pm_b60, pm_b63, pm_b64, pm_b67, pm_b68, pm_b89, pm_b90, pm_b95, pm_b100, pm_b120, pm_b127, pm_h128, pm_h150, pm_h168, pm_h255, pm_h256, pm_h360, pm_h369, pm_h450, pm_h4096, pm_h8192, pm_h32767, pm_h4643, pm_h13363, pm_h20579, pm_h25843, pm_h29227, pm_h31145, pm_h32103, pm_h32525, pm_h32689, pm_h32745, pm_h32762, pm_h32766, pm_o, pm_ldi, pm_ldl, pm_lda, pm_sti, pm_stl, pm_sta, pm_lk, pm_f1, pm_f2, Value.category, lv_args, Option.bind_some, Option.map_some, if_true, if_false, ite_true, ite_false, Nat.reduceAdd, Nat.reduceSub, Nat.reduceMul, Nat.reduceDiv, Nat.reduceMod, Nat.reduceLT, Nat.reduceLeDiff, Nat.reduceEqDiff, reduceIte, reduceCtorEq, Int.reduceNatCast, Int.reduceNatCast', Int.reduceAdd, Int.reduceLE, Int.reduceLT, Int.reduceToNat, Int.reduceNeg, Int.reduceSub, pm_at_add, Nat.add_sub_cancel_left, va_up_g, Int.ofNat_eq_natCast, List.getElem?_cons_zero, List.getElem?_cons_succ, List.set_cons_zero, List.set_cons_succ, List.length_cons, List.length_nil, Nat.zero_add, va_rf, nI_add, pk_mul, Int.toNat_natCast, pm_ix_nI, Option.toList_none, Option.toList_some, List.nil_append, List.cons_append, pq_ial, pq_lal, pq_aal0, pq_aal1, pq_ias, F_R, K_R, d_R_round_216, d_R_round_217, d_R_round_219, h1]; exact rfl) ?_
    exact he
  | succ i ih =>
    intro j hj
    have h1 : (nI 7 ≤ nI j) = False := eq_false (nI_ge (by omega) (by decide))
    obtain ⟨q, hq0, hq1⟩ := hf
    have e1 : pm_ix (nI (7 * a + j)) 168 = some (7 * a + j) := pm_ix_nI (by omega) (by decide)
    have e2 : pm_ix (nI 0) 25 = some 0 := pm_ix_nI (by decide) (by decide)
    have e3 := hq1 (7 * a + j) (by omega)
    have e4 : vp_updL f 0 (x ^^^ xq_ a j) 0 = x ^^^ xq_ a j := rfl
    have hw71 : (rq_ tc sz w co n0 (vp_updL f 0 (x ^^^ xq_ a j)) g h r u) 71 = .inl (tc 2, 168, .inl q) := by rw [rq_o (by decide), hq0]
    rcases fp_c (7 * a + j) with e5 | e5
    · have e6 : (nI 0 = 0) = True := eq_true nI_0
      have e7 : vp_updL (vp_updL f 0 (x ^^^ xq_ a j)) 0 (x ^^^ xq_ a j) = vp_updL f 0 (x ^^^ xq_ a (j + 1)) := by
        have : xq_ a (j + 1) = xq_ a j := if_pos e5
        rw [this]
        funext k
        by_cases hk : k = 0 <;> simp [vp_updL, hk]
      refine pm_v_ok (cx_X X X_R) 22 _ _ _ _ (by simp -implicitDefEqProofs only [pv_0, pv_s, pd_iconst, pd_bipush, pd_sipush, pd_lconst_0, pd_lconst_1, pd_ldc, pd_ldc2, pd_iload_0, pd_iload_1, pd_iload_2, pd_iload_3, pd_iload, pd_lload_0, pd_lload_1, pd_lload_2, pd_lload_3, pd_lload, pd_aload_0, pd_aload_1, pd_aload_2, pd_aload_3, pd_aload, pd_istore_0, pd_istore_1, pd_istore_2, pd_istore_3, pd_istore, pd_lstore_0, pd_lstore_1, pd_lstore_2, pd_lstore_3, pd_lstore, pd_astore_0, pd_astore_1, pd_astore_2, pd_astore_3, pd_astore, pd_iinc, pd_iadd, pd_isub, pd_imul, pd_iand, pd_ior, pd_ixor, pd_ishl, pd_ishr, pd_iushr, pd_idiv, pd_irem, pd_ineg, pd_ladd, pd_lsub, pd_lmul, pd_land, pd_lor, pd_lxor, pd_lshl, pd_lushr, pd_lcmp, pd_i2l, pd_l2i, pd_dup_int, pd_pop_int, pd_dup_ref, pd_pop_ref, pd_dup_x1_ir, pd_dup_x1_ii, pd_dup2_ir, pd_dup2_ii, pd_goto, pd_if_eq, pd_if_ne, pd_if_lt, pd_if_ge, pd_if_gt, pd_if_le, pd_icmp_eq, pd_icmp_ne, pd_icmp_lt, pd_icmp_ge, pd_icmp_gt, pd_icmp_le, pd_iaload, pd_baload, pd_laload, pd_aaload, pd_iastore, pd_bastore, pd_lastore, pd_alen, pd_getfield, pd_putfield, ph_las, ph_len0, ph_len1, ph_len2, ph_gf, ph_pfi, ph_pfl, ph_pfz0, ph_pfz1, ph_nz0, ph_nz1, pm_cm1, pm_c0, pm_c1, pm_c2, pm_c3, pm_c4, pm_c5, pm_b6, pm_b7, pm_b8, pm_b9, pm_b10, pm_b11, pm_b12, pm_b14, pm_b15, pm_b16, pm_b20, pm_b24, pm_b25, pm_b28, pm_b31, pm_b32, pm_b48, pm_b56, pm_b60, pm_b63, pm_b64, pm_b67, pm_b68, pm_b89, pm_b90, pm_b95, pm_b100, pm_b120, pm_b127, pm_h128, pm_h150, pm_h168, pm_h255, pm_h256, pm_h360, pm_h369, pm_h450, pm_h4096, pm_h8192, pm_h32767, pm_h4643, pm_h13363, pm_h20579, pm_h25843, pm_h29227, pm_h31145, pm_h32103, pm_h32525, pm_h32689, pm_h32745, pm_h32762, pm_h32766, pm_o, pm_ldi, pm_ldl, pm_lda, pm_sti, pm_stl, pm_sta, pm_lk, pm_f1, pm_f2, Value.category, lv_args, Option.bind_some, Option.map_some, if_true, if_false, ite_true, ite_false, Nat.reduceAdd, Nat.reduceSub, Nat.reduceMul, Nat.reduceDiv, Nat.reduceMod, Nat.reduceLT, Nat.reduceLeDiff, Nat.reduceEqDiff, reduceIte, reduceCtorEq, Int.reduceNatCast, Int.reduceNatCast', Int.reduceAdd, Int.reduceLE, Int.reduceLT, Int.reduceToNat, Int.reduceNeg, Int.reduceSub, pm_at_add, Nat.add_sub_cancel_left, va_up_g, Int.ofNat_eq_natCast, List.getElem?_cons_zero, List.getElem?_cons_succ, List.set_cons_zero, List.set_cons_succ, List.length_cons, List.length_nil, Nat.zero_add, va_rf, nI_add, pk_mul, Int.toNat_natCast, pm_ix_nI, Option.toList_none, Option.toList_some, List.nil_append, List.cons_append, pq_ial, pq_lal, pq_aal0, pq_aal1, pq_ias, F_R, K_R, d_R_round_216, d_R_round_217, d_R_round_219, d_R_round_222, d_R_round_223, d_R_round_226, d_R_round_227, d_R_round_228, d_R_round_231, d_R_round_233, d_R_round_234, d_R_round_235, d_R_round_236, d_R_round_237, d_R_round_238, d_R_round_258, d_R_round_259, d_R_round_262, d_R_round_263, d_R_round_264, d_R_round_265, d_R_round_268, rq_69, rq_72, rq_73, rq_74, rq_75, rq_76, rq_u69a, rq_u69b, rq_u72, rq_u73, rq_u74, rq_u75, rq_u76, pm_h167, pm_b80, h1, hw71, e1, e2, e3, e4, e5, e6, e7]; exact rfl) ?_
      exact pm_G.sub (by simp) (ih (j + 1) (by omega))
    · have e6 : (nI 1 = 0) = False := c1_
      have e7 : vp_updL (vp_updL f 0 (x ^^^ xq_ a j)) 0 (x ^^^ xq_ a j ^^^ jl_shl 1 (jv_shl (nI 1) (nI j) - nI 1)) = vp_updL f 0 (x ^^^ xq_ a (j + 1)) := by
        have : xq_ a (j + 1) = xq_ a j ^^^ jl_shl 1 (jv_shl (nI 1) (nI j) - nI 1) := if_neg (by omega)
        rw [this, Int64.xor_assoc]
        funext k
        by_cases hk : k = 0 <;> simp [vp_updL, hk]
      refine pm_v_ok (cx_X X X_R) 31 _ _ _ _ (by simp -implicitDefEqProofs only [pv_0, pv_s, pd_iconst, pd_bipush, pd_sipush, pd_lconst_0, pd_lconst_1, pd_ldc, pd_ldc2, pd_iload_0, pd_iload_1, pd_iload_2, pd_iload_3, pd_iload, pd_lload_0, pd_lload_1, pd_lload_2, pd_lload_3, pd_lload, pd_aload_0, pd_aload_1, pd_aload_2, pd_aload_3, pd_aload, pd_istore_0, pd_istore_1, pd_istore_2, pd_istore_3, pd_istore, pd_lstore_0, pd_lstore_1, pd_lstore_2, pd_lstore_3, pd_lstore, pd_astore_0, pd_astore_1, pd_astore_2, pd_astore_3, pd_astore, pd_iinc, pd_iadd, pd_isub, pd_imul, pd_iand, pd_ior, pd_ixor, pd_ishl, pd_ishr, pd_iushr, pd_idiv, pd_irem, pd_ineg, pd_ladd, pd_lsub, pd_lmul, pd_land, pd_lor, pd_lxor, pd_lshl, pd_lushr, pd_lcmp, pd_i2l, pd_l2i, pd_dup_int, pd_pop_int, pd_dup_ref, pd_pop_ref, pd_dup_x1_ir, pd_dup_x1_ii, pd_dup2_ir, pd_dup2_ii, pd_goto, pd_if_eq, pd_if_ne, pd_if_lt, pd_if_ge, pd_if_gt, pd_if_le, pd_icmp_eq, pd_icmp_ne, pd_icmp_lt, pd_icmp_ge, pd_icmp_gt, pd_icmp_le, pd_iaload, pd_baload, pd_laload, pd_aaload, pd_iastore, pd_bastore, pd_lastore, pd_alen, pd_getfield, pd_putfield, ph_las, ph_len0, ph_len1, ph_len2, ph_gf, ph_pfi, ph_pfl, ph_pfz0, ph_pfz1, ph_nz0, ph_nz1, pm_cm1, pm_c0, pm_c1, pm_c2, pm_c3, pm_c4, pm_c5, pm_b6, pm_b7, pm_b8, pm_b9, pm_b10, pm_b11, pm_b12, pm_b14, pm_b15, pm_b16, pm_b20, pm_b24, pm_b25, pm_b28, pm_b31, pm_b32, pm_b48, pm_b56, pm_b60, pm_b63, pm_b64, pm_b67, pm_b68, pm_b89, pm_b90, pm_b95, pm_b100, pm_b120, pm_b127, pm_h128, pm_h150, pm_h168, pm_h255, pm_h256, pm_h360, pm_h369, pm_h450, pm_h4096, pm_h8192, pm_h32767, pm_h4643, pm_h13363, pm_h20579, pm_h25843, pm_h29227, pm_h31145, pm_h32103, pm_h32525, pm_h32689, pm_h32745, pm_h32762, pm_h32766, pm_o, pm_ldi, pm_ldl, pm_lda, pm_sti, pm_stl, pm_sta, pm_lk, pm_f1, pm_f2, Value.category, lv_args, Option.bind_some, Option.map_some, if_true, if_false, ite_true, ite_false, Nat.reduceAdd, Nat.reduceSub, Nat.reduceMul, Nat.reduceDiv, Nat.reduceMod, Nat.reduceLT, Nat.reduceLeDiff, Nat.reduceEqDiff, reduceIte, reduceCtorEq, Int.reduceNatCast, Int.reduceNatCast', Int.reduceAdd, Int.reduceLE, Int.reduceLT, Int.reduceToNat, Int.reduceNeg, Int.reduceSub, pm_at_add, Nat.add_sub_cancel_left, va_up_g, Int.ofNat_eq_natCast, List.getElem?_cons_zero, List.getElem?_cons_succ, List.set_cons_zero, List.set_cons_succ, List.length_cons, List.length_nil, Nat.zero_add, va_rf, nI_add, pk_mul, Int.toNat_natCast, pm_ix_nI, Option.toList_none, Option.toList_some, List.nil_append, List.cons_append, pq_ial, pq_lal, pq_aal0, pq_aal1, pq_ias, F_R, K_R, d_R_round_216, d_R_round_217, d_R_round_219, d_R_round_222, d_R_round_223, d_R_round_226, d_R_round_227, d_R_round_228, d_R_round_231, d_R_round_233, d_R_round_234, d_R_round_235, d_R_round_236, d_R_round_237, d_R_round_238, d_R_round_241, d_R_round_242, d_R_round_245, d_R_round_246, d_R_round_247, d_R_round_248, d_R_round_249, d_R_round_250, d_R_round_251, d_R_round_252, d_R_round_253, d_R_round_254, d_R_round_255, d_R_round_264, d_R_round_265, d_R_round_268, rq_69, rq_72, rq_73, rq_74, rq_75, rq_76, rq_u69a, rq_u69b, rq_u72, rq_u73, rq_u74, rq_u75, rq_u76, pm_h167, pm_b80, h1, hw71, e1, e2, e3, e4, e5, e6, e7]; exact rfl) ?_
      exact pm_G.sub (by simp) (ih (j + 1) (by omega))
end R1
