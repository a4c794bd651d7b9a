section M0
variable {pc k N : Nat} {lv : List (Nat × Value)} {r : List Value} {w : Nat → va_E} {j x : Int32} {c0 c1 : ClassId}
theorem pq_ial {f : Nat → Int32} : pm_ial c0 (some (.inl (c0, N, .inl f))) j pc lv r w = (pm_ix j N).map (fun i => (pc, lv, .int (f i) :: r, w)) := if_pos rfl
theorem pq_lal {f : Nat → Int64} : pm_lal c0 (some (.inl (c0, N, .inr (.inl f)))) j pc lv r w = (pm_ix j N).map (fun i => (pc, lv, .long (f i) :: r, w)) := if_pos rfl
theorem pq_aal0 {f : Nat → Option Nat} : pm_aal c0 c1 (some (.inl (c0, N, .inr (.inr (.inr (.inr f)))))) j pc lv r w = (pm_ix j N).map (fun i => (pc, lv, va_rf (f i) :: r, w)) := if_pos (Or.inl rfl)
theorem pq_aal1 {f : Nat → Option Nat} : pm_aal c0 c1 (some (.inl (c1, N, .inr (.inr (.inr (.inr f)))))) j pc lv r w = (pm_ix j N).map (fun i => (pc, lv, va_rf (f i) :: r, w)) := if_pos (Or.inr rfl)
theorem pq_ias {f : Nat → Int32} : pm_ias c0 (some (.inl (c0, N, .inl f))) k j x pc lv r w = (pm_ix j N).map (fun i => (pc, lv, r, va_up w k (.inl (c0, N, .inl (upd f i x))))) := if_pos rfl
end M0
section M1
theorem va_up_g {α : Type} {f : Nat → α} {k j : Nat} {v : α} : va_up f k v j = if j = k then v else f j := rfl
def sk_ (tc : Nat → ClassId) (sz : Nat) (w : Nat → va_E) (f g h : Nat → Int64) (len : Nat) : Nat → va_E := fun k =>
  if k = 4 then .inr (3, [.ref (sz + 5), .ref (sz + 6), .ref (sz + 7), .int (nI len)]) else if k = 5 then .inl (tc 1, 25, .inr (.inl f)) else if k = 6 then .inl (tc 1, 25, .inr (.inl g)) else if k = 7 then .inl (tc 1, 5, .inr (.inl h)) else w k
variable {p : Program} {l : Launch} {e : Env} {R : Room} {s : State} {m : MethodId} {args : Array Value} {below : List Frame} {meth : Method} {c : Code} {Q : State → Prop} {D : va_G} {tc : Nat → ClassId} {sz : Nat} {tk : Nat → Nat} {hz : Option Nat} {w : Nat → va_E}
variable {f g h f1 : Nat → Int64} {len N i j : Nat} {x : Int64}
theorem va_up_2 {α : Type} {f : Nat → α} {k : Nat} {u v : α} : va_up (va_up f k u) k v = va_up f k v := by
  funext j
  by_cases hj : j = k <;> simp [va_up, hj]
theorem sk_4 : sk_ tc sz w f g h len 4 = .inr (3, [.ref (sz + 5), .ref (sz + 6), .ref (sz + 7), .int (nI len)]) := rfl
theorem sk_5 : sk_ tc sz w f g h len 5 = .inl (tc 1, 25, .inr (.inl f)) := rfl
theorem sk_6 : sk_ tc sz w f g h len 6 = .inl (tc 1, 25, .inr (.inl g)) := rfl
theorem sk_7 : sk_ tc sz w f g h len 7 = .inl (tc 1, 5, .inr (.inl h)) := rfl
theorem sk_u4 : va_up (sk_ tc sz w f g h len) 4 (.inr (3, [.ref (sz + 5), .ref (sz + 6), .ref (sz + 7), .int (nI i)])) = sk_ tc sz w f g h i := by
  funext k
  by_cases h4 : k = 4
  · subst h4; rfl
  by_cases h5 : k = 5
  · subst h5; rfl
  by_cases h6 : k = 6
  · subst h6; rfl
  by_cases h7 : k = 7
  · subst h7; rfl
  simp [va_up, sk_, h4, h5, h6, h7]
theorem sk_u5 : va_up (sk_ tc sz w f g h len) 5 (.inl (tc 1, 25, .inr (.inl f1))) = sk_ tc sz w f1 g h len := by
  funext k
  by_cases h4 : k = 4
  · subst h4; rfl
  by_cases h5 : k = 5
  · subst h5; rfl
  by_cases h6 : k = 6
  · subst h6; rfl
  by_cases h7 : k = 7
  · subst h7; rfl
  simp [va_up, sk_, h4, h5, h6, h7]
theorem sk_u6 : va_up (sk_ tc sz w f g h len) 6 (.inl (tc 1, 25, .inr (.inl f1))) = sk_ tc sz w f f1 h len := by
  funext k
  by_cases h4 : k = 4
  · subst h4; rfl
  by_cases h5 : k = 5
  · subst h5; rfl
  by_cases h6 : k = 6
  · subst h6; rfl
  by_cases h7 : k = 7
  · subst h7; rfl
  simp [va_up, sk_, h4, h5, h6, h7]
theorem sk_u7 : va_up (sk_ tc sz w f g h len) 7 (.inl (tc 1, 5, .inr (.inl f1))) = sk_ tc sz w f g f1 len := by
  funext k
  by_cases h4 : k = 4
  · subst h4; rfl
  by_cases h5 : k = 5
  · subst h5; rfl
  by_cases h6 : k = 6
  · subst h6; rfl
  by_cases h7 : k = 7
  · subst h7; rfl
  simp [va_up, sk_, h4, h5, h6, h7]
theorem sk_up {k : Nat} {y : va_E} (h4 : k ≠ 4) (h5 : k ≠ 5) (h6 : k ≠ 6) (h7 : k ≠ 7) : va_up (sk_ tc sz w f g h len) k y = sk_ tc sz (va_up w k y) f g h len := by
  funext i
  by_cases hi : i = k
  · subst hi
    simp [va_up, sk_, h4, h5, h6, h7]
  · simp [va_up, sk_, hi]
theorem sk_o {k : Nat} (h4 : k ≠ 4) (h5 : k ≠ 5) (h6 : k ≠ 6) (h7 : k ≠ 7) : sk_ tc sz w f g h len k = w k := by
  simp [sk_, h4, h5, h6, h7]
set_option maxHeartbeats 4000000 in
theorem m_S_turned {x : Int64} {k : Int32} {n : Nat} : mm_ l y_S_turned c_S_turned 3 (some .long) (rm_ 0) D tc sz tk [.long x, .int k] hz n (w) hz n (fun v w1 => v = some (.long (jl_shl x k ||| jl_ushr x (nI 64 - k))) ∧ w1 = w) := by
  refine mm_of (by decide) (Nat.le_of_ble_eq_true rfl) ?_
  intro p e s m args below meth c X hr hk hnm
  refine pm_v_ok (cx_X X X_S) 9 _ _ _ _ (by simp -implicitDefEqProofs only [pv_0, pv_s, pd_iconst, pd_bipush, pd_sipush, pd_lconst_0, pd_lconst_1, pd_ldc, pd_ldc2, pd_iload_0, pd_iload_1, pd_iload_2, pd_iload_3, pd_iload, pd_lload_0, pd_lload_1, pd_lload_2, pd_lload_3, pd_lload, pd_aload_0, pd_aload_1, pd_aload_2, pd_aload_3, pd_aload, pd_istore_0, pd_istore_1, pd_istore_2, pd_istore_3, pd_istore, pd_lstore_0, pd_lstore_1, pd_lstore_2, pd_lstore_3, pd_lstore, pd_astore_0, pd_astore_1, pd_astore_2, pd_astore_3, pd_astore, pd_iinc, pd_iadd, pd_isub, pd_imul, pd_iand, pd_ior, pd_ixor, pd_ishl, pd_ishr, pd_iushr, pd_idiv, pd_irem, pd_ineg, pd_ladd, pd_lsub, pd_lmul, pd_land, pd_lor, pd_lxor, pd_lshl, pd_lushr, pd_lcmp, pd_i2l, pd_l2i, pd_dup_int, pd_pop_int, pd_dup_ref, pd_pop_ref, pd_dup_x1_ir, pd_dup_x1_ii, pd_dup2_ir, pd_dup2_ii, pd_goto, pd_if_eq, pd_if_ne, pd_if_lt, pd_if_ge, pd_if_gt, pd_if_le, pd_icmp_eq, pd_icmp_ne, pd_icmp_lt, pd_icmp_ge, pd_icmp_gt, pd_icmp_le, pd_iaload, pd_baload, pd_laload, pd_aaload, pd_iastore, pd_bastore, pd_lastore, pd_alen, pd_getfield, pd_putfield, ph_las, ph_len0, ph_len1, ph_len2, ph_gf, ph_pfi, ph_pfl, ph_pfz0, ph_pfz1, ph_nz0, ph_nz1, pm_cm1, pm_c0, pm_c1, pm_c2, pm_c3, pm_c4, pm_c5, pm_b6, pm_b7, pm_b8, pm_b9, pm_b10, pm_b11, pm_b12, pm_b14, pm_b15, pm_b16, pm_b20, pm_b24, pm_b25, pm_b28, pm_b31, pm_b32, pm_b48, pm_b56, pm_b60, pm_b63, pm_b64, pm_b67, pm_b68, pm_b89, pm_b90, pm_b95, pm_b100, pm_b120, pm_b127, pm_h128, pm_h150, pm_h168, pm_h255, pm_h256, pm_h360, pm_h369, pm_h450, pm_h4096, pm_h8192, pm_h32767, pm_h4643, pm_h13363, pm_h20579, pm_h25843, pm_h29227, pm_h31145, pm_h32103, pm_h32525, pm_h32689, pm_h32745, pm_h32762, pm_h32766, pm_o, pm_ldi, pm_ldl, pm_lda, pm_sti, pm_stl, pm_sta, pm_lk, pm_f1, pm_f2, Value.category, lv_args, Option.bind_some, Option.map_some, if_true, if_false, ite_true, ite_false, Nat.reduceAdd, Nat.reduceSub, Nat.reduceMul, Nat.reduceDiv, Nat.reduceMod, Nat.reduceLT, Nat.reduceLeDiff, Nat.reduceEqDiff, reduceIte, reduceCtorEq, Int.reduceNatCast, Int.reduceNatCast', Int.reduceAdd, Int.reduceLE, Int.reduceLT, Int.reduceToNat, Int.reduceNeg, Int.reduceSub, pm_at_add, Nat.add_sub_cancel_left, va_up_g, Int.ofNat_eq_natCast, List.getElem?_cons_zero, List.getElem?_cons_succ, List.set_cons_zero, List.set_cons_succ, List.length_cons, List.length_nil, Nat.zero_add, va_rf, nI_add, pk_mul, Int.toNat_natCast, pm_ix_nI, Option.toList_none, Option.toList_some, List.nil_append, List.cons_append, pq_ial, pq_lal, pq_aal0, pq_aal1, pq_ias, F_S, K_S, d_S_turned_0, d_S_turned_1, d_S_turned_2, d_S_turned_3, d_S_turned_4, d_S_turned_6, d_S_turned_7, d_S_turned_8, d_S_turned_9]; exact rfl) ?_
  exact mr_l X hr hk d_S_turned_10 (Nat.le_refl _) (Nat.le_refl _) ⟨rfl, rfl⟩
def fl_ (f : Nat → Int64) (v : Int64) (i : Nat) : Nat → Int64 := fun j => if j < i then v else f j
theorem fl_s : vp_updL (fl_ f x i) i x = fl_ f x (i + 1) := by
  funext j
  by_cases hj : j = i
  · subst hj
    simp [vp_updL, fl_]
  · by_cases h2 : j < i
    · simp [vp_updL, fl_, hj, h2, Nat.lt_succ_of_lt h2]
    · have h3 : ¬ j < i + 1 := by omega
      simp [vp_updL, fl_, hj, h2, h3]
theorem fl_0 : fl_ f x 0 = f := by
  funext j
  simp [fl_]
set_option maxHeartbeats 4000000 in
theorem lp_A_fill {q : Nat} (hq : q < 91) (hN : N < 2 ^ 31) (X : cx_ p s m args c c_A_fill 5 "java/util/Arrays" D tc sz tk) (he : pm_G p l e (rm_ 0) s m args below meth c Q D cl_ sz 5 hz 91 0 0 (va_up w q (.inl (tc 1, N, .inr (.inl (fl_ f x N))))) 22 [(3, .int (nI N)), (4, .int (nI N)), (0, .ref (sz + q)), (1, .long x)] []) : ∀ i j : Nat, j + i = N → pm_G p l e (rm_ 0) s m args below meth c Q D cl_ sz 5 hz 91 0 0 (va_up w q (.inl (tc 1, N, .inr (.inl (fl_ f x j))))) 6 [(3, .int (nI j)), (4, .int (nI N)), (0, .ref (sz + q)), (1, .long x)] [] := by
  intro i
  induction i with
  | zero =>
    intro j hj
    obtain rfl : j = N := by omega
    have h1 : (nI j ≤ nI j) = True := eq_true (nI_le (Nat.le_refl _) hN)
    refine pm_v_ok (cx_X X X_A) 3 _ _ _ _ (by simp -implicitDefEqProofs only [pv_0, pv_s, pd_iconst, pd_bipush, pd_sipush, pd_lconst_0, pd_lconst_1, pd_ldc, pd_ldc2, pd_iload_0, pd_iload_1, pd_iload_2, pd_iload_3, pd_iload, pd_lload_0, pd_lload_1, pd_lload_2, pd_lload_3, pd_lload, pd_aload_0, pd_aload_1, pd_aload_2, pd_aload_3, pd_aload, pd_istore_0, pd_istore_1, pd_istore_2, pd_istore_3, pd_istore, pd_lstore_0, pd_lstore_1, pd_lstore_2, pd_lstore_3, pd_lstore, pd_astore_0, pd_astore_1, pd_astore_2, pd_astore_3, pd_astore, pd_iinc, pd_iadd, pd_isub, pd_imul, pd_iand, pd_ior, pd_ixor, pd_ishl, pd_ishr, pd_iushr, pd_idiv, pd_irem, pd_ineg, pd_ladd, pd_lsub, pd_lmul, pd_land, pd_lor, pd_lxor, pd_lshl, pd_lushr, pd_lcmp, pd_i2l, pd_l2i, pd_dup_int, pd_pop_int, pd_dup_ref, pd_pop_ref, pd_dup_x1_ir, pd_dup_x1_ii, pd_dup2_ir, pd_dup2_ii, pd_goto, pd_if_eq, pd_if_ne, pd_if_lt, pd_if_ge, pd_if_gt, pd_if_le, pd_icmp_eq, pd_icmp_ne, pd_icmp_lt, pd_icmp_ge, pd_icmp_gt, pd_icmp_le, pd_iaload, pd_baload, pd_laload, pd_aaload, pd_iastore, pd_bastore, pd_lastore, pd_alen, pd_getfield, pd_putfield, ph_las, ph_len0, ph_len1, ph_len2, ph_gf, ph_pfi, ph_pfl, ph_pfz0, ph_pfz1, ph_nz0, ph_nz1, pm_cm1, pm_c0, pm_c1, pm_c2, pm_c3, pm_c4, pm_c5, pm_b6, pm_b7, pm_b8, pm_b9, pm_b10, pm_b11, pm_b12, pm_b14, pm_b15, pm_b16, pm_b20, pm_b24, pm_b25, pm_b28, pm_b31, pm_b32, pm_b48, pm_b56, pm_b60, pm_b63, pm_b64, pm_b67, pm_b68, pm_b89, pm_b90, pm_b95, pm_b100, pm_b120, pm_b127, pm_h128, pm_h150, pm_h168, pm_h255, pm_h256, pm_h360, pm_h369, pm_h450, pm_h4096, pm_h8192, pm_h32767, pm_h4643, pm_h13363, pm_h20579, pm_h25843, pm_h29227, pm_h31145, pm_h32103, pm_h32525, pm_h32689, pm_h32745, pm_h32762, pm_h32766, pm_o, pm_ldi, pm_ldl, pm_lda, pm_sti, pm_stl, pm_sta, pm_lk, pm_f1, pm_f2, Value.category, lv_args, Option.bind_some, Option.map_some, if_true, if_false, ite_true, ite_false, Nat.reduceAdd, Nat.reduceSub, Nat.reduceMul, Nat.reduceDiv, Nat.reduceMod, Nat.reduceLT, Nat.reduceLeDiff, Nat.reduceEqDiff, reduceIte, reduceCtorEq, Int.reduceNatCast, Int.reduceNatCast', Int.reduceAdd, Int.reduceLE, Int.reduceLT, Int.reduceToNat, Int.reduceNeg, Int.reduceSub, pm_at_add, Nat.add_sub_cancel_left, va_up_g, Int.ofNat_eq_natCast, List.getElem?_cons_zero, List.getElem?_cons_succ, List.set_cons_zero, List.set_cons_succ, List.length_cons, List.length_nil, Nat.zero_add, va_rf, nI_add, pk_mul, Int.toNat_natCast, pm_ix_nI, Option.toList_none, Option.toList_some, List.nil_append, List.cons_append, pq_ial, pq_lal, pq_aal0, pq_aal1, pq_ias, F_A, K_A, d_A_fill_6, d_A_fill_7, d_A_fill_9, h1]; exact rfl) ?_
    exact he
  | succ i ih =>
    intro j hj
    have h1 : (nI N ≤ nI j) = False := eq_false (nI_ge (by omega) hN)
    have h2 : pm_ix (nI j) N = some j := pm_ix_nI (by omega) hN
    have h3 : pm_at sz 91 (va_up w q (.inl (tc 1, N, .inr (.inl (fl_ f x j))))) (sz + q) = some (.inl (tc 1, N, .inr (.inl (fl_ f x j)))) := by
      rw [pm_at_add hq, va_up_g, if_pos rfl]
    refine pm_v_ok (cx_X X X_A) 9 _ _ _ _ (by simp -implicitDefEqProofs only [pv_0, pv_s, pd_iconst, pd_bipush, pd_sipush, pd_lconst_0, pd_lconst_1, pd_ldc, pd_ldc2, pd_iload_0, pd_iload_1, pd_iload_2, pd_iload_3, pd_iload, pd_lload_0, pd_lload_1, pd_lload_2, pd_lload_3, pd_lload, pd_aload_0, pd_aload_1, pd_aload_2, pd_aload_3, pd_aload, pd_istore_0, pd_istore_1, pd_istore_2, pd_istore_3, pd_istore, pd_lstore_0, pd_lstore_1, pd_lstore_2, pd_lstore_3, pd_lstore, pd_astore_0, pd_astore_1, pd_astore_2, pd_astore_3, pd_astore, pd_iinc, pd_iadd, pd_isub, pd_imul, pd_iand, pd_ior, pd_ixor, pd_ishl, pd_ishr, pd_iushr, pd_idiv, pd_irem, pd_ineg, pd_ladd, pd_lsub, pd_lmul, pd_land, pd_lor, pd_lxor, pd_lshl, pd_lushr, pd_lcmp, pd_i2l, pd_l2i, pd_dup_int, pd_pop_int, pd_dup_ref, pd_pop_ref, pd_dup_x1_ir, pd_dup_x1_ii, pd_dup2_ir, pd_dup2_ii, pd_goto, pd_if_eq, pd_if_ne, pd_if_lt, pd_if_ge, pd_if_gt, pd_if_le, pd_icmp_eq, pd_icmp_ne, pd_icmp_lt, pd_icmp_ge, pd_icmp_gt, pd_icmp_le, pd_iaload, pd_baload, pd_laload, pd_aaload, pd_iastore, pd_bastore, pd_lastore, pd_alen, pd_getfield, pd_putfield, ph_las, ph_len0, ph_len1, ph_len2, ph_gf, ph_pfi, ph_pfl, ph_pfz0, ph_pfz1, ph_nz0, ph_nz1, pm_cm1, pm_c0, pm_c1, pm_c2, pm_c3, pm_c4, pm_c5, pm_b6, pm_b7, pm_b8, pm_b9, pm_b10, pm_b11, pm_b12, pm_b14, pm_b15, pm_b16, pm_b20, pm_b24, pm_b25, pm_b28, pm_b31, pm_b32, pm_b48, pm_b56, pm_b60, pm_b63, pm_b64, pm_b67, pm_b68, pm_b89, pm_b90, pm_b95, pm_b100, pm_b120, pm_b127, pm_h128, pm_h150, pm_h168, pm_h255, pm_h256, pm_h360, pm_h369, pm_h450, pm_h4096, pm_h8192, pm_h32767, pm_h4643, pm_h13363, pm_h20579, pm_h25843, pm_h29227, pm_h31145, pm_h32103, pm_h32525, pm_h32689, pm_h32745, pm_h32762, pm_h32766, pm_o, pm_ldi, pm_ldl, pm_lda, pm_sti, pm_stl, pm_sta, pm_lk, pm_f1, pm_f2, Value.category, lv_args, Option.bind_some, Option.map_some, if_true, if_false, ite_true, ite_false, Nat.reduceAdd, Nat.reduceSub, Nat.reduceMul, Nat.reduceDiv, Nat.reduceMod, Nat.reduceLT, Nat.reduceLeDiff, Nat.reduceEqDiff, reduceIte, reduceCtorEq, Int.reduceNatCast, Int.reduceNatCast', Int.reduceAdd, Int.reduceLE, Int.reduceLT, Int.reduceToNat, Int.reduceNeg, Int.reduceSub, pm_at_add, Nat.add_sub_cancel_left, va_up_g, Int.ofNat_eq_natCast, List.getElem?_cons_zero, List.getElem?_cons_succ, List.set_cons_zero, List.set_cons_succ, List.length_cons, List.length_nil, Nat.zero_add, va_rf, nI_add, pk_mul, Int.toNat_natCast, pm_ix_nI, Option.toList_none, Option.toList_some, List.nil_append, List.cons_append, pq_ial, pq_lal, pq_aal0, pq_aal1, pq_ias, F_A, K_A, d_A_fill_6, d_A_fill_7, d_A_fill_9, d_A_fill_12, d_A_fill_13, d_A_fill_14, d_A_fill_15, d_A_fill_16, d_A_fill_19, h1, h2, h3, va_up_2, fl_s]; exact rfl) ?_
    exact ih (j + 1) (by omega)
set_option maxHeartbeats 4000000 in
theorem m_A_fill {q : Nat} (hq : q < 91) (hN : N < 2 ^ 31) (hw : w q = .inl (tc 1, N, .inr (.inl f))) : mm_ l y_A_fill c_A_fill 5 none (rm_ 0) D tc sz tk [.ref (sz + q), .long x] hz 91 (w) hz 91 (fun v w1 => v = none ∧ w1 = va_up w q (.inl (tc 1, N, .inr (.inl (fl_ f x N))))) := by
  refine mm_of (by decide) (Nat.le_of_ble_eq_true rfl) ?_
  intro p e s m args below meth c X hr hk hnm
  have h3 : pm_at sz 91 w (sz + q) = some (.inl (tc 1, N, .inr (.inl f))) := by
    rw [pm_at_add hq, hw]
  refine pm_v_ok (cx_X X X_A) 5 _ _ _ _ (by simp -implicitDefEqProofs only [pv_0, pv_s, pd_iconst, pd_bipush, pd_sipush, pd_lconst_0, pd_lconst_1, pd_ldc, pd_ldc2, pd_iload_0, pd_iload_1, pd_iload_2, pd_iload_3, pd_iload, pd_lload_0, pd_lload_1, pd_lload_2, pd_lload_3, pd_lload, pd_aload_0, pd_aload_1, pd_aload_2, pd_aload_3, pd_aload, pd_istore_0, pd_istore_1, pd_istore_2, pd_istore_3, pd_istore, pd_lstore_0, pd_lstore_1, pd_lstore_2, pd_lstore_3, pd_lstore, pd_astore_0, pd_astore_1, pd_astore_2, pd_astore_3, pd_astore, pd_iinc, pd_iadd, pd_isub, pd_imul, pd_iand, pd_ior, pd_ixor, pd_ishl, pd_ishr, pd_iushr, pd_idiv, pd_irem, pd_ineg, pd_ladd, pd_lsub, pd_lmul, pd_land, pd_lor, pd_lxor, pd_lshl, pd_lushr, pd_lcmp, pd_i2l, pd_l2i, pd_dup_int, pd_pop_int, pd_dup_ref, pd_pop_ref, pd_dup_x1_ir, pd_dup_x1_ii, pd_dup2_ir, pd_dup2_ii, pd_goto, pd_if_eq, pd_if_ne, pd_if_lt, pd_if_ge, pd_if_gt, pd_if_le, pd_icmp_eq, pd_icmp_ne, pd_icmp_lt, pd_icmp_ge, pd_icmp_gt, pd_icmp_le, pd_iaload, pd_baload, pd_laload, pd_aaload, pd_iastore, pd_bastore, pd_lastore, pd_alen, pd_getfield, pd_putfield, ph_las, ph_len0, ph_len1, ph_len2, ph_gf, ph_pfi, ph_pfl, ph_pfz0, ph_pfz1, ph_nz0, ph_nz1, pm_cm1, pm_c0, pm_c1, pm_c2, pm_c3, pm_c4, pm_c5, pm_b6, pm_b7, pm_b8, pm_b9, pm_b10, pm_b11, pm_b12, pm_b14, pm_b15, pm_b16, pm_b20, pm_b24, pm_b25, pm_b28, pm_b31, pm_b32, pm_b48, pm_b56, pm_b60, pm_b63, pm_b64, pm_b67, pm_b68, pm_b89, pm_b90, pm_b95, pm_b100, pm_b120, pm_b127, pm_h128, pm_h150, pm_h168, pm_h255, pm_h256, pm_h360, pm_h369, pm_h450, pm_h4096, pm_h8192, pm_h32767, pm_h4643, pm_h13363, pm_h20579, pm_h25843, pm_h29227, pm_h31145, pm_h32103, pm_h32525, pm_h32689, pm_h32745, pm_h32762, pm_h32766, pm_o, pm_ldi, pm_ldl, pm_lda, pm_sti, pm_stl, pm_sta, pm_lk, pm_f1, pm_f2, Value.category, lv_args, Option.bind_some, Option.map_some, if_true, if_false, ite_true, ite_false, Nat.reduceAdd, Nat.reduceSub, Nat.reduceMul, Nat.reduceDiv, Nat.reduceMod, Nat.reduceLT, Nat.reduceLeDiff, Nat.reduceEqDiff, reduceIte, reduceCtorEq, Int.reduceNatCast, Int.reduceNatCast', Int.reduceAdd, Int.reduceLE, Int.reduceLT, Int.reduceToNat, Int.reduceNeg, Int.reduceSub, pm_at_add, Nat.add_sub_cancel_left, va_up_g, Int.ofNat_eq_natCast, List.getElem?_cons_zero, List.getElem?_cons_succ, List.set_cons_zero, List.set_cons_succ, List.length_cons, List.length_nil, Nat.zero_add, va_rf, nI_add, pk_mul, Int.toNat_natCast, pm_ix_nI, Option.toList_none, Option.toList_some, List.nil_append, List.cons_append, pq_ial, pq_lal, pq_aal0, pq_aal1, pq_ias, F_A, K_A, d_A_fill_0, d_A_fill_1, d_A_fill_2, d_A_fill_3, d_A_fill_4, h3]; exact rfl) ?_
  have h4 : w = va_up w q (.inl (tc 1, N, .inr (.inl (fl_ f x 0)))) := by
    funext k
    by_cases hk : k = q
    · subst hk
      simp [va_up, fl_0, hw]
    · simp [va_up, hk]
  refine pm_G.wd h4 (pm_G.sub (by simp) (lp_A_fill hq hN X ?_ N 0 (by omega)))
  exact mr_v X hr hk d_A_fill_22 (Nat.le_refl _) (Nat.le_refl _) ⟨rfl, rfl⟩
set_option maxHeartbeats 4000000 in
theorem m_S_begin : mm_ l y_S_begin c_S_begin 1 none (rm_ 1) D tc sz tk [.ref (sz + 4)] hz 91 (sk_ tc sz w f g h len) hz 91 (fun v w1 => v = none ∧ w1 = sk_ tc sz w (fl_ f 0 25) g h 0) := by
  refine mm_of (by decide) (Nat.le_of_ble_eq_true rfl) ?_
  intro p e s m args below meth c X hr hk hnm
  refine pm_v_ok (cx_X X X_S) 3 _ _ _ _ (by simp -implicitDefEqProofs only [pv_0, pv_s, pd_iconst, pd_bipush, pd_sipush, pd_lconst_0, pd_lconst_1, pd_ldc, pd_ldc2, pd_iload_0, pd_iload_1, pd_iload_2, pd_iload_3, pd_iload, pd_lload_0, pd_lload_1, pd_lload_2, pd_lload_3, pd_lload, pd_aload_0, pd_aload_1, pd_aload_2, pd_aload_3, pd_aload, pd_istore_0, pd_istore_1, pd_istore_2, pd_istore_3, pd_istore, pd_lstore_0, pd_lstore_1, pd_lstore_2, pd_lstore_3, pd_lstore, pd_astore_0, pd_astore_1, pd_astore_2, pd_astore_3, pd_astore, pd_iinc, pd_iadd, pd_isub, pd_imul, pd_iand, pd_ior, pd_ixor, pd_ishl, pd_ishr, pd_iushr, pd_idiv, pd_irem, pd_ineg, pd_ladd, pd_lsub, pd_lmul, pd_land, pd_lor, pd_lxor, pd_lshl, pd_lushr, pd_lcmp, pd_i2l, pd_l2i, pd_dup_int, pd_pop_int, pd_dup_ref, pd_pop_ref, pd_dup_x1_ir, pd_dup_x1_ii, pd_dup2_ir, pd_dup2_ii, pd_goto, pd_if_eq, pd_if_ne, pd_if_lt, pd_if_ge, pd_if_gt, pd_if_le, pd_icmp_eq, pd_icmp_ne, pd_icmp_lt, pd_icmp_ge, pd_icmp_gt, pd_icmp_le, pd_iaload, pd_baload, pd_laload, pd_aaload, pd_iastore, pd_bastore, pd_lastore, pd_alen, pd_getfield, pd_putfield, ph_las, ph_len0, ph_len1, ph_len2, ph_gf, ph_pfi, ph_pfl, ph_pfz0, ph_pfz1, ph_nz0, ph_nz1, pm_cm1, pm_c0, pm_c1, pm_c2, pm_c3, pm_c4, pm_c5, pm_b6, pm_b7, pm_b8, pm_b9, pm_b10, pm_b11, pm_b12, pm_b14, pm_b15, pm_b16, pm_b20, pm_b24, pm_b25, pm_b28, pm_b31, pm_b32, pm_b48, pm_b56, pm_b60, pm_b63, pm_b64, pm_b67, pm_b68, pm_b89, pm_b90, pm_b95, pm_b100, pm_b120, pm_b127, pm_h128, pm_h150, pm_h168, pm_h255, pm_h256, pm_h360, pm_h369, pm_h450, pm_h4096, pm_h8192, pm_h32767, pm_h4643, pm_h13363, pm_h20579, pm_h25843, pm_h29227, pm_h31145, pm_h32103, pm_h32525, pm_h32689, pm_h32745, pm_h32762, pm_h32766, pm_o, pm_ldi, pm_ldl, pm_lda, pm_sti, pm_stl, pm_sta, pm_lk, pm_f1, pm_f2, Value.category, lv_args, Option.bind_some, Option.map_some, if_true, if_false, ite_true, ite_false, Nat.reduceAdd, Nat.reduceSub, Nat.reduceMul, Nat.reduceDiv, Nat.reduceMod, Nat.reduceLT, Nat.reduceLeDiff, Nat.reduceEqDiff, reduceIte, reduceCtorEq, Int.reduceNatCast, Int.reduceNatCast', Int.reduceAdd, Int.reduceLE, Int.reduceLT, Int.reduceToNat, Int.reduceNeg, Int.reduceSub, pm_at_add, Nat.add_sub_cancel_left, va_up_g, Int.ofNat_eq_natCast, List.getElem?_cons_zero, List.getElem?_cons_succ, List.set_cons_zero, List.set_cons_succ, List.length_cons, List.length_nil, Nat.zero_add, va_rf, nI_add, pk_mul, Int.toNat_natCast, pm_ix_nI, Option.toList_none, Option.toList_some, List.nil_append, List.cons_append, pq_ial, pq_lal, pq_aal0, pq_aal1, pq_ias, F_S, K_S, d_S_begin_0, d_S_begin_1, d_S_begin_4, sk_4, sk_5, sk_6, sk_7, sk_u4, sk_u5, sk_u6, sk_u7]; exact rfl) ?_
  refine mm_S X (m_A_fill (q := 5) (f := f) (N := 25) (by decide) (by decide) rfl) b_A_fill l_S_25 rfl rfl (Nat.le_of_ble_eq_true rfl) d_S_begin_5 (by decide) (by decide) (fun v w1 hq => ?_)
  obtain ⟨rfl, rfl⟩ := hq
  refine pm_v_ok (cx_X X X_S) 3 _ _ _ _ (by simp -implicitDefEqProofs only [pv_0, pv_s, pd_iconst, pd_bipush, pd_sipush, pd_lconst_0, pd_lconst_1, pd_ldc, pd_ldc2, pd_iload_0, pd_iload_1, pd_iload_2, pd_iload_3, pd_iload, pd_lload_0, pd_lload_1, pd_lload_2, pd_lload_3, pd_lload, pd_aload_0, pd_aload_1, pd_aload_2, pd_aload_3, pd_aload, pd_istore_0, pd_istore_1, pd_istore_2, pd_istore_3, pd_istore, pd_lstore_0, pd_lstore_1, pd_lstore_2, pd_lstore_3, pd_lstore, pd_astore_0, pd_astore_1, pd_astore_2, pd_astore_3, pd_astore, pd_iinc, pd_iadd, pd_isub, pd_imul, pd_iand, pd_ior, pd_ixor, pd_ishl, pd_ishr, pd_iushr, pd_idiv, pd_irem, pd_ineg, pd_ladd, pd_lsub, pd_lmul, pd_land, pd_lor, pd_lxor, pd_lshl, pd_lushr, pd_lcmp, pd_i2l, pd_l2i, pd_dup_int, pd_pop_int, pd_dup_ref, pd_pop_ref, pd_dup_x1_ir, pd_dup_x1_ii, pd_dup2_ir, pd_dup2_ii, pd_goto, pd_if_eq, pd_if_ne, pd_if_lt, pd_if_ge, pd_if_gt, pd_if_le, pd_icmp_eq, pd_icmp_ne, pd_icmp_lt, pd_icmp_ge, pd_icmp_gt, pd_icmp_le, pd_iaload, pd_baload, pd_laload, pd_aaload, pd_iastore, pd_bastore, pd_lastore, pd_alen, pd_getfield, pd_putfield, ph_las, ph_len0, ph_len1, ph_len2, ph_gf, ph_pfi, ph_pfl, ph_pfz0, ph_pfz1, ph_nz0, ph_nz1, pm_cm1, pm_c0, pm_c1, pm_c2, pm_c3, pm_c4, pm_c5, pm_b6, pm_b7, pm_b8, pm_b9, pm_b10, pm_b11, pm_b12, pm_b14, pm_b15, pm_b16, pm_b20, pm_b24, pm_b25, pm_b28, pm_b31, pm_b32, pm_b48, pm_b56, pm_b60, pm_b63, pm_b64, pm_b67, pm_b68, pm_b89, pm_b90, pm_b95, pm_b100, pm_b120, pm_b127, pm_h128, pm_h150, pm_h168, pm_h255, pm_h256, pm_h360, pm_h369, pm_h450, pm_h4096, pm_h8192, pm_h32767, pm_h4643, pm_h13363, pm_h20579, pm_h25843, pm_h29227, pm_h31145, pm_h32103, pm_h32525, pm_h32689, pm_h32745, pm_h32762, pm_h32766, pm_o, pm_ldi, pm_ldl, pm_lda, pm_sti, pm_stl, pm_sta, pm_lk, pm_f1, pm_f2, Value.category, lv_args, Option.bind_some, Option.map_some, if_true, if_false, ite_true, ite_false, Nat.reduceAdd, Nat.reduceSub, Nat.reduceMul, Nat.reduceDiv, Nat.reduceMod, Nat.reduceLT, Nat.reduceLeDiff, Nat.reduceEqDiff, reduceIte, reduceCtorEq, Int.reduceNatCast, Int.reduceNatCast', Int.reduceAdd, Int.reduceLE, Int.reduceLT, Int.reduceToNat, Int.reduceNeg, Int.reduceSub, pm_at_add, Nat.add_sub_cancel_left, va_up_g, Int.ofNat_eq_natCast, List.getElem?_cons_zero, List.getElem?_cons_succ, List.set_cons_zero, List.set_cons_succ, List.length_cons, List.length_nil, Nat.zero_add, va_rf, nI_add, pk_mul, Int.toNat_natCast, pm_ix_nI, Option.toList_none, Option.toList_some, List.nil_append, List.cons_append, pq_ial, pq_lal, pq_aal0, pq_aal1, pq_ias, F_S, K_S, d_S_begin_8, d_S_begin_9, d_S_begin_10, sk_4, sk_5, sk_6, sk_7, sk_u4, sk_u5, sk_u6, sk_u7]; exact rfl) ?_
  exact mr_v X hr hk d_S_begin_13 (Nat.le_refl _) (Nat.le_refl _) ⟨rfl, rfl⟩
end M1
