section PMV
variable {lv : List (Nat × Value)} {st : List Value} {w : Nat → va_E} {pc i nL : Nat} {q : pm_C}
theorem pm_ldi_inv (h : pm_ldi i pc lv st w = some q) : ∃ x, pm_lk lv i = some (.int x) ∧ q = (pc, lv, .int x :: st, w) := by
  unfold pm_ldi at h
  split at h
  · next x hx => exact ⟨x, hx, (Option.some.inj h).symm⟩
  · cases h
theorem pm_ldl_inv (h : pm_ldl i pc lv st w = some q) : ∃ x, pm_lk lv i = some (.long x) ∧ q = (pc, lv, .long x :: st, w) := by
  unfold pm_ldl at h
  split at h
  · next x hx => exact ⟨x, hx, (Option.some.inj h).symm⟩
  · cases h
theorem pm_lda_inv (h : pm_lda i pc lv st w = some q) : ∃ x, pm_lk lv i = some (.ref x) ∧ q = (pc, lv, .ref x :: st, w) := by
  unfold pm_lda at h
  split at h
  · next x hx => exact ⟨x, hx, (Option.some.inj h).symm⟩
  · cases h
theorem pm_sti_inv (h : pm_sti nL i pc lv st w = some q) : ∃ x r, st = .int x :: r ∧ i < nL ∧ q = (pc, (i, .int x) :: pm_f1 i lv, r, w) := by
  unfold pm_sti at h
  split at h
  · next x r =>
    by_cases hi : i < nL
    · rw [if_pos hi] at h
      exact ⟨x, r, rfl, hi, (Option.some.inj h).symm⟩
    · rw [if_neg hi] at h
      cases h
  · cases h
theorem pm_stl_inv (h : pm_stl nL i pc lv st w = some q) : ∃ x r, st = .long x :: r ∧ i + 1 < nL ∧ q = (pc, (i, .long x) :: pm_f2 i lv, r, w) := by
  unfold pm_stl at h
  split at h
  · next x r =>
    by_cases hi : i + 1 < nL
    · rw [if_pos hi] at h
      exact ⟨x, r, rfl, hi, (Option.some.inj h).symm⟩
    · rw [if_neg hi] at h
      cases h
  · cases h
theorem pm_sta_inv (h : pm_sta nL i pc lv st w = some q) : ∃ x r, st = .ref x :: r ∧ i < nL ∧ q = (pc, (i, .ref x) :: pm_f1 i lv, r, w) := by
  unfold pm_sta at h
  split at h
  · next x r =>
    by_cases hi : i < nL
    · rw [if_pos hi] at h
      exact ⟨x, r, rfl, hi, (Option.some.inj h).symm⟩
    · rw [if_neg hi] at h
      cases h
  · cases h
theorem pm_ii_inv {g : Int32 → Int32 → Int32} (h : pm_ii g pc lv st w = some q) : ∃ x y r, st = .int y :: .int x :: r ∧ q = (pc, lv, .int (g x y) :: r, w) := by
  unfold pm_ii at h
  split at h
  · next y x r => exact ⟨x, y, r, rfl, (Option.some.inj h).symm⟩
  · cases h
theorem pm_di_inv {g : Int32 → Int32 → Int32} (h : pm_di g pc lv st w = some q) : ∃ x y r, st = .int y :: .int x :: r ∧ ¬ y = 0 ∧ q = (pc, lv, .int (g x y) :: r, w) := by
  unfold pm_di at h
  split at h
  · next y x r =>
    by_cases hy : y = 0
    · rw [if_pos hy] at h
      cases h
    · rw [if_neg hy] at h
      exact ⟨x, y, r, rfl, hy, (Option.some.inj h).symm⟩
  · cases h
theorem pm_ll_inv {g : Int64 → Int64 → Int64} (h : pm_ll g pc lv st w = some q) : ∃ x y r, st = .long y :: .long x :: r ∧ q = (pc, lv, .long (g x y) :: r, w) := by
  unfold pm_ll at h
  split at h
  · next y x r => exact ⟨x, y, r, rfl, (Option.some.inj h).symm⟩
  · cases h
theorem pm_li_inv {g : Int64 → Int32 → Int64} (h : pm_li g pc lv st w = some q) : ∃ x y r, st = .int y :: .long x :: r ∧ q = (pc, lv, .long (g x y) :: r, w) := by
  unfold pm_li at h
  split at h
  · next y x r => exact ⟨x, y, r, rfl, (Option.some.inj h).symm⟩
  · cases h
end PMV
section PMM
variable {p : Program} {l : Launch} {e : Env} {R : Room} {s : State} {m : MethodId} {args : Array Value} {below : List Frame} {meth : Method} {c : Code} {Q : State → Prop} {cells slots : Nat}
variable {cc : ByteArray} {own : String} {D : va_G} {cl : List vw_C} {tc : Nat → ClassId} {F : pm_FT} {K : Nat → Option Value} {sz nL n pc : Nat} {hz : Option Nat} {w : Nat → va_E} {lv : List (Nat × Value)} {st : List Value}
set_option maxHeartbeats 4000000 in
theorem pm_i_ok (X : pm_X p s m args c cc own D cl tc F K) {i : Instr} (hd : decode cc pc = .ok (i, pm_ln i)) {q : pm_C} (h : pm_i F K tc sz n nL i pc lv st w = some q)
    (kk : pm_G p l e R s m args below meth c Q D cl sz nL hz n cells slots q.2.2.2 q.1 q.2.1 q.2.2.1) : pm_G p l e R s m args below meth c Q D cl sz nL hz n cells slots w pc lv st := by
  obtain ⟨hx, hb, ho, hK, hF, hKi, hKl⟩ := X
  cases i with
  | iconst k =>
    simp only [pm_i] at h
    cases h
    intro H locs ls hl hP hS hh
    exact lv_iconst hx hb hd rfl (kk H locs ls hl hP hS hh)
  | bipush k =>
    simp only [pm_i] at h
    cases h
    intro H locs ls hl hP hS hh
    exact lv_bipush hx hb hd rfl (kk H locs ls hl hP hS hh)
  | sipush k =>
    simp only [pm_i] at h
    cases h
    intro H locs ls hl hP hS hh
    exact lv_sipush hx hb hd rfl (kk H locs ls hl hP hS hh)
  | lconst k =>
    simp only [pm_i] at h
    cases h
    intro H locs ls hl hP hS hh
    exact lv_lconst hx hb hd rfl (kk H locs ls hl hP hS hh)
  | ldc k =>
    simp only [pm_i] at h
    split at h
    · next v hv =>
      cases h
      intro H locs ls hl hP hS hh
      exact lv_ldc hx hb ho (hKi _ _ hv) hd (kk H locs ls hl hP hS hh)
    · cases h
  | ldc2_w k =>
    simp only [pm_i] at h
    split at h
    · next v hv =>
      cases h
      intro H locs ls hl hP hS hh
      exact lv_ldc2 hx hb ho (hKl _ _ hv) hd (kk H locs ls hl hP hS hh)
    · cases h
  | iload_n k =>
    simp only [pm_i] at h
    obtain ⟨x, hx1, rfl⟩ := pm_ldi_inv h
    intro H locs ls hl hP hS hh
    exact lv_iload_n hx hb hd rfl (pm_lk_ok hl hx1) (kk H locs ls hl hP hS hh)
  | iload k =>
    simp only [pm_i] at h
    obtain ⟨x, hx1, rfl⟩ := pm_ldi_inv h
    intro H locs ls hl hP hS hh
    exact lv_iload hx hb hd (pm_lk_ok hl hx1) (kk H locs ls hl hP hS hh)
  | lload_n k =>
    simp only [pm_i] at h
    obtain ⟨x, hx1, rfl⟩ := pm_ldl_inv h
    intro H locs ls hl hP hS hh
    exact lv_lload_n hx hb hd rfl (pm_lk_ok hl hx1) (kk H locs ls hl hP hS hh)
  | lload k =>
    simp only [pm_i] at h
    obtain ⟨x, hx1, rfl⟩ := pm_ldl_inv h
    intro H locs ls hl hP hS hh
    exact lv_lload hx hb hd (pm_lk_ok hl hx1) (kk H locs ls hl hP hS hh)
  | aload_n k =>
    simp only [pm_i] at h
    obtain ⟨x, hx1, rfl⟩ := pm_lda_inv h
    intro H locs ls hl hP hS hh
    exact lv_aload_n hx hb hd rfl (pm_lk_ok hl hx1) (kk H locs ls hl hP hS hh)
  | aload k =>
    simp only [pm_i] at h
    obtain ⟨x, hx1, rfl⟩ := pm_lda_inv h
    intro H locs ls hl hP hS hh
    exact lv_aload hx hb hd (pm_lk_ok hl hx1) (kk H locs ls hl hP hS hh)
  | istore_n k =>
    simp only [pm_i] at h
    obtain ⟨x, r, rfl, hi, rfl⟩ := pm_sti_inv h
    intro H locs ls hl hP hS hh
    exact lv_istore_n hx hb hd rfl hl hi (by rw [pm_f1_eq]) (fun ls' hl' => kk H locs ls' hl' hP hS hh)
  | istore k =>
    simp only [pm_i] at h
    obtain ⟨x, r, rfl, hi, rfl⟩ := pm_sti_inv h
    intro H locs ls hl hP hS hh
    exact lv_istore hx hb hd hl hi (by rw [pm_f1_eq]) (fun ls' hl' => kk H locs ls' hl' hP hS hh)
  | lstore_n k =>
    simp only [pm_i] at h
    obtain ⟨x, r, rfl, hi, rfl⟩ := pm_stl_inv h
    intro H locs ls hl hP hS hh
    exact lv_lstore_n hx hb hd rfl hl hi (by rw [pm_f2_eq]) (fun ls' hl' => kk H locs ls' hl' hP hS hh)
  | lstore k =>
    simp only [pm_i] at h
    obtain ⟨x, r, rfl, hi, rfl⟩ := pm_stl_inv h
    intro H locs ls hl hP hS hh
    exact lv_lstore hx hb hd hl hi (by rw [pm_f2_eq]) (fun ls' hl' => kk H locs ls' hl' hP hS hh)
  | astore_n k =>
    simp only [pm_i] at h
    obtain ⟨x, r, rfl, hi, rfl⟩ := pm_sta_inv h
    intro H locs ls hl hP hS hh
    exact lv_astore_n hx hb hd rfl hl hi (by rw [pm_f1_eq]) (fun ls' hl' => kk H locs ls' hl' hP hS hh)
  | astore k =>
    simp only [pm_i] at h
    obtain ⟨x, r, rfl, hi, rfl⟩ := pm_sta_inv h
    intro H locs ls hl hP hS hh
    exact lv_astore hx hb hd hl hi (by rw [pm_f1_eq]) (fun ls' hl' => kk H locs ls' hl' hP hS hh)
  | iinc k d =>
    simp only [pm_i] at h
    split at h
    · next x hx1 =>
      by_cases hi : k < nL
      · rw [if_pos hi] at h
        cases h
        intro H locs ls hl hP hS hh
        obtain ⟨j, hj⟩ := List.getElem?_of_mem (pm_lk_mem hx1)
        exact lv_iinc hx hb hd hl hj rfl hi (by rw [pm_f1_eq]) (fun ls' hl' => kk H locs ls' hl' hP hS hh)
      · rw [if_neg hi] at h
        cases h
    · cases h
  | iadd =>
    simp only [pm_i] at h
    obtain ⟨x, y, r, rfl, rfl⟩ := pm_ii_inv h
    intro H locs ls hl hP hS hh
    exact lv_iadd hx hb hd (kk H locs ls hl hP hS hh)
  | isub =>
    simp only [pm_i] at h
    obtain ⟨x, y, r, rfl, rfl⟩ := pm_ii_inv h
    intro H locs ls hl hP hS hh
    exact lv_isub hx hb hd (kk H locs ls hl hP hS hh)
  | imul =>
    simp only [pm_i] at h
    obtain ⟨x, y, r, rfl, rfl⟩ := pm_ii_inv h
    intro H locs ls hl hP hS hh
    exact lv_imul hx hb hd (kk H locs ls hl hP hS hh)
  | iand =>
    simp only [pm_i] at h
    obtain ⟨x, y, r, rfl, rfl⟩ := pm_ii_inv h
    intro H locs ls hl hP hS hh
    exact lv_iand hx hb hd (kk H locs ls hl hP hS hh)
  | ior =>
    simp only [pm_i] at h
    obtain ⟨x, y, r, rfl, rfl⟩ := pm_ii_inv h
    intro H locs ls hl hP hS hh
    exact lv_ior hx hb hd (kk H locs ls hl hP hS hh)
  | ixor =>
    simp only [pm_i] at h
    obtain ⟨x, y, r, rfl, rfl⟩ := pm_ii_inv h
    intro H locs ls hl hP hS hh
    exact lv_ixor hx hb hd (kk H locs ls hl hP hS hh)
  | ishl =>
    simp only [pm_i] at h
    obtain ⟨x, y, r, rfl, rfl⟩ := pm_ii_inv h
    intro H locs ls hl hP hS hh
    exact lv_ishl hx hb hd (kk H locs ls hl hP hS hh)
  | ishr =>
    simp only [pm_i] at h
    obtain ⟨x, y, r, rfl, rfl⟩ := pm_ii_inv h
    intro H locs ls hl hP hS hh
    exact lv_ishr hx hb hd (kk H locs ls hl hP hS hh)
  | iushr =>
    simp only [pm_i] at h
    obtain ⟨x, y, r, rfl, rfl⟩ := pm_ii_inv h
    intro H locs ls hl hP hS hh
    exact lv_iushr hx hb hd rfl (kk H locs ls hl hP hS hh)
  | idiv =>
    simp only [pm_i] at h
    obtain ⟨x, y, r, rfl, hy, rfl⟩ := pm_di_inv h
    intro H locs ls hl hP hS hh
    exact lv_idiv hx hb hd hy (kk H locs ls hl hP hS hh)
  | irem =>
    simp only [pm_i] at h
    obtain ⟨x, y, r, rfl, hy, rfl⟩ := pm_di_inv h
    intro H locs ls hl hP hS hh
    exact lv_irem hx hb hd hy (kk H locs ls hl hP hS hh)
  | ladd =>
    simp only [pm_i] at h
    obtain ⟨x, y, r, rfl, rfl⟩ := pm_ll_inv h
    intro H locs ls hl hP hS hh
    exact lv_ladd hx hb hd (kk H locs ls hl hP hS hh)
  | lsub =>
    simp only [pm_i] at h
    obtain ⟨x, y, r, rfl, rfl⟩ := pm_ll_inv h
    intro H locs ls hl hP hS hh
    exact lv_lsub hx hb hd (kk H locs ls hl hP hS hh)
  | lmul =>
    simp only [pm_i] at h
    obtain ⟨x, y, r, rfl, rfl⟩ := pm_ll_inv h
    intro H locs ls hl hP hS hh
    exact lv_lmul hx hb hd (kk H locs ls hl hP hS hh)
  | land =>
    simp only [pm_i] at h
    obtain ⟨x, y, r, rfl, rfl⟩ := pm_ll_inv h
    intro H locs ls hl hP hS hh
    exact lv_land hx hb hd (kk H locs ls hl hP hS hh)
  | lor =>
    simp only [pm_i] at h
    obtain ⟨x, y, r, rfl, rfl⟩ := pm_ll_inv h
    intro H locs ls hl hP hS hh
    exact lv_lor hx hb hd (kk H locs ls hl hP hS hh)
  | lxor =>
    simp only [pm_i] at h
    obtain ⟨x, y, r, rfl, rfl⟩ := pm_ll_inv h
    intro H locs ls hl hP hS hh
    exact lv_lxor hx hb hd (kk H locs ls hl hP hS hh)
  | lshl =>
    simp only [pm_i] at h
    obtain ⟨x, y, r, rfl, rfl⟩ := pm_li_inv h
    intro H locs ls hl hP hS hh
    exact lv_lshl hx hb hd rfl (kk H locs ls hl hP hS hh)
  | lushr =>
    simp only [pm_i] at h
    obtain ⟨x, y, r, rfl, rfl⟩ := pm_li_inv h
    intro H locs ls hl hP hS hh
    exact lv_lushr hx hb hd rfl (kk H locs ls hl hP hS hh)
  | ineg =>
    simp only [pm_i] at h
    split at h
    · cases h
      intro H locs ls hl hP hS hh
      exact lv_ineg hx hb hd (kk H locs ls hl hP hS hh)
    · cases h
  | lcmp =>
    simp only [pm_i] at h
    split at h
    · cases h
      intro H locs ls hl hP hS hh
      exact W.lcmp hx hb hd (kk H locs ls hl hP hS hh)
    · cases h
  | i2l =>
    simp only [pm_i] at h
    split at h
    · cases h
      intro H locs ls hl hP hS hh
      exact lv_i2l hx hb hd rfl (kk H locs ls hl hP hS hh)
    · cases h
  | l2i =>
    simp only [pm_i] at h
    split at h
    · cases h
      intro H locs ls hl hP hS hh
      exact lv_l2i hx hb hd rfl (kk H locs ls hl hP hS hh)
    · cases h
  | dup =>
    simp only [pm_i] at h
    split at h
    · next v r =>
      by_cases hv : v.category = 1
      · rw [if_pos hv] at h
        cases h
        intro H locs ls hl hP hS hh
        exact lv_dup hx hb hd hv (kk H locs ls hl hP hS hh)
      · rw [if_neg hv] at h
        cases h
    · cases h
  | pop =>
    simp only [pm_i] at h
    split at h
    · next v r =>
      by_cases hv : v.category = 1
      · rw [if_pos hv] at h
        cases h
        intro H locs ls hl hP hS hh
        exact lv_pop hx hb hd hv (kk H locs ls hl hP hS hh)
      · rw [if_neg hv] at h
        cases h
    · cases h
  | dup_x1 =>
    simp only [pm_i] at h
    split at h
    · next v u r =>
      by_cases hv : v.category = 1 ∧ u.category = 1
      · rw [if_pos hv] at h
        cases h
        intro H locs ls hl hP hS hh
        exact lv_dup_x1 hx hb hd hv.1 hv.2 (kk H locs ls hl hP hS hh)
      · rw [if_neg hv] at h
        cases h
    · cases h
  | dup2 =>
    simp only [pm_i] at h
    split at h
    · next v u r =>
      by_cases hv : v.category = 1 ∧ u.category = 1
      · rw [if_pos hv] at h
        cases h
        intro H locs ls hl hP hS hh
        exact lv_dup2_11 hx hb hd hv.1 hv.2 (kk H locs ls hl hP hS hh)
      · rw [if_neg hv] at h
        cases h
    · cases h
  | goto off =>
    simp only [pm_i] at h
    by_cases h0 : 0 ≤ (pc : Int) + off
    · rw [if_pos h0] at h
      cases h
      intro H locs ls hl hP hS hh
      exact lv_goto hx hb hd (Int.toNat_of_nonneg h0).symm (kk H locs ls hl hP hS hh)
    · rw [if_neg h0] at h
      cases h
  | ifCond k off =>
    simp only [pm_i] at h
    split at h
    · next x r =>
      by_cases h0 : 0 ≤ (pc : Int) + off
      · rw [if_pos h0] at h
        cases h
        have ht := (Int.toNat_of_nonneg h0).symm
        intro H locs ls hl hP hS hh
        cases k
        · refine lv_if_eq hx hb hd ht (fun hc => ?_) (fun hc => ?_)
          · have h9 : pm_cz .eq x = true := by
              simp only [pm_cz, decide_eq_true_eq]
              exact hc
            have h8 := kk H locs ls hl hP hS hh
            dsimp only at h8
            rw [if_pos h9] at h8
            exact h8
          · have h9 : ¬ pm_cz .eq x = true := by
              simp only [pm_cz, decide_eq_true_eq]
              exact hc
            have h8 := kk H locs ls hl hP hS hh
            dsimp only at h8
            rw [if_neg h9] at h8
            exact h8
        · refine lv_if_ne hx hb hd ht (fun hc => ?_) (fun hc => ?_)
          · have h9 : pm_cz .ne x = true := by
              simp only [pm_cz, decide_eq_true_eq]
              exact hc
            have h8 := kk H locs ls hl hP hS hh
            dsimp only at h8
            rw [if_pos h9] at h8
            exact h8
          · have h9 : ¬ pm_cz .ne x = true := by
              simp only [pm_cz, decide_eq_true_eq]
              exact fun z => z hc
            have h8 := kk H locs ls hl hP hS hh
            dsimp only at h8
            rw [if_neg h9] at h8
            exact h8
        · refine lv_if_lt hx hb hd ht (fun hc => ?_) (fun hc => ?_)
          · have h9 : pm_cz .lt x = true := by
              simp only [pm_cz, decide_eq_true_eq]
              exact hc
            have h8 := kk H locs ls hl hP hS hh
            dsimp only at h8
            rw [if_pos h9] at h8
            exact h8
          · have h9 : ¬ pm_cz .lt x = true := by
              simp only [pm_cz, decide_eq_true_eq]
              exact hc
            have h8 := kk H locs ls hl hP hS hh
            dsimp only at h8
            rw [if_neg h9] at h8
            exact h8
        · refine lv_if_ge hx hb hd ht (fun hc => ?_) (fun hc => ?_)
          · have h9 : pm_cz .ge x = true := by
              simp only [pm_cz, decide_eq_true_eq]
              exact hc
            have h8 := kk H locs ls hl hP hS hh
            dsimp only at h8
            rw [if_pos h9] at h8
            exact h8
          · have h9 : ¬ pm_cz .ge x = true := by
              simp only [pm_cz, decide_eq_true_eq]
              exact hc
            have h8 := kk H locs ls hl hP hS hh
            dsimp only at h8
            rw [if_neg h9] at h8
            exact h8
        · refine lv_if_gt hx hb hd ht (fun hc => ?_) (fun hc => ?_)
          · have h9 : pm_cz .gt x = true := by
              simp only [pm_cz, decide_eq_true_eq]
              exact hc
            have h8 := kk H locs ls hl hP hS hh
            dsimp only at h8
            rw [if_pos h9] at h8
            exact h8
          · have h9 : ¬ pm_cz .gt x = true := by
              simp only [pm_cz, decide_eq_true_eq]
              exact hc
            have h8 := kk H locs ls hl hP hS hh
            dsimp only at h8
            rw [if_neg h9] at h8
            exact h8
        · refine lv_if_le hx hb hd ht (fun hc => ?_) (fun hc => ?_)
          · have h9 : pm_cz .le x = true := by
              simp only [pm_cz, decide_eq_true_eq]
              exact hc
            have h8 := kk H locs ls hl hP hS hh
            dsimp only at h8
            rw [if_pos h9] at h8
            exact h8
          · have h9 : ¬ pm_cz .le x = true := by
              simp only [pm_cz, decide_eq_true_eq]
              exact hc
            have h8 := kk H locs ls hl hP hS hh
            dsimp only at h8
            rw [if_neg h9] at h8
            exact h8
      · rw [if_neg h0] at h
        cases h
    · cases h
  | if_icmp k off =>
    simp only [pm_i] at h
    split at h
    · next y x r =>
      by_cases h0 : 0 ≤ (pc : Int) + off
      · rw [if_pos h0] at h
        cases h
        have ht := (Int.toNat_of_nonneg h0).symm
        intro H locs ls hl hP hS hh
        cases k
        · refine lv_icmp_eq hx hb hd ht (fun hc => ?_) (fun hc => ?_)
          · have h9 : pm_cc .eq x y = true := by
              simp only [pm_cc, decide_eq_true_eq]
              exact hc
            have h8 := kk H locs ls hl hP hS hh
            dsimp only at h8
            rw [if_pos h9] at h8
            exact h8
          · have h9 : ¬ pm_cc .eq x y = true := by
              simp only [pm_cc, decide_eq_true_eq]
              exact hc
            have h8 := kk H locs ls hl hP hS hh
            dsimp only at h8
            rw [if_neg h9] at h8
            exact h8
        · refine lv_icmp_ne hx hb hd ht (fun hc => ?_) (fun hc => ?_)
          · have h9 : pm_cc .ne x y = true := by
              simp only [pm_cc, decide_eq_true_eq]
              exact hc
            have h8 := kk H locs ls hl hP hS hh
            dsimp only at h8
            rw [if_pos h9] at h8
            exact h8
          · have h9 : ¬ pm_cc .ne x y = true := by
              simp only [pm_cc, decide_eq_true_eq]
              exact fun z => z hc
            have h8 := kk H locs ls hl hP hS hh
            dsimp only at h8
            rw [if_neg h9] at h8
            exact h8
        · refine lv_icmp_lt hx hb hd ht (fun hc => ?_) (fun hc => ?_)
          · have h9 : pm_cc .lt x y = true := by
              simp only [pm_cc, decide_eq_true_eq]
              exact hc
            have h8 := kk H locs ls hl hP hS hh
            dsimp only at h8
            rw [if_pos h9] at h8
            exact h8
          · have h9 : ¬ pm_cc .lt x y = true := by
              simp only [pm_cc, decide_eq_true_eq]
              exact hc
            have h8 := kk H locs ls hl hP hS hh
            dsimp only at h8
            rw [if_neg h9] at h8
            exact h8
        · refine lv_icmp_ge hx hb hd ht (fun hc => ?_) (fun hc => ?_)
          · have h9 : pm_cc .ge x y = true := by
              simp only [pm_cc, decide_eq_true_eq]
              exact hc
            have h8 := kk H locs ls hl hP hS hh
            dsimp only at h8
            rw [if_pos h9] at h8
            exact h8
          · have h9 : ¬ pm_cc .ge x y = true := by
              simp only [pm_cc, decide_eq_true_eq]
              exact hc
            have h8 := kk H locs ls hl hP hS hh
            dsimp only at h8
            rw [if_neg h9] at h8
            exact h8
        · refine lv_icmp_gt hx hb hd ht (fun hc => ?_) (fun hc => ?_)
          · have h9 : pm_cc .gt x y = true := by
              simp only [pm_cc, decide_eq_true_eq]
              exact hc
            have h8 := kk H locs ls hl hP hS hh
            dsimp only at h8
            rw [if_pos h9] at h8
            exact h8
          · have h9 : ¬ pm_cc .gt x y = true := by
              simp only [pm_cc, decide_eq_true_eq]
              exact hc
            have h8 := kk H locs ls hl hP hS hh
            dsimp only at h8
            rw [if_neg h9] at h8
            exact h8
        · refine lv_icmp_le hx hb hd ht (fun hc => ?_) (fun hc => ?_)
          · have h9 : pm_cc .le x y = true := by
              simp only [pm_cc, decide_eq_true_eq]
              exact hc
            have h8 := kk H locs ls hl hP hS hh
            dsimp only at h8
            rw [if_pos h9] at h8
            exact h8
          · have h9 : ¬ pm_cc .le x y = true := by
              simp only [pm_cc, decide_eq_true_eq]
              exact hc
            have h8 := kk H locs ls hl hP hS hh
            dsimp only at h8
            rw [if_neg h9] at h8
            exact h8
      · rw [if_neg h0] at h
        cases h
    · cases h
  | iaload =>
    simp only [pm_i] at h
    split at h
    · next j a r =>
      obtain ⟨N, f, hat, hj, rfl⟩ := pm_ial_inv h
      obtain ⟨k, rfl, hk, hw, -⟩ := pm_at_inv hat
      intro H locs ls hl hP hS hh
      exact va_iald hx hb hK hP k 0 (by rw [pm_L_get hk, hw]) rfl hj hd (kk H locs ls hl hP hS hh)
    · cases h
  | baload =>
    simp only [pm_i] at h
    split at h
    · next j a r =>
      obtain ⟨N, f, hat, hj, rfl⟩ := pm_ial_inv h
      obtain ⟨k, rfl, hk, hw, -⟩ := pm_at_inv hat
      intro H locs ls hl hP hS hh
      exact va_zald hx hb hK hP k 2 (by rw [pm_L_get hk, hw]) rfl hj hd (kk H locs ls hl hP hS hh)
    · cases h
  | laload =>
    simp only [pm_i] at h
    split at h
    · next j a r =>
      obtain ⟨N, f, hat, hj, rfl⟩ := pm_lal_inv h
      obtain ⟨k, rfl, hk, hw, -⟩ := pm_at_inv hat
      intro H locs ls hl hP hS hh
      exact va_lald hx hb hK hP k 1 (by rw [pm_L_get hk, hw]) rfl hj hd (kk H locs ls hl hP hS hh)
    · cases h
  | aaload =>
    simp only [pm_i] at h
    split at h
    · next j a r =>
      obtain ⟨cA, N, f, hc, hat, hj, rfl⟩ := pm_aal_inv h
      obtain ⟨k, rfl, hk, hw, -⟩ := pm_at_inv hat
      intro H locs ls hl hP hS hh
      rcases hc with hc | hc
      · subst hc
        exact va_aldq hx hb hK hP k 3 (by rw [pm_L_get hk, hw]) rfl hj hd (kk H locs ls hl hP hS hh)
      · subst hc
        exact va_aldq hx hb hK hP k 4 (by rw [pm_L_get hk, hw]) rfl hj hd (kk H locs ls hl hP hS hh)
    · cases h
  | iastore =>
    simp only [pm_i] at h
    split at h
    · next x j a r =>
      obtain ⟨N, f, hat, hj, rfl⟩ := pm_ias_inv h
      obtain ⟨k, rfl, hk, hw, he⟩ := pm_at_inv hat
      rw [he] at kk
      exact pm_iast hx hb hK hk hw hj hd kk
    · cases h
  | bastore =>
    simp only [pm_i] at h
    split at h
    · next x j a r =>
      obtain ⟨N, f, hat, hj, rfl⟩ := pm_ias_inv h
      obtain ⟨k, rfl, hk, hw, he⟩ := pm_at_inv hat
      rw [he] at kk
      exact pm_zast hx hb hK hk hw hj hd kk
    · cases h
  | lastore =>
    simp only [pm_i] at h
    split at h
    · next x j a r =>
      obtain ⟨N, f, hat, hj, rfl⟩ := pm_las_inv h
      obtain ⟨k, rfl, hk, hw, he⟩ := pm_at_inv hat
      rw [he] at kk
      exact pm_last hx hb hK hk hw hj hd kk
    · cases h
  | arraylength =>
    simp only [pm_i] at h
    split at h
    · next a r =>
      obtain ⟨cA, x, hc, hat, rfl⟩ := pm_len_inv h
      obtain ⟨k, rfl, hk, hw, -⟩ := pm_at_inv hat
      intro H locs ls hl hP hS hh
      rcases hc with hc | hc | hc
      · subst hc
        exact va_alen hx hb hK hP k 0 (by rw [pm_L_get hk, hw]) rfl rfl hd (kk H locs ls hl hP hS hh)
      · subst hc
        exact va_alen hx hb hK hP k 1 (by rw [pm_L_get hk, hw]) rfl rfl hd (kk H locs ls hl hP hS hh)
      · subst hc
        exact va_alen hx hb hK hP k 2 (by rw [pm_L_get hk, hw]) rfl rfl hd (kk H locs ls hl hP hS hh)
    · cases h
  | getfield k0 =>
    simp only [pm_i] at h
    split at h
    · next a r =>
      obtain ⟨ci, i, ty, fin, fs, u, hf, hat, hu, rfl⟩ := pm_gf_inv h
      obtain ⟨k, rfl, hk, hw, -⟩ := pm_at_inv hat
      exact pm_get hx hb ho hK (hF _ _ _ _ _ hf) hk hw hu hd kk
    · cases h
  | putfield k0 =>
    simp only [pm_i] at h
    split at h
    · next v a r =>
      obtain ⟨ci, i, ty, fs, hf, hat, h1, h2, h3, rfl⟩ := pm_pf_inv h
      obtain ⟨k, rfl, hk, hw, he⟩ := pm_at_inv hat
      rw [he] at kk
      exact pm_put hx hb ho hK (hF _ _ _ _ _ hf) hk hw h1 h2 h3 hd kk
    · cases h
  | _ => simp [pm_i] at h
theorem pm_v_ok (X : pm_X p s m args c cc own D cl tc F K) : ∀ (k pc : Nat) (lv : List (Nat × Value)) (st : List Value) (w : Nat → va_E) {pc' : Nat} {lv' : List (Nat × Value)} {st' : List Value} {w' : Nat → va_E}, pm_v cc F K tc sz n nL k pc lv st w = some (pc', lv', st', w') →
    pm_G p l e R s m args below meth c Q D cl sz nL hz n cells slots w' pc' lv' st' → pm_G p l e R s m args below meth c Q D cl sz nL hz n cells slots w pc lv st := by
  intro k
  induction k with
  | zero =>
    intro pc lv st w pc' lv' st' w' h kk
    cases h
    exact kk
  | succ k ih =>
    intro pc lv st w pc' lv' st' w' h kk
    unfold pm_v at h
    split at h
    · next pc1 lv1 st1 w1 h1 =>
      cases hdc : decode cc pc with
      | error z =>
        rw [hdc] at h1
        cases h1
      | ok z =>
        obtain ⟨i, len⟩ := z
        rw [hdc] at h1
        unfold pm_d at h1
        by_cases hlen : len = pm_ln i
        · subst hlen
          simp only [if_true] at h1
          exact pm_i_ok X hdc h1 (ih pc1 lv1 st1 w1 h kk)
        · simp only [if_neg hlen] at h1
          cases h1
    · cases h
end PMM
