/-! THE CLAIM OUT OF ONE WALK OF THE LAW'S BODY. Your part is whole_start (and what it stands on); all else here is the same for every law, but numbers. -/
def R_law : String := "LatticeWrapsLaw"
def lw_P (b : Addr) (xs : List Int32) (args : Array Value) (s : State) : Prop := args = #[.ref b] ∧ s.IntsAt b xs ∧ xs.length ≤ 4096 ∧ (Jvm.Cond.and given_1 narrow_1).before args s = true
def lw_Q (_ : Array Value) (s : State) (o : Outcome) (t : State) : Prop := o = .returned (some (.int 1)) ∧ Framed s o t [] 601024 7293034
def lw_Z (below : List Frame) (a : Array Value) (s : State) : State → Prop := fun t => ∃ o, t.status = .running ∧ Ended t below o ∧ lw_Q a s o t
/-- the law's own end, with 1 on the stack, nothing written that was there before, its room as the claim has it -/
theorem lw_ret {p : Program} {l : Launch} {e : Env} {s : State} {m : MethodId} {below : List Frame} {meth : Method} {c : Code} {b : Nat} (hx : p.tables.exec = Jvm.exec) (hb : c.code = code) (hr : meth.sig.returnType = ret) (hlocks : meth.locks = false) {pc : Nat} {H : Heap} {ls : Array Slot} (hdg : decode code pc = .ok (.ireturn, 1)) : W p l e room_1 s m #[Value.ref b] below meth c H [] 601024 7293034 (lw_Z below #[Value.ref b] s) (F0 m pc ls [.int 1]) := by
  intro T hT X
  obtain ⟨fs, hret, hrun, hended, hW, hframe⟩ := X.leave (v := some (.int 1)) (hlocks := hlocks) (fun h => by rw [hr] at h; cases h)
  have hmeth' : T.vm.method? m = some meth := X.method'
  refine ⟨T.setFrames fs, ?_, .returned (some (.int 1)), hrun, hended, rfl, ⟨_, rfl⟩, hW, hframe⟩
  jvm_step X.here [X.here.top, hx, hb, hdg, hmeth', hr, ret, narrow_b1]
  (try refine ⟨rfl, ?_⟩); (try refine ⟨rfl, ?_⟩)
  first | (intro acts; rw [hret _ acts rfl rfl rfl]) | rw [hret _ _ rfl rfl rfl]
  exact Steps.refl _
/-- what holds at the law's entry: the machine, the code, the tables' words (any of lw_tbl by 'hts w (by decide +kernel)'), the script of L ints xs at the cell b, what the Statement gives of the start (any of its parts by flat_of_before) -/
def lw_At (p : Program) (s : State) (m : MethodId) (meth : Method) (c : Code) (b L : Nat) (xs : Nat → Int32) : Prop :=
  p.tables.exec = Jvm.exec ∧ c.code = code ∧ meth.sig.returnType = ret ∧ c.maxLocals = 8 ∧ s.vm.findClass R_law = some m.cls ∧ (∀ w ∈ lw_tbl, w.before #[Value.ref b] s = true) ∧ va_X b L xs s s.heap ∧ b < s.heap.size ∧ meth.locks = false ∧ (Jvm.Cond.and given_1 narrow_1).before #[Value.ref b] s = true
theorem whole_start {p : Program} {e : Env} {s : State} {m : MethodId} {below : List Frame} {meth : Method} {c : Code} (l : Launch) (hl : l.stackTraces = false) {b L : Nat} {xs : Nat → Int32} (hL : L ≤ 4096) (C0 : lw_At p s m meth c b L xs) : W p l e room_1 s m #[Value.ref b] below meth c s.heap [] 0 0 (lw_Z below #[Value.ref b] s) (entryFrame m ([Value.ref b] : List Value).toArray 8) := by
  obtain ⟨hx, hb, hr, hml, hown, hts, hX, hbl, hlk, hgv⟩ := C0
  have hg : ∀ w ∈ gw_, w.before #[Value.ref b] s = true := fun w h => hts w (List.mem_filter.mp h).1
  obtain ⟨D, tc, hK⟩ := bs_K hg hts
  obtain ⟨tk, hSt⟩ := bs_St hK hts hgv
  have X : cx_ p s m #[Value.ref b] c code 8 R_Q D tc s.heap.size tk := ⟨⟨Cond.initialized R_Q, hx, hb, hml, hown, fun w hw => (List.mem_cons.mp hw).elim (fun h => by rw [h]; exact hg _ (gm_ 25 (by decide +kernel) (by decide +kernel))) (hg w)⟩, hK, Nat.le_refl _, hSt.1⟩
  have hS : sx_ok s.heap.size s b L xs := ⟨hX, hbl, Nat.not_le_of_lt hbl, by omega⟩
  have kk : ∀ (t : Nat) (w1 : Nat → va_E), 8 * t ≤ L → pm_G p l e room_1 s m #[Value.ref b] below meth c (lw_Z below #[Value.ref b] s) D cl_ s.heap.size 8 none 91 (100 + 5 * t) (5000 + 30 * t) w1 1153 [(0, .ref b), (1, .ref (s.heap.size + 0)), (2, .ref (s.heap.size + 69)), (3, .ref (s.heap.size + 90)), (4, .int (nI (8 * t)))] [] := fun t w1 ht => by
    refine pm_v_ok (cx_X X X_Q) 1 _ _ _ _ (by simp -implicitDefEqProofs only [pv_0, pv_s, pd_iconst, pd_bipush, pd_sipush, pd_lconst_0, pd_lconst_1, pd_ldc, pd_ldc2, pd_iload_0, pd_iload_1, pd_iload_2, pd_iload_3, pd_iload, pd_lload_0, pd_lload_1, pd_lload_2, pd_lload_3, pd_lload, pd_aload_0, pd_aload_1, pd_aload_2, pd_aload_3, pd_aload, pd_istore_0, pd_istore_1, pd_istore_2, pd_istore_3, pd_istore, pd_lstore_0, pd_lstore_1, pd_lstore_2, pd_lstore_3, pd_lstore, pd_astore_0, pd_astore_1, pd_astore_2, pd_astore_3, pd_astore, pd_iinc, pd_iadd, pd_isub, pd_imul, pd_iand, pd_ior, pd_ixor, pd_ishl, pd_ishr, pd_iushr, pd_idiv, pd_irem, pd_ineg, pd_ladd, pd_lsub, pd_lmul, pd_land, pd_lor, pd_lxor, pd_lshl, pd_lushr, pd_lcmp, pd_i2l, pd_l2i, pd_dup_int, pd_pop_int, pd_dup_ref, pd_pop_ref, pd_dup_x1_ir, pd_dup_x1_ii, pd_dup2_ir, pd_dup2_ii, pd_goto, pd_if_eq, pd_if_ne, pd_if_lt, pd_if_ge, pd_if_gt, pd_if_le, pd_icmp_eq, pd_icmp_ne, pd_icmp_lt, pd_icmp_ge, pd_icmp_gt, pd_icmp_le, pd_iaload, pd_baload, pd_laload, pd_aaload, pd_iastore, pd_bastore, pd_lastore, pd_alen, pd_getfield, pd_putfield, ph_las, ph_len0, ph_len1, ph_len2, ph_gf, ph_pfi, ph_pfl, ph_pfz0, ph_pfz1, ph_nz0, ph_nz1, pm_cm1, pm_c0, pm_c1, pm_c2, pm_c3, pm_c4, pm_c5, pm_b6, pm_b7, pm_b8, pm_b9, pm_b10, pm_b11, pm_b12, pm_b14, pm_b15, pm_b16, pm_b20, pm_b24, pm_b25, pm_b28, pm_b31, pm_b32, pm_b48, pm_b56, pm_b60, pm_b63, pm_b64, pm_b67, pm_b68, pm_b89, pm_b90, pm_b95, pm_b100, pm_b120, pm_b127, pm_h128, pm_h150, pm_h168, pm_h255, pm_h256, pm_h360, pm_h369, pm_h450, pm_h4096, pm_h8192, pm_h32767, pm_h4643, pm_h13363, pm_h20579, pm_h25843, pm_h29227, pm_h31145, pm_h32103, pm_h32525, pm_h32689, pm_h32745, pm_h32762, pm_h32766, pm_o, pm_ldi, pm_ldl, pm_lda, pm_sti, pm_stl, pm_sta, pm_lk, pm_f1, pm_f2, Value.category, lv_args, Option.bind_some, Option.map_some, if_true, if_false, ite_true, ite_false, Nat.reduceAdd, Nat.reduceSub, Nat.reduceMul, Nat.reduceDiv, Nat.reduceMod, Nat.reduceLT, Nat.reduceLeDiff, Nat.reduceEqDiff, reduceIte, reduceCtorEq, Int.reduceNatCast, Int.reduceNatCast', Int.reduceAdd, Int.reduceLE, Int.reduceLT, Int.reduceToNat, Int.reduceNeg, Int.reduceSub, Nat.add_sub_cancel_left, va_up_g, Int.ofNat_eq_natCast, List.getElem?_cons_zero, List.getElem?_cons_succ, List.set_cons_zero, List.set_cons_succ, List.length_cons, List.length_nil, Nat.zero_add, va_rf, nI_add, pk_mul, Int.toNat_natCast, pm_ix_nI, Option.toList_none, Option.toList_some, List.nil_append, List.cons_append, pq_ial, pq_lal, pq_aal0, pq_aal1, pq_ias, F_Q, K_Q, d_Q_law_1153]; exact rfl) ?_
    intro H locs ls _ _ hS2 _
    exact va_forget (fun q hq => hS2.2.2 q hq) (W.widen (by omega) (by omega) (lw_ret hx hb hr hlk d_Q_law_1154))
  have hR : ∀ t, 8 * t + 8 ≤ L → rr_ room_1 (100 + 5 * t) (5000 + 30 * t) := fun t ht => ⟨by decide, by decide, by show 100 + 5 * t + 5 ≤ 601024; omega, by show 5000 + 30 * t + 30 ≤ 7293034; omega⟩
  have G0 : pm_G p l e room_1 s m #[Value.ref b] below meth c (lw_Z below #[Value.ref b] s) D cl_ s.heap.size 8 (some (s.heap.size + 0)) 0 0 0 (fun _ => .inr (0, [])) 0 [(0, .ref b)] [] := g0_law X hSt (fun w1 HI => lp_law hl X hS hR kk L 0 w1 (by omega) (by omega) HI)
  rw [lg_entry_eq]
  exact G0 s.heap [] _ (lv_entry [.ref b] (Nat.le_of_ble_eq_true rfl)) (fun k q h => by cases (pm_L_inv h).1) va_S.rf (fun k hk => by cases hk; rfl)
set_option maxHeartbeats 4000000 in
theorem lw_walk (l : Launch) (hl : l.stackTraces = false) (b : Addr) (xs : List Int32) : MetFree l x (headSpec (Jvm.Cond.code x code maxLocals ret :: tables_1) room_1) (lw_P b xs) (fun _ _ _ _ _ => True) lw_Q := by
  refine MetFree.of_bodyS (code := code) (maxLocals := maxLocals) (ret := ret) (by decide) ?_ ?_
  · intro args s m h hn
    obtain ⟨meth, c, h1, h2, h3, h4, h5, h6, -, -⟩ := Cond.code_spec hn (atoms_spec (ws := Jvm.Cond.code x code maxLocals ret :: tables_1) h _ List.mem_cons_self)
    exact ⟨meth, c, h1, h2, h3, h4, h5, h6⟩
  · intro p e s m args below meth c s₁ B hml0 hP _
    obtain ⟨rfl, hx, hbd, hgv⟩ := hP
    obtain ⟨scr, harrAt, hlist, hof, hsmall⟩ := hx
    obtain ⟨hcb, hkn, -, -⟩ := State.arrayAt?_spec harrAt
    have hown : s.vm.findClass R_law = some m.cls := findClass_of_methodNamed B.named
    have hts0 : ∀ c ∈ (Jvm.Cond.code x code maxLocals ret :: tables_1), c.before #[Value.ref b] s = true := atoms_spec (ws := Jvm.Cond.code x code maxLocals ret :: tables_1) B.pre
    have hts : ∀ w ∈ lw_tbl, w.before #[Value.ref b] s = true := k2_hts_sels lw_privs (fun w hw => hts0 w (List.mem_cons_of_mem _ hw)) lw_privs_ok
    have hml : c.maxLocals = 8 := B.maxLocals_eq (hts0 _ List.mem_cons_self)
    have X₀ : Stand p l e room_1 s m #[Value.ref b] below meth c s₁ [] 0 0 := Stand.of_body B
    have hh0 : s₁.heap = s.heap := by rw [B.state]; rfl
    have hsz : scr.slots.size = xs.length := by rw [← Array.length_toList, hlist, List.length_map]
    have hval : ∀ j : Nat, j < xs.length → scr.slots[j]? = some (.int (xs.getD j 0)) := fun j hj => by
      rw [← Array.getElem?_toList, hlist]
      simp [hj]
    have hbl : b < s.heap.size := (Array.getElem?_eq_some_iff.mp hcb).1
    have hX : va_X b xs.length (fun j => xs.getD j 0) s s.heap := ⟨scr, hcb, hof, hkn, hsz, hval⟩
    have K : W p l e room_1 s m #[Value.ref b] below meth c s₁.heap [] 0 0 (lw_Z below #[Value.ref b] s) (entryFrame m ([Value.ref b] : List Value).toArray 8) := by
      rw [hh0]
      exact whole_start l hl hbd ⟨B.exec, B.bytes, B.returns, hml, hown, hts, hX, hbl, B.notSynchronized, hgv⟩
    obtain ⟨t, a1, o, b1, b2, b3⟩ := K s₁ rfl X₀
    exact ⟨t, o, a1, b1, b2, b3⟩
theorem lw_pre_spec {args : Array Value} {s : State} (h : (Jvm.Cond.and given_1 narrow_1).before args s = true) (hr : rest_1_c.before args s = true) : ∃ (b : Addr) (xs : List Int32), lw_P b xs args s := by
  have hs := flat_of_before _ h
  have hq := flat_of_before _ hr
  have hc : (Cond.count 1).before args s = true := hs _ (by decide +kernel)
  have harr : (Cond.arrayOf (.arg 0) .int).before args s = true := hs _ (by decide +kernel)
  have hle : (Cond.le (.length (.arg 0)) (.int 4096)).before args s = true := hs _ (by decide +kernel)
  have hlen : (Cond.isInt (.length (.arg 0))).before args s = true := hq _ (by decide +kernel)
  have hall : (Cond.all (.arg 0) (.isInt (.elem (.arg 0) (.index 0)))).before args s = true := hq _ (by decide +kernel)
  obtain ⟨b, xs, hb, hx⟩ := State.ints_of_pre rfl harr hlen hall
  have hsm : xs.length < 2 ^ 31 := hx.choose_spec.2.2.2
  have hev : (Term.length (.arg 0)).eval args s none [] s = some (.int xs.length.toInt32) := hx.length_eval hb
  have hv := Cond.le_ints hev (show (Term.int 4096).eval args s none [] s = some (.int 4096) from rfl)
  have hd : xs.length.toInt32 ≤ 4096 := by
    simpa [Cond.before, Cond.holds, hv] using hle
  have hN : xs.length ≤ 4096 := (Int32.ofNat_le_ofNat hsm (by decide)).mp (show Int32.ofNat xs.length ≤ Int32.ofNat 4096 from hd)
  exact ⟨b, xs, Cond.one_arg hc (show args[0]? = some (.ref b) from hb), hx, hN, h⟩
theorem lw_comes (l : Launch) (hl : l.stackTraces = false) : Comes l x (Jvm.Cond.code x code maxLocals ret :: tables_1) room_1 (fun tb e args s => Calls_1 tb e args s ∧ rest_1 tb e args s ∧ Pre_1 tb e args s)
    (fun _ _ args s o t => lw_Q args s o t) := by
  intro p e ha hc hk s m args below hf hfit hheap happ hpre
  obtain ⟨b, xs, hP⟩ := lw_pre_spec hpre.2.2 hpre.2.1
  obtain ⟨k, o, h1, h2, h3, hQ⟩ := lw_walk l hl b xs p e ha hc hk s m args below hf ((Spec.applies_iff_loose hf).mp happ).1 hP trivial
  exact ⟨k, o, h1, h2, h3, hQ⟩
theorem lw_frame {s t : State} {o : Outcome} {args : Array Value} (h : Framed s o t [] 601024 7293034) :
    Framed s o t (fieldLocs frame_1_writes args s ++ arrayLocs frame_1_arrays args s ++ staticLocs frame_1_statics s) 601024 7293034 := h
theorem lw_limb (L : Cond) (hL : ∀ (args : Array Value) (s t : State), L.after args s (.returned (some (.int 1))) t = true) :
    ArmFor flags0 classFile x code maxLocals ret World_1 tables_1 room_1 Calls_1 rest_1 Pre_1
      (fun tb e a s o t => postC L tb e a s o t ∧ Framed s o t (fieldLocs frame_1_writes a s ++ arrayLocs frame_1_arrays a s ++ staticLocs frame_1_statics s) 601024 7293034) := by
  intro l hfl _ _ p e ha hc hk s m args below hf hfit hheap happ hpre
  have hl : l.stackTraces = false := by
    unfold Launch.stackTraces
    rw [hfl]
    decide +kernel
  obtain ⟨k, o, h1, h2, h3, rfl, hF⟩ := lw_comes l hl p e ha hc hk s m args below hf hfit hheap happ hpre
  exact ⟨k, _, h1, h2, h3, hL args s _, lw_frame hF⟩
theorem i_vc : Claimed_1_1 ∧ Claimed_1_2 := ⟨lw_limb limb_1_1 (fun args s t => by simp [limb_1_1, Cond.after, Cond.holds, Cond.value]), lw_limb limb_1_2 (fun args s t => Cond.after_iff.mpr (by
  first | (rw [show limb_1_2 = Cond.eq .result (.int 1) from rfl, Cond.eq_ints (x := 1) (y := 1) rfl rfl]; simp; done) | (simp [limb_1_2, Cond.value, Term.eval]; done)))⟩
