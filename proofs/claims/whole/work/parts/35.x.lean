section XR
def rx_ (d k : Nat) : Room := { frames := d, cells := k, slots := 6 * k, locals := 32 * d }
def xc_ (D : va_G) (sz n : Nat) (w : Nat → va_E) (xp : String → Prop) : String → State → State → Prop := fun E st t => xp E ∧ va_P D cl_ (pm_L sz n w) t.heap ∧ va_F (fun q => sz ≤ q) st t
def xm_ (l : Launch) (y : MethodName) (b : ByteArray) (maxL : Nat) (ret : Option FieldType) (rm : Room) (D : va_G) (tc : Nat → ClassId) (sz : Nat) (tk : Nat → Nat) (As : List Value) (n : Nat) (w : Nat → va_E) (post : Option Value → (Nat → va_E) → Prop) (xp : String → Prop) : Prop :=
  vx_Met l y (.code y b maxL ret :: gw_) rm (pm_P D cl_ tc sz (St_ sz tk) As none n w) (pm_Q D cl_ sz none n post) (xc_ D sz n w xp) rm.cells rm.slots (fun q => sz ≤ q)
theorem nw_ot : ∀ w ∈ nw_, w.onTables = true := by decide +kernel
variable {p : Program} {l : Launch} {e : Env} {R : Room} {s : State} {m : MethodId} {args : Array Value} {below : List Frame} {meth : Method} {c : Code} {Q : State → Prop} {cells slots mc ms : Nat}
variable {cc : ByteArray} {own : String} {D : va_G} {tc : Nat → ClassId} {sz nL n pc : Nat} {w : Nat → va_E} {lv : List (Nat × Value)} {st : List Value} {tk : Nat → Nat} {post : Option Value → (Nat → va_E) → Prop} {xp : String → Prop}
theorem xm_of {y : MethodName} {b : ByteArray} {maxL : Nat} {ret : Option FieldType} {rm : Room} {As : List Value} (hy : plainName y.cls = true) (hA : (lg_sl As).length ≤ maxL)
    (body : ∀ p e s m args below meth c, cx_ p s m args c b maxL y.cls D tc sz tk → meth.sig.returnType = ret → meth.locks = false → (∀ x ∈ c.exceptionTable.toList, False) →
      pm_G p l e rm s m args below meth c (vx_MQ below (pm_Q D cl_ sz none n post) (xc_ D sz n w xp) args s rm.cells rm.slots (fun q => sz ≤ q)) D cl_ sz maxL none n 0 0 w 0 (lv_args 0 As) []) :
    xm_ l y b maxL ret rm D tc sz tk As n w post xp := by
  refine vx_ofW hy rfl ?_
  intro p e s m args below meth c s₁ B hml hx hv
  obtain ⟨rfl, hP, hK, hsz, hh, hst⟩ := hv
  rw [lg_entry_eq]
  exact body p e s m _ below meth c ⟨⟨_, ⟨B.exec, B.bytes, hml, findClass_of_methodNamed B.named, atoms_spec (ws := .code y b maxL ret :: gw_) B.pre⟩⟩, hK, hsz, hst⟩ B.returns B.notSynchronized hx s.heap [] _ (lv_entry As hA) hP va_S.rf hh
theorem xr_ {XC : String → State → State → Prop} {Qc : Array Value → State → Outcome → State → Prop} {free : Addr → Prop} (k : pm_G p l e R s m args below meth c (MQ below Qc args s mc ms free) D cl_ sz nL none n cells slots w pc lv st) :
    pm_G p l e R s m args below meth c (vx_MQ below Qc XC args s mc ms free) D cl_ sz nL none n cells slots w pc lv st := fun H locs ls hl hP hS hh => vx_ret (k H locs ls hl hP hS hh)
theorem xt_ {cls text : String} {names : List String} {ik is ic sa : Nat} {Qc : Array Value → State → Outcome → State → Prop} (X : cx_ p s m args c cc nL own D tc sz tk) (hl : l.stackTraces = false) (hcls : Bundle.fit cls = true) (hnames : ∀ n ∈ names, Bundle.fit n = true) (hk : Cond.classLink own ik cls ∈ gw_) (hini : Cond.initialized cls ∈ gw_) (hstr : vk_R own is text sa s)
    (hat : ∀ w ∈ (vx_atS own ic cls names).filter goodWord, w ∈ gw_) (hat2 : ∀ w ∈ (vx_atS own ic cls names).filter (fun w => !goodWord w), w ∈ nw_) (hgood : ∀ w ∈ Cond.classLink own ik cls :: Cond.initialized cls :: vx_atS own ic cls names, vx_ot w = true)
    (d0 : decode cc pc = .ok (.new ik, 3)) (d3 : decode cc (pc + 3) = .ok (.dup, 1)) (d4 : decode cc (pc + 4) = .ok (.ldc is, 2)) (d6 : decode cc (pc + 6) = .ok (.invokespecial ic, 3)) (d9 : decode cc (pc + 9) = .ok (.athrow, 1))
    (hout : ∀ x ∈ c.exceptionTable.toList, False) (hRf : names.length + 3 < R.frames) (hRl : (st.map fun v => v.category).sum + (13 * (names.length + 1) + 43) ≤ R.locals) (hRc : cells + 1 ≤ R.cells) (hRs : slots + 6 ≤ R.slots) (hlocks : meth.locks = false) (hxp : xp cls) (hc : cells + 1 ≤ mc) (hs : slots + 6 ≤ ms) :
    pm_G p l e R s m args below meth c (vx_MQ below Qc (xc_ D sz n w xp) args s mc ms (fun q => sz ≤ q)) D cl_ sz nL none n cells slots w pc lv st := by
  obtain ⟨⟨c0, S⟩, hK, hsz, hSt⟩ := X
  have hts : ∀ w ∈ gw_, w.before args s = true := fun w h => S.2.2.2.2 w (List.mem_cons_of_mem _ h)
  intro H locs ls hlv hP hS hh
  exact vx_throwS (A := fun q => sz ≤ q) S.1 S.2.1 hl S.2.2.2.1 hcls hnames (hts _ hk) (hts _ hini) hstr (vx_hat (fun w hw => hts w (hat w hw)) hat2 (fun w hw => va_Nw.use (nw_ot w hw) (hSt.1 w hw))) hgood hSt.2.2.2.2.2.1.1 hSt.2.2.2.2.2.1.2 hS (hlv.1.trans S.2.2.1.symm) d0 d3 d4 d6 d9 (fun x hx => (hout x hx).elim) hRf hRl hRc hRs hlocks
    (fun t _ hz hk => ⟨hxp, hP.kept (fun k x hx => hk x.1 ((hP k x hx).lt)), Nat.le_trans hS.1 hz, fun q h1 h2 => (hk q (Nat.lt_of_lt_of_le h1 hS.1)).trans (hS.2.1 q h1 h2)⟩) hS.2.2 hc hs
def gx_ (p : Program) (l : Launch) (e : Env) (R : Room) (s : State) (m : MethodId) (args : Array Value) (below : List Frame) (meth : Method) (c : Code) (Q : State → Prop) (D : va_G) (sz nL n cells slots : Nat) (w : Nat → va_E) (pc : Nat) (lv : List (Nat × Value)) (E : String) : Prop :=
  ∀ (H : Heap) (locs : List Loc) (ls : Array Slot) (q : Addr) (ce : Cell) (rest : List Value), lv_has ls nL lv → va_P D cl_ (pm_L sz n w) H → va_S (fun q => sz ≤ q) s.heap H locs → H[q]? = some ce → ce.vm = .none → s.vm.findClass E = some ce.cls → vx_W p l e R s m args below meth c H locs cells slots Q (F0 m pc ls rest) q
theorem xo_ {E : String} {Qc : Array Value → State → Outcome → State → Prop} (hout : ∀ x ∈ c.exceptionTable.toList, False) (hlocks : meth.locks = false) (hxp : xp E) (hc : cells ≤ mc) (hs : slots ≤ ms) :
    gx_ p l e R s m args below meth c (vx_MQ below Qc (xc_ D sz n w xp) args s mc ms (fun q => sz ≤ q)) D sz nL n cells slots w pc lv E := by
  intro H locs ls q ce rest hl hP hS hce hcv hcl
  exact vx_out (fun x hx => (hout x hx).elim) hlocks hce hcv hcl (fun t ht _ => ⟨hxp, by rw [ht]; exact hP, hS.F ht⟩) hS.2.2 hc hs
theorem xm_call {a : Array Value} {rest : List Value} {XC : String → State → State → Prop} {mc1 ms1 : Nat} (hXC : XC = xc_ D sz n w xp)
    (hr : ∀ (H : Heap) (locs : List Loc) (ls : Array Slot), ls.size = nL → va_P D cl_ (pm_L sz n w) H → va_S (fun q => sz ≤ q) s.heap H locs → vx_Run p l e R s m args below meth c H locs cells slots mc1 ms1 (F0 m pc ls st) rest (pm_Q D cl_ sz none n post a) XC (fun q => sz ≤ q))
    (kk : ∀ (v : Option Value) (w' : Nat → va_E), post v w' → pm_G p l e R s m args below meth c Q D cl_ sz nL none n (cells + mc1) (slots + ms1) w' (pc + 3) lv (v.toList ++ rest))
    (kx : ∀ E, xp E → gx_ p l e R s m args below meth c Q D sz nL n (cells + mc1) (slots + ms1) w pc lv E) : pm_G p l e R s m args below meth c Q D cl_ sz nL none n cells slots w pc lv st := by
  subst hXC
  intro H locs ls hl hP hS hh T hT X
  rcases hr H locs ls hl.1 hP hS T hT X with ⟨v, st₀, t, T', L, h0, X', hL, e1, e2, ⟨⟨v', w', hv, hp, hP1, hz1⟩, hF⟩, stp⟩ | ⟨q, st₀, t, T', L, E, ce, h0, X', hL, e1, e2, ⟨hxE, hPx, hF⟩, hce, hcv, hcl, stp⟩
  · cases hv
    obtain ⟨k1, k2, k3⟩ := vx_keep (A0 := fun q => sz ≤ q) (H0 := s.heap) h0 e1 hS (fun _ _ h => h) (fun _ h => h) hL hF
    obtain ⟨t2, a1, b1⟩ := kk v w' hp T'.heap (locs ++ L) ls hl (by rw [e1]; exact hP1) k3 (fun k hk => by cases hk) T' rfl X'
    exact ⟨t2, stp t2 a1, b1⟩
  · obtain ⟨k1, k2, k3⟩ := vx_keep (A0 := fun q => sz ≤ q) (H0 := s.heap) h0 e1 hS (fun _ _ h => h) (fun _ h => h) hL hF
    obtain ⟨t2, a1, b1⟩ := kx E hxE T'.heap (locs ++ L) ls q ce rest hl (by rw [e1]; exact hPx) k3 (by rw [e1]; exact hce) hcv hcl T' rfl X'
    exact ⟨t2, stp.trans a1, b1⟩
theorem xm_V {y : MethodName} {b : ByteArray} {maxL : Nat} {ret : Option FieldType} {rm : Room} {As rest : List Value} {k na index ci N : Nat} {fs : List Value} {C : String} {T : u_T}
    (X : cx_ p s m args c cc nL own D tc sz tk) (hM : xm_ l y b maxL ret rm D tc sz tk (.ref (sz + k) :: As) n w post xp) (hc : cv_ C y b maxL ret na) (hlk : Cond.methodLink own index y ∈ gw_)
    (hk : k < n) (hw : w k = .inr (ci, fs)) (hcl : cl_[ci]? = some (C, T, N)) (hn : As.length = na) (hs0 : st = As.reverse ++ .ref (sz + k) :: rest) (hcat : (rest.map fun v => v.category).sum ≤ 8) (hd : decode cc pc = .ok (.invokevirtual index, 3))
    (hR : rm.frames + 1 ≤ R.frames ∧ 8 + (maxL + 11) + rm.locals ≤ R.locals) (hf : cells + rm.cells ≤ R.cells ∧ slots + rm.slots ≤ R.slots)
    (kx : ∀ E, xp E → gx_ p l e R s m args below meth c Q D sz nL n (cells + rm.cells) (slots + rm.slots) w pc lv E)
    (kk : ∀ (v : Option Value) (w' : Nat → va_E), post v w' → pm_G p l e R s m args below meth c Q D cl_ sz nL none n (cells + rm.cells) (slots + rm.slots) w' (pc + 3) lv (v.toList ++ rest)) : pm_G p l e R s m args below meth c Q D cl_ sz nL none n cells slots w pc lv st := by
  obtain ⟨⟨c0, S⟩, hK, hsz, hSt⟩ := X
  obtain ⟨q1, q2, q3, q4, q5, q6, q7⟩ := hc
  have hts : ∀ w ∈ gw_, w.before args s = true := fun w h => S.2.2.2.2 w (List.mem_cons_of_mem _ h)
  refine xm_call (a := (Value.ref (sz + k) :: As).toArray) (rest := rest) rfl (fun H locs ls hls hP hS => ?_) kk kx
  have hg : (pm_L sz n w)[k]? = some (sz + k, .inr (ci, fs)) := by rw [pm_L_get hk, hw]
  exact vx_runV (C := C) (b := sz + k) (As := As) S hM ⟨callB_of na S.2.2.2.2 (gi_ q4) rfl rfl rfl (hts _ q3) (hts _ hlk) ⟨q5, q6, q7⟩ hR, hts _ q1, hts _ q2⟩
    ⟨pm_blind (St_stb sz tk), va_recv hK hP hcl hg, pm_pre (St_stb sz tk) hK hsz hSt hP hS (fun k hk => by cases hk)⟩ rfl hn hls hs0 (lv_room hcat) hd hf
theorem xm_S {y : MethodName} {b : ByteArray} {maxL : Nat} {ret : Option FieldType} {rm : Room} {As rest : List Value} {na index : Nat}
    (X : cx_ p s m args c cc nL own D tc sz tk) (hM : xm_ l y b maxL ret rm D tc sz tk As n w post xp) (hc : cs_ y b maxL ret na) (hlk : Cond.methodLink own index y ∈ gw_)
    (hn : As.length = na) (hs0 : st = As.reverse ++ rest) (hcat : (rest.map fun v => v.category).sum ≤ 8) (hd : decode cc pc = .ok (.invokestatic index, 3))
    (hR : rm.frames + 1 ≤ R.frames ∧ 8 + (maxL + 11) + rm.locals ≤ R.locals) (hf : cells + rm.cells ≤ R.cells ∧ slots + rm.slots ≤ R.slots)
    (kx : ∀ E, xp E → gx_ p l e R s m args below meth c Q D sz nL n (cells + rm.cells) (slots + rm.slots) w pc lv E)
    (kk : ∀ (v : Option Value) (w' : Nat → va_E), post v w' → pm_G p l e R s m args below meth c Q D cl_ sz nL none n (cells + rm.cells) (slots + rm.slots) w' (pc + 3) lv (v.toList ++ rest)) : pm_G p l e R s m args below meth c Q D cl_ sz nL none n cells slots w pc lv st := by
  obtain ⟨⟨c0, S⟩, hK, hsz, hSt⟩ := X
  obtain ⟨q1, q3, q4, q5, q6, q7⟩ := hc
  have hts : ∀ w ∈ gw_, w.before args s = true := fun w h => S.2.2.2.2 w (List.mem_cons_of_mem _ h)
  refine xm_call (a := As.toArray) (rest := rest) rfl (fun H locs ls hls hP hS => ?_) kk kx
  exact vx_runS (As := As) S hM ⟨callB_of na S.2.2.2.2 (gi_ q4) rfl rfl rfl (hts _ q3) (hts _ hlk) ⟨q5, q6, q7⟩ hR, hts _ q1⟩
    ⟨pm_blind (St_stb sz tk), pm_pre (St_stb sz tk) hK hsz hSt hP hS (fun k hk => by cases hk)⟩ rfl hn hls hs0 (lv_room hcat) hd hf
end XR
