section PMQ
def pm_stb (sz : Nat) (St : State → Prop) : Prop := ∀ U V : State, U.WarmedH V.vm → U.heap.size ≤ V.heap.size → (∀ q : Nat, q < U.heap.size → ¬ sz ≤ q → V.heap[q]? = U.heap[q]?) → St U → St V
def pm_P (D : va_G) (cl : List vw_C) (tc : Nat → ClassId) (sz : Nat) (St : State → Prop) (As : List Value) (hz : Option Nat) (n : Nat) (w : Nat → va_E) : Array Value → State → Prop :=
  va_Pc As (fun U => va_P D cl (pm_L sz n w) U.heap ∧ va_K D cl (pm_T tc) U ∧ sz ≤ U.heap.size ∧ (∀ k, hz = some k → U.heap.size = k) ∧ St U)
def pm_Q (D : va_G) (cl : List vw_C) (sz : Nat) (hz : Option Nat) (n : Nat) (post : Option Value → (Nat → va_E) → Prop) : Array Value → State → Outcome → State → Prop := fun _ st oc t =>
  (∃ (v : Option Value) (w : Nat → va_E), oc = .returned v ∧ post v w ∧ va_P D cl (pm_L sz n w) t.heap ∧ ∀ k, hz = some k → t.heap.size = k) ∧ va_F (fun q => sz ≤ q) st t
def pm_M (l : Launch) (y : MethodName) (ws : List Cond) (rm : Room) (D : va_G) (cl : List vw_C) (tc : Nat → ClassId) (sz : Nat) (St : State → Prop) (As : List Value) (hz : Option Nat) (n : Nat) (w : Nat → va_E) (hz' : Option Nat) (n' : Nat) (post : Option Value → (Nat → va_E) → Prop) : Prop :=
  Met l y ws rm (pm_P D cl tc sz St As hz n w) (pm_Q D cl sz hz' n' post) rm.cells rm.slots (fun q => sz ≤ q)
theorem pm_blind {D : va_G} {cl : List vw_C} {tc : Nat → ClassId} {sz : Nat} {St : State → Prop} (hst : pm_stb sz St) {As : List Value} {hz : Option Nat} {n : Nat} {w : Nat → va_E} : FrameBlind (pm_P D cl tc sz St As hz n w) := by
  intro a U g mk h
  obtain ⟨h1, h2, h3, h4, h5, h6⟩ := h
  exact ⟨h1, h2, va_K.moved (u := U) (U := U.calling g mk a) (Vm.Alike.refl U.vm) h3, h4, h5, hst U (U.calling g mk a) (State.WarmedH.refl U) (Nat.le_refl _) (fun _ _ _ => rfl) h6⟩
variable {p : Program} {l : Launch} {e : Env} {R : Room} {s : State} {m : MethodId} {args : Array Value} {below : List Frame} {meth : Method} {c : Code} {Q : State → Prop} {cells slots : Nat}
variable {cc : ByteArray} {own : String} {D : va_G} {cl : List vw_C} {tc : Nat → ClassId} {sz nL n pc : Nat} {hz : Option Nat} {w : Nat → va_E} {lv : List (Nat × Value)} {st : List Value} {St : State → Prop}
theorem pm_ofG {y : MethodName} {ws ws' : List Cond} {rm : Room} {maxL : Nat} {ret : Option FieldType} {As : List Value} {hz' : Option Nat} {n' : Nat} {post : Option Value → (Nat → va_E) → Prop} (hy : plainName y.cls = true) (hw : ws = Cond.code y cc maxL ret :: ws') (hA : (lg_sl As).length ≤ maxL)
    (body : ∀ p e s m args below meth c, CallFix p m c cc maxL s args ws y.cls → meth.sig.returnType = ret → meth.locks = false → (s.methodNamed? y = some m ∧ s.vm.method? m = some meth) → va_K D cl (pm_T tc) s → sz ≤ s.heap.size → St s →
      pm_G p l e rm s m args below meth c (MQ below (pm_Q D cl sz hz' n' post) args s rm.cells rm.slots (fun q => sz ≤ q)) D cl sz maxL hz n 0 0 w 0 (lv_args 0 As) []) :
    pm_M l y ws rm D cl tc sz St As hz n w hz' n' post := by
  refine Met.ofW hy hw ?_
  intro p e s m args below meth c s₁ B hml hv
  obtain ⟨rfl, hP, hK, hsz, hh, hst⟩ := hv
  rw [lg_entry_eq]
  exact body p e s m _ below meth c ⟨B.exec, B.bytes, hml, findClass_of_methodNamed B.named, atoms_spec (ws := ws) B.pre⟩ B.returns B.notSynchronized ⟨B.named, B.method⟩ hK hsz hst s.heap [] _ (lv_entry As hA) hP va_S.rf hh
theorem pm_iret {post : Option Value → (Nat → va_E) → Prop} {mc ms : Nat} {v : Int32} (hx : p.tables.exec = Jvm.exec) (hb : c.code = cc) (hr : meth.sig.returnType = some .int) (hlocks : meth.locks = false) (hd : decode cc pc = .ok (.ireturn, 1)) (hp : post (some (.int v)) w) (hc : cells ≤ mc) (hs : slots ≤ ms) :
    pm_G p l e R s m args below meth c (MQ below (pm_Q D cl sz hz n post) args s mc ms (fun q => sz ≤ q)) D cl sz nL hz n cells slots w pc lv [.int v] := by
  intro H locs ls hl hP hS hh
  refine W.widen hc hs ?_
  exact W.iret hx hb hr (fun t ht hW => ⟨⟨some (.int v), w, rfl, hp, by rw [ht]; exact hP, fun k hk => by rw [ht]; exact hh k hk⟩, hS.F ht⟩) hS.2.2 hd hlocks
theorem pm_zret {post : Option Value → (Nat → va_E) → Prop} {mc ms : Nat} {v : Int32} (hx : p.tables.exec = Jvm.exec) (hb : c.code = cc) (hr : meth.sig.returnType = some .boolean) (hn : narrow .boolean (.int v) = .int v) (hlocks : meth.locks = false) (hd : decode cc pc = .ok (.ireturn, 1)) (hp : post (some (.int v)) w) (hc : cells ≤ mc) (hs : slots ≤ ms) :
    pm_G p l e R s m args below meth c (MQ below (pm_Q D cl sz hz n post) args s mc ms (fun q => sz ≤ q)) D cl sz nL hz n cells slots w pc lv [.int v] := by
  intro H locs ls hl hP hS hh
  refine W.widen hc hs ?_
  exact W.zret hx hb hr hn (fun t ht hW => ⟨⟨some (.int v), w, rfl, hp, by rw [ht]; exact hP, fun k hk => by rw [ht]; exact hh k hk⟩, hS.F ht⟩) hS.2.2 hd hlocks
theorem pm_lret {post : Option Value → (Nat → va_E) → Prop} {mc ms : Nat} {v : Int64} (hx : p.tables.exec = Jvm.exec) (hb : c.code = cc) (hr : meth.sig.returnType = some .long) (hlocks : meth.locks = false) (hd : decode cc pc = .ok (.lreturn, 1)) (hp : post (some (.long v)) w) (hc : cells ≤ mc) (hs : slots ≤ ms) :
    pm_G p l e R s m args below meth c (MQ below (pm_Q D cl sz hz n post) args s mc ms (fun q => sz ≤ q)) D cl sz nL hz n cells slots w pc lv [.long v] := by
  intro H locs ls hl hP hS hh
  refine W.widen hc hs ?_
  exact W.lret hx hb hr (fun t ht hW => ⟨⟨some (.long v), w, rfl, hp, by rw [ht]; exact hP, fun k hk => by rw [ht]; exact hh k hk⟩, hS.F ht⟩) hS.2.2 hd hlocks
theorem pm_aret {post : Option Value → (Nat → va_E) → Prop} {mc ms a : Nat} {C : String} (hx : p.tables.exec = Jvm.exec) (hb : c.code = cc) (hr : meth.sig.returnType = some (.object C)) (hlocks : meth.locks = false) (hd : decode cc pc = .ok (.areturn, 1)) (hp : post (some (.ref a)) w) (hc : cells ≤ mc) (hs : slots ≤ ms) :
    pm_G p l e R s m args below meth c (MQ below (pm_Q D cl sz hz n post) args s mc ms (fun q => sz ≤ q)) D cl sz nL hz n cells slots w pc lv [.ref a] := by
  intro H locs ls hl hP hS hh
  refine W.widen hc hs ?_
  exact W.aret hx hb hr (Or.inl ⟨_, rfl⟩) (Or.inr ⟨_, rfl⟩) (fun t ht hW => ⟨⟨some (.ref a), w, rfl, hp, by rw [ht]; exact hP, fun k hk => by rw [ht]; exact hh k hk⟩, hS.F ht⟩) hS.2.2 hd hlocks
theorem pm_vret {post : Option Value → (Nat → va_E) → Prop} {mc ms : Nat} (hx : p.tables.exec = Jvm.exec) (hb : c.code = cc) (hr : meth.sig.returnType = none) (hlocks : meth.locks = false) (hd : decode cc pc = .ok (.return_, 1)) (hp : post none w) (hc : cells ≤ mc) (hs : slots ≤ ms) :
    pm_G p l e R s m args below meth c (MQ below (pm_Q D cl sz hz n post) args s mc ms (fun q => sz ≤ q)) D cl sz nL hz n cells slots w pc lv [] := by
  intro H locs ls hl hP hS hh
  refine W.widen hc hs ?_
  exact W.vret hx hb hr (fun t ht hW => ⟨⟨none, w, rfl, hp, by rw [ht]; exact hP, fun k hk => by rw [ht]; exact hh k hk⟩, hS.F ht⟩) hS.2.2 hd hlocks
theorem pm_G.sub {lv' : List (Nat × Value)} (h : ∀ q ∈ lv', q ∈ lv) (k : pm_G p l e R s m args below meth c Q D cl sz nL hz n cells slots w pc lv' st) : pm_G p l e R s m args below meth c Q D cl sz nL hz n cells slots w pc lv st :=
  fun H locs ls hl hP hS hh => k H locs ls ⟨hl.1, hl.2.1, fun q hq => hl.2.2 q (h q hq)⟩ hP hS hh
theorem pm_G.wide {k1 k2 : Nat} (h1 : cells ≤ k1) (h2 : slots ≤ k2) (k : pm_G p l e R s m args below meth c Q D cl sz nL hz n k1 k2 w pc lv st) : pm_G p l e R s m args below meth c Q D cl sz nL hz n cells slots w pc lv st :=
  fun H locs ls hl hP hS hh => W.widen h1 h2 (k H locs ls hl hP hS hh)
theorem pm_call {hz' : Option Nat} {n' mc ms : Nat} {post : Option Value → (Nat → va_E) → Prop} {a : Array Value} {rest : List Value}
    (hr : ∀ (H : Heap) (locs : List Loc) (ls : Array Slot), ls.size = nL → va_P D cl (pm_L sz n w) H → va_S (fun q => sz ≤ q) s.heap H locs → (∀ k, hz = some k → H.size = k) → va_Run p l e R s m args below meth c H locs cells slots mc ms (F0 m pc ls st) rest (pm_Q D cl sz hz' n' post a) (fun q => sz ≤ q))
    (kk : ∀ (v : Option Value) (w' : Nat → va_E), post v w' → pm_G p l e R s m args below meth c Q D cl sz nL hz' n' (cells + mc) (slots + ms) w' (pc + 3) lv (v.toList ++ rest)) : pm_G p l e R s m args below meth c Q D cl sz nL hz n cells slots w pc lv st := by
  intro H locs ls hl hP hS hh T hT X
  obtain ⟨v, st₀, t, T', L, h0, X', hL, e1, e2, ⟨⟨v', w', hv, hp, hP1, hz1⟩, hzF, hk⟩, stp⟩ := hr H locs ls hl.1 hP hS hh T hT X
  cases hv
  rw [h0] at hzF hk
  obtain ⟨t2, a1, b1⟩ := kk v w' hp T'.heap (locs ++ L) ls hl (by rw [e1]; exact hP1)
    ⟨Nat.le_trans hS.1 (by rw [e1]; exact hzF), fun q h1 h2 => by rw [e1, hk q (Nat.lt_of_lt_of_le h1 hS.1) h2]; exact hS.2.1 q h1 h2, fun q hq => by
      rcases List.mem_append.mp hq with h | h
      · exact hS.2.2 q h
      · exact hL q h⟩ (fun k hk => by rw [e1]; exact hz1 k hk) T' rfl X'
  exact ⟨t2, stp t2 a1, b1⟩
theorem pm_pre (hst : pm_stb sz St) (hK : va_K D cl (pm_T tc) s) (hsz : sz ≤ s.heap.size) (hS0 : St s) {H : Heap} {locs : List Loc} (hP : va_P D cl (pm_L sz n w) H) (hS : va_S (fun q => sz ≤ q) s.heap H locs) (hh : ∀ k, hz = some k → H.size = k) {As : List Value} :
    ∀ U : State, U.heap = H → s.WarmedH U.vm → pm_P D cl tc sz St As hz n w As.toArray U := by
  intro U hU hW
  subst hU
  exact ⟨rfl, hP, va_K.moved hW.alike hK, Nat.le_trans hsz hS.1, hh, hst s U hW hS.1 (fun q h1 h2 => hS.2.1 q h1 h2) hS0⟩
end PMQ
