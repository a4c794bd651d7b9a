section
-- ===== PART A: goes FIRST, ahead of the names: the tables' words, and 'selects' of the private methods out of them =====
/-- a private method of a class that the tables say can be made, by its rows of tables_1 -/
def lw_okq (q : MethodName × Nat) : Prop := (q.1.cls ≠ "java/lang/invoke/MethodHandle" ∧ q.1.cls ≠ "java/lang/invoke/VarHandle") ∧ Cond.instantiable q.1.cls q.2 ∈ tables_1 ∧ Cond.privateMethod q.1 ∈ tables_1 ∧ Cond.instanceMethod q.1 ∈ tables_1
theorem lw_p0 : lw_okq (⟨"java/lang/Throwable", "fillInStackTrace", "(I)Ljava/lang/Throwable;"⟩, 6) := ⟨⟨by decide +kernel, by decide +kernel⟩, List.mem_of_getElem? (i := 212) (by decide +kernel), List.mem_of_getElem? (i := 210) (by decide +kernel), List.mem_of_getElem? (i := 211) (by decide +kernel)⟩
theorem lw_p1 : lw_okq (⟨"LatticeWraps$Shaker", "mixColumns", "()V"⟩, 4) := ⟨⟨by decide +kernel, by decide +kernel⟩, List.mem_of_getElem? (i := 35) (by decide +kernel), List.mem_of_getElem? (i := 273) (by decide +kernel), List.mem_of_getElem? (i := 274) (by decide +kernel)⟩
theorem lw_p2 : lw_okq (⟨"LatticeWraps$Shaker", "moveLanes", "()V"⟩, 4) := ⟨⟨by decide +kernel, by decide +kernel⟩, List.mem_of_getElem? (i := 35) (by decide +kernel), List.mem_of_getElem? (i := 280) (by decide +kernel), List.mem_of_getElem? (i := 281) (by decide +kernel)⟩
theorem lw_p3 : lw_okq (⟨"LatticeWraps$Shaker", "mixRows", "()V"⟩, 4) := ⟨⟨by decide +kernel, by decide +kernel⟩, List.mem_of_getElem? (i := 35) (by decide +kernel), List.mem_of_getElem? (i := 288) (by decide +kernel), List.mem_of_getElem? (i := 289) (by decide +kernel)⟩
theorem lw_p4 : lw_okq (⟨"LatticeWraps$Key", "fillA", "(JLLatticeWraps$Shaker;)V"⟩, 8) := ⟨⟨by decide +kernel, by decide +kernel⟩, List.mem_of_getElem? (i := 98) (by decide +kernel), List.mem_of_getElem? (i := 297) (by decide +kernel), List.mem_of_getElem? (i := 298) (by decide +kernel)⟩
theorem lw_p5 : lw_okq (⟨"LatticeWraps$Desk", "takeNoise", "(J)V"⟩, 8) := ⟨⟨by decide +kernel, by decide +kernel⟩, List.mem_of_getElem? (i := 29) (by decide +kernel), List.mem_of_getElem? (i := 381) (by decide +kernel), List.mem_of_getElem? (i := 382) (by decide +kernel)⟩
theorem lw_p6 : lw_okq (⟨"LatticeWraps$Desk", "addCode", "(I)V"⟩, 8) := ⟨⟨by decide +kernel, by decide +kernel⟩, List.mem_of_getElem? (i := 29) (by decide +kernel), List.mem_of_getElem? (i := 388) (by decide +kernel), List.mem_of_getElem? (i := 389) (by decide +kernel)⟩
theorem lw_p7 : lw_okq (⟨"LatticeWraps", "refuseUnreadable", "(II)V"⟩, 3) := ⟨⟨by decide +kernel, by decide +kernel⟩, List.mem_of_getElem? (i := 17) (by decide +kernel), List.mem_of_getElem? (i := 407) (by decide +kernel), List.mem_of_getElem? (i := 408) (by decide +kernel)⟩
theorem lw_p8 : lw_okq (⟨"LatticeWraps$Desk", "isAgain", "([I)Z"⟩, 8) := ⟨⟨by decide +kernel, by decide +kernel⟩, List.mem_of_getElem? (i := 29) (by decide +kernel), List.mem_of_getElem? (i := 428) (by decide +kernel), List.mem_of_getElem? (i := 429) (by decide +kernel)⟩
theorem lw_p9 : lw_okq (⟨"LatticeWraps", "refuseNoWrapByte", "(II)V"⟩, 3) := ⟨⟨by decide +kernel, by decide +kernel⟩, List.mem_of_getElem? (i := 17) (by decide +kernel), List.mem_of_getElem? (i := 440) (by decide +kernel), List.mem_of_getElem? (i := 441) (by decide +kernel)⟩
theorem lw_p10 : lw_okq (⟨"LatticeWrapsModel", "addBytes", "(JI)V"⟩, 22) := ⟨⟨by decide +kernel, by decide +kernel⟩, List.mem_of_getElem? (i := 549) (by decide +kernel), List.mem_of_getElem? (i := 634) (by decide +kernel), List.mem_of_getElem? (i := 635) (by decide +kernel)⟩
theorem lw_p11 : lw_okq (⟨"LatticeWrapsModel", "shakeRow", "(I)V"⟩, 22) := ⟨⟨by decide +kernel, by decide +kernel⟩, List.mem_of_getElem? (i := 549) (by decide +kernel), List.mem_of_getElem? (i := 639) (by decide +kernel), List.mem_of_getElem? (i := 640) (by decide +kernel)⟩
theorem lw_p12 : lw_okq (⟨"LatticeWrapsModel", "round", "(I)V"⟩, 22) := ⟨⟨by decide +kernel, by decide +kernel⟩, List.mem_of_getElem? (i := 549) (by decide +kernel), List.mem_of_getElem? (i := 644) (by decide +kernel), List.mem_of_getElem? (i := 645) (by decide +kernel)⟩
theorem lw_p13 : lw_okq (⟨"LatticeWrapsModel", "longAt", "(I)J"⟩, 22) := ⟨⟨by decide +kernel, by decide +kernel⟩, List.mem_of_getElem? (i := 549) (by decide +kernel), List.mem_of_getElem? (i := 652) (by decide +kernel), List.mem_of_getElem? (i := 653) (by decide +kernel)⟩
theorem lw_p14 : lw_okq (⟨"LatticeWrapsModel", "sampleAt", "(I)I"⟩, 22) := ⟨⟨by decide +kernel, by decide +kernel⟩, List.mem_of_getElem? (i := 549) (by decide +kernel), List.mem_of_getElem? (i := 657) (by decide +kernel), List.mem_of_getElem? (i := 658) (by decide +kernel)⟩
theorem lw_p15 : lw_okq (⟨"LatticeWrapsModel", "pairAt", "(I)I"⟩, 22) := ⟨⟨by decide +kernel, by decide +kernel⟩, List.mem_of_getElem? (i := 549) (by decide +kernel), List.mem_of_getElem? (i := 661) (by decide +kernel), List.mem_of_getElem? (i := 662) (by decide +kernel)⟩
def lw_privs_1 : List (MethodName × Nat) := [(⟨"java/lang/Throwable", "fillInStackTrace", "(I)Ljava/lang/Throwable;"⟩, 6), (⟨"LatticeWraps$Shaker", "mixColumns", "()V"⟩, 4), (⟨"LatticeWraps$Shaker", "moveLanes", "()V"⟩, 4), (⟨"LatticeWraps$Shaker", "mixRows", "()V"⟩, 4), (⟨"LatticeWraps$Key", "fillA", "(JLLatticeWraps$Shaker;)V"⟩, 8), (⟨"LatticeWraps$Desk", "takeNoise", "(J)V"⟩, 8), (⟨"LatticeWraps$Desk", "addCode", "(I)V"⟩, 8), (⟨"LatticeWraps", "refuseUnreadable", "(II)V"⟩, 3), (⟨"LatticeWraps$Desk", "isAgain", "([I)Z"⟩, 8), (⟨"LatticeWraps", "refuseNoWrapByte", "(II)V"⟩, 3), (⟨"LatticeWrapsModel", "addBytes", "(JI)V"⟩, 22), (⟨"LatticeWrapsModel", "shakeRow", "(I)V"⟩, 22), (⟨"LatticeWrapsModel", "round", "(I)V"⟩, 22), (⟨"LatticeWrapsModel", "longAt", "(I)J"⟩, 22), (⟨"LatticeWrapsModel", "sampleAt", "(I)I"⟩, 22), (⟨"LatticeWrapsModel", "pairAt", "(I)I"⟩, 22)]
theorem lw_r1 : ∀ q ∈ lw_privs_1, lw_okq q := List.forall_mem_cons.mpr ⟨lw_p0, List.forall_mem_cons.mpr ⟨lw_p1, List.forall_mem_cons.mpr ⟨lw_p2, List.forall_mem_cons.mpr ⟨lw_p3, List.forall_mem_cons.mpr ⟨lw_p4, List.forall_mem_cons.mpr ⟨lw_p5, List.forall_mem_cons.mpr ⟨lw_p6, List.forall_mem_cons.mpr ⟨lw_p7, List.forall_mem_cons.mpr ⟨lw_p8, List.forall_mem_cons.mpr ⟨lw_p9, List.forall_mem_cons.mpr ⟨lw_p10, List.forall_mem_cons.mpr ⟨lw_p11, List.forall_mem_cons.mpr ⟨lw_p12, List.forall_mem_cons.mpr ⟨lw_p13, List.forall_mem_cons.mpr ⟨lw_p14, List.forall_mem_cons.mpr ⟨lw_p15, fun _ h => absurd h List.not_mem_nil⟩⟩⟩⟩⟩⟩⟩⟩⟩⟩⟩⟩⟩⟩⟩⟩
theorem lw_p16 : lw_okq (⟨"LatticeWrapsModel", "expand", "(I)V"⟩, 22) := ⟨⟨by decide +kernel, by decide +kernel⟩, List.mem_of_getElem? (i := 549) (by decide +kernel), List.mem_of_getElem? (i := 669) (by decide +kernel), List.mem_of_getElem? (i := 670) (by decide +kernel)⟩
theorem lw_p17 : lw_okq (⟨"LatticeWrapsModel", "addPublic", "(I)V"⟩, 22) := ⟨⟨by decide +kernel, by decide +kernel⟩, List.mem_of_getElem? (i := 549) (by decide +kernel), List.mem_of_getElem? (i := 673) (by decide +kernel), List.mem_of_getElem? (i := 674) (by decide +kernel)⟩
theorem lw_p18 : lw_okq (⟨"LatticeWrapsModel", "wrapInto", "(III)J"⟩, 22) := ⟨⟨by decide +kernel, by decide +kernel⟩, List.mem_of_getElem? (i := 549) (by decide +kernel), List.mem_of_getElem? (i := 684) (by decide +kernel), List.mem_of_getElem? (i := 685) (by decide +kernel)⟩
theorem lw_p19 : lw_okq (⟨"LatticeWrapsModel", "addWrap", "(I)V"⟩, 22) := ⟨⟨by decide +kernel, by decide +kernel⟩, List.mem_of_getElem? (i := 549) (by decide +kernel), List.mem_of_getElem? (i := 689) (by decide +kernel), List.mem_of_getElem? (i := 690) (by decide +kernel)⟩
theorem lw_p20 : lw_okq (⟨"LatticeWrapsModel", "refusal", "(II)I"⟩, 22) := ⟨⟨by decide +kernel, by decide +kernel⟩, List.mem_of_getElem? (i := 549) (by decide +kernel), List.mem_of_getElem? (i := 697) (by decide +kernel), List.mem_of_getElem? (i := 698) (by decide +kernel)⟩
theorem lw_p21 : lw_okq (⟨"LatticeWrapsModel", "readFrom", "(II)I"⟩, 22) := ⟨⟨by decide +kernel, by decide +kernel⟩, List.mem_of_getElem? (i := 549) (by decide +kernel), List.mem_of_getElem? (i := 701) (by decide +kernel), List.mem_of_getElem? (i := 702) (by decide +kernel)⟩
theorem lw_p22 : lw_okq (⟨"LatticeWrapsModel", "shifted", "(IIII)I"⟩, 22) := ⟨⟨by decide +kernel, by decide +kernel⟩, List.mem_of_getElem? (i := 549) (by decide +kernel), List.mem_of_getElem? (i := 705) (by decide +kernel), List.mem_of_getElem? (i := 706) (by decide +kernel)⟩
theorem lw_p23 : lw_okq (⟨"LatticeWrapsModel", "wrapEntry", "(II)I"⟩, 22) := ⟨⟨by decide +kernel, by decide +kernel⟩, List.mem_of_getElem? (i := 549) (by decide +kernel), List.mem_of_getElem? (i := 709) (by decide +kernel), List.mem_of_getElem? (i := 710) (by decide +kernel)⟩
theorem lw_p24 : lw_okq (⟨"LatticeWrapsModel", "byteRefusal", "(II)I"⟩, 22) := ⟨⟨by decide +kernel, by decide +kernel⟩, List.mem_of_getElem? (i := 549) (by decide +kernel), List.mem_of_getElem? (i := 717) (by decide +kernel), List.mem_of_getElem? (i := 718) (by decide +kernel)⟩
def lw_privs_2 : List (MethodName × Nat) := [(⟨"LatticeWrapsModel", "expand", "(I)V"⟩, 22), (⟨"LatticeWrapsModel", "addPublic", "(I)V"⟩, 22), (⟨"LatticeWrapsModel", "wrapInto", "(III)J"⟩, 22), (⟨"LatticeWrapsModel", "addWrap", "(I)V"⟩, 22), (⟨"LatticeWrapsModel", "refusal", "(II)I"⟩, 22), (⟨"LatticeWrapsModel", "readFrom", "(II)I"⟩, 22), (⟨"LatticeWrapsModel", "shifted", "(IIII)I"⟩, 22), (⟨"LatticeWrapsModel", "wrapEntry", "(II)I"⟩, 22), (⟨"LatticeWrapsModel", "byteRefusal", "(II)I"⟩, 22)]
theorem lw_r2 : ∀ q ∈ lw_privs_2, lw_okq q := List.forall_mem_cons.mpr ⟨lw_p16, List.forall_mem_cons.mpr ⟨lw_p17, List.forall_mem_cons.mpr ⟨lw_p18, List.forall_mem_cons.mpr ⟨lw_p19, List.forall_mem_cons.mpr ⟨lw_p20, List.forall_mem_cons.mpr ⟨lw_p21, List.forall_mem_cons.mpr ⟨lw_p22, List.forall_mem_cons.mpr ⟨lw_p23, List.forall_mem_cons.mpr ⟨lw_p24, fun _ h => absurd h List.not_mem_nil⟩⟩⟩⟩⟩⟩⟩⟩⟩
def lw_privs : List (MethodName × Nat) := lw_privs_1 ++ (lw_privs_2)
def lw_tbl : List Cond := k2_sels lw_privs ++ tables_1
theorem lw_privs_ok : ∀ q ∈ lw_privs, lw_okq q := by
  show ∀ q ∈ lw_privs_1 ++ (lw_privs_2), lw_okq q
  exact List.forall_mem_append.mpr ⟨lw_r1, lw_r2⟩
-- ===== end of PART A; then your names; then what follows =====
end
section
theorem goodIn_r {big : List Cond} (ws : List Cond) (ps : List Nat) (hp : ws = ps.filterMap (fun i => big[i]?)) (h : ws.all goodWord = true) : GoodIn big ws := by
  intro w hw
  have h1 := List.all_eq_true.mp h w hw
  rw [hp] at hw
  obtain ⟨i, -, hi⟩ := List.mem_filterMap.mp hw
  have hm : w ∈ big := by first | exact List.mem_of_getElem? hi | exact List.getElem?_mem hi
  exact ⟨hm, good_of_word h1⟩
theorem goodIn_app {big a b : List Cond} (ha : GoodIn big a) (hb : GoodIn big b) : GoodIn big (a ++ b) := fun w h => (List.mem_append.mp h).elim (ha w) (hb w)
theorem goodIn_ca {big a b : List Cond} {c : Cond} (ha : GoodIn big (c :: a)) (hb : GoodIn big b) : GoodIn big (c :: (a ++ b)) := fun w h => (List.mem_cons.mp h).elim (fun e => ha w (List.mem_cons.mpr (Or.inl e))) (fun h => (List.mem_append.mp h).elim (fun h => ha w (List.mem_cons.mpr (Or.inr h))) (hb w))
theorem goodIn_sub {big ws : List Cond} (hm : ∀ w ∈ ws, w ∈ big) (h : ws.all goodWord = true) : GoodIn big ws := fun w hw => ⟨hm w hw, good_of_word (List.all_eq_true.mp h w hw)⟩

section VXA
def vx_T (XC : String → State → State → Prop) (st : State) (q : Addr) (t : State) (mc ms : Nat) (free : Addr → Prop) : Prop :=
  ∃ (E : String) (ce : Cell) (L : List Loc), XC E st t ∧ t.heap[q]? = some ce ∧ ce.vm = .none ∧ st.vm.findClass E = some ce.cls ∧ st.WarmedH t.vm ∧ st.sameButNew ({ t with vm := st.vm } : State) L mc ms ∧ ∀ z ∈ L, free z.base
def vx_Q (Qc : Array Value → State → Outcome → State → Prop) (XC : String → State → State → Prop) (mc ms : Nat) (free : Addr → Prop) : Array Value → State → Outcome → State → Prop := fun a st o t =>
  (Qc a st o t ∧ ∃ L, FrameEnd st o t L mc ms ∧ ∀ q ∈ L, free q.base) ∨ ∃ q, o = .threw q ∧ vx_T XC st q t mc ms free
def vx_Met (l : Launch) (y : MethodName) (ws : List Cond) (rm : Room) (Pc : Array Value → State → Prop) (Qc : Array Value → State → Outcome → State → Prop) (XC : String → State → State → Prop) (mc ms : Nat) (free : Addr → Prop) : Prop :=
  MetFree l y (headSpec ws rm) Pc (fun _ _ _ _ _ => True) (vx_Q Qc XC mc ms free)
def vx_Post (XC : String → State → State → Prop) (mc ms : Nat) (free : Addr → Prop) : Pt → Array Value → Addr → Pt → Prop := fun A a q B =>
  ∃ (g : JFrame) (mk : MethodId) (t : State) (L : List Loc) (E : String) (ce : Cell), B.U.heap = t.heap ∧ B.U.vm = t.vm ∧ XC E (A.U.calling g mk a) t ∧ t.heap[q]? = some ce ∧ ce.vm = .none ∧ A.U.vm.findClass E = some ce.cls ∧ B.locs = A.locs ++ L ∧ (∀ z ∈ L, free z.base) ∧ B.cells = A.cells + mc ∧ B.slots = A.slots + ms
def vx_Back (l : Launch) (R : Room) (p : Program) (e : Env) (below : List Frame) (s : State) (sargs : Array Value) (y : MethodName) (len W9 : Nat)
    (Pre : Pt → Array Value → Prop) (Post : Pt → Array Value → Option Value → Pt → Prop) (PostX : Pt → Array Value → Addr → Pt → Prop) : Prop :=
  ∀ (m : MethodId) (meth : Method) (c : Code) (A : Pt) (g : JFrame) (ig : Instr) (mk : MethodId) (a : Array Value),
    Stand p l e R s m sargs below meth c A.U A.locs A.cells A.slots → g.method = m → g.locals.size = c.maxLocals → decode c.code g.pc = .ok (ig, len) →
    2 * g.monitorRoom + (g.stack.map fun v => v.category).sum ≤ W9 → A.U.methodNamed? y = some mk → Pre A a →
    (∃ (v : Option Value) (B : Pt), Stand p l e R s m sargs below meth c B.U B.locs B.cells B.slots ∧ Post A a v B ∧
      Steps p.tables e below (doInvoke e (A.U.setTop g) [] mk a).1 (B.U.setTop { g with pc := g.pc + len, stack := v.toList ++ g.stack })) ∨
    (∃ (q : Addr) (B : Pt), Stand p l e R s m sargs below meth c B.U B.locs B.cells B.slots ∧ PostX A a q B ∧
      Steps p.tables e below (doInvoke e (A.U.setTop g) [] mk a).1 ((B.U.setTop g).pushFrame (.throwing q)))
section Payer
variable {l : Launch} {R : Room} {p : Program} {e : Env} {below : List Frame} {s : State} {sargs : Array Value} {y : MethodName} {len W9 : Nat}
theorem vx_back {ws : List Cond} {rm : Room} {Pc : Array Value → State → Prop} {Qc : Array Value → State → Outcome → State → Prop} {XC : String → State → State → Prop} {mc ms : Nat} {free : Addr → Prop} {bytes : ByteArray} {maxL : Nat} {ret : Option FieldType}
    (hM : vx_Met l y ws rm Pc Qc XC mc ms free) (hblind : FrameBlind Pc) (hrc : rm.cells = mc) (hrs : rm.slots = ms)
    (hframes : rm.frames + 1 ≤ R.frames) (hlocals : W9 + (maxL + 11) + rm.locals ≤ R.locals)
    (hws : ∀ w ∈ ws, ∀ a' U, s.WarmedH U.vm → w.before a' U = true) (hcode : Cond.code y bytes maxL ret ∈ ws) (hinit : ∀ a' U, s.WarmedH U.vm → (Cond.initialized y.cls).before a' U = true) :
    vx_Back l R p e below s sargs y len W9 (PreOf R mc ms Pc) (PostOf Qc mc ms free) (vx_Post XC mc ms free) := by
  intro m meth c A g ig mk a X hg hsize hdg hW hn hp
  have h1 : (headSpec ws rm).pre.before a A.U = true := atoms_intro fun w hw => hws w hw _ _ X.warmed
  have h2 : (Cond.code y bytes maxL ret).before a A.U = true := hws _ hcode _ _ X.warmed
  have h3 : (Cond.initialized y.cls).before a A.U = true := hinit _ _ X.warmed
  have h4 : A.cells + (headSpec ws rm).room.cells ≤ R.cells := by rw [show (headSpec ws rm).room.cells = mc from hrc]; exact hp.1
  have h5 : A.slots + (headSpec ws rm).room.slots ≤ R.slots := by rw [show (headSpec ws rm).room.slots = ms from hrs]; exact hp.2.1
  have hPc : Pc a (A.U.calling g mk a) := hblind _ _ _ _ hp.2.2
  obtain ⟨U, Ls, c0, s0⟩ := A
  dsimp only [Pt.U, Pt.locs, Pt.cells, Pt.slots] at h1 h2 h3 h4 h5 X hn hPc ⊢
  obtain ⟨methY, cY, hmY, hcY, -, hlY, -, -, -, -⟩ := Cond.code_spec hn h2
  obtain ⟨kY, hkY, -⟩ := className_of_methodNamed hn
  have hinitY : kY.init = .initialized := Cond.initialized_spec (findClass_of_methodNamed hn) hkY h3
  have h : At U g.method c below := by rw [hg]; exact X.here
  have hlocals9 : W9 + (maxL + 11) + (headSpec ws rm).room.locals ≤ R.locals := hlocals
  have happ : (headSpec ws rm).appliesLoose y e.platform (U.calling g mk a) = true :=
    Spec.appliesLoose_calling (g := g) h hdg hn hkY hinitY
      (X.room_calling (g := g) (R' := (headSpec ws rm).room) hsize hmY hcY hframes (by rw [hlY]; omega) h4 h5) h1
  obtain ⟨mid, hmid⟩ := h.above
  have hfr : (U.setTop g).frames = (.java g :: mid) ++ below := by rw [State.frames_setTop' g h.top, hmid]; rfl
  obtain ⟨o, s₂, hsteps, -, hend, hq⟩ := Steps.callFree hM p X.admits X.cas X.clock (acts := []) hfr happ hPc trivial
  have hq' : vx_Q Qc XC mc ms free a (U.calling g mk a) o s₂ := hq
  rw [State.frames_setTop' g h.top] at hend
  obtain ⟨g₀, hg0⟩ := Option.isSome_iff_exists.mp h.top
  obtain ⟨r, hr⟩ := State.topJava?_eq_some.mp hg0
  have hr' : (({ U with heap := s₂.heap, slotsUsed := s₂.slotsUsed } : State).setVm s₂.vm).frames = .java g₀ :: r := hr
  rcases hq' with ⟨hqc, L, hfe, hL⟩ | ⟨q, rfl, E, ce, L, hx, hce, hcv, hcl, hW₂, hsm, hL⟩
  · obtain ⟨⟨v, rfl⟩, hW₂, e2, q2, q3, q4, q5, q6⟩ := id hfe
    have e3 : s₂ = ({ (U.calling g mk a).setFrames s₂.frames with heap := s₂.heap, slotsUsed := s₂.slotsUsed } : State).setVm s₂.vm := by
      have : s₂ = ({ s₂ with vm := (U.calling g mk a).vm } : State).setVm s₂.vm := rfl
      rw [e2] at this
      exact this
    obtain ⟨c₂, i₂, len₂, hc₂, hd₂, hf₂⟩ := hend
    have hW' : U.WarmedH s₂.vm := hW₂
    have hcc : c₂ = c := by
      have h1 : s₂.code? g.method = U.code? g.method := by
        rw [State.code?_eq, State.code?_eq, hW'.alike.method?]
      exact Option.some.inj (hc₂.symm.trans (h1.trans h.code))
    subst hcc
    have hlen : len₂ = len := by rw [hdg] at hd₂; cases hd₂; rfl
    subst hlen
    have hs₂ : s₂ = (({ U with heap := s₂.heap, slotsUsed := s₂.slotsUsed } : State).setVm s₂.vm).setTop { g with pc := g.pc + len₂, stack := v.toList ++ g.stack } := by
      refine e3.trans ?_
      rw [hf₂, State.calling_eq h.top, State.setFrames_setFrames, State.setTop_of_frames _ hr', hr]
      rfl
    have hsame : U.sameButNew ({ U with heap := s₂.heap, slotsUsed := s₂.slotsUsed } : State) L mc ms := by
      refine ⟨?_, q2, q3, q4, q5, q6⟩
      obtain ⟨t, ht, -⟩ := State.frames_cons hr
      show ({ U with heap := s₂.heap, slotsUsed := s₂.slotsUsed } : State) = { U.setFrames U.frames with heap := s₂.heap, slotsUsed := s₂.slotsUsed }
      rw [State.setFrames_self ht]
    subst hg
    refine Or.inl ⟨v, ⟨(({ U with heap := s₂.heap, slotsUsed := s₂.slotsUsed } : State).setVm s₂.vm), Ls ++ L, c0 + mc, s0 + ms⟩,
      ⟨X.admits, X.cas, X.clock, X.frames, X.room, X.hears, X.method, X.code, (X.here.setHeapUsed s₂.heap s₂.slotsUsed).setVm hW'.alike, X.tail, State.WarmedH.trans X.warmed hW', X.limits, X.bytes, X.same.trans (hsame.setVm s.vm)⟩,
      ⟨g, mk, s₂, L, rfl, rfl, hqc, rfl, hL, rfl, rfl⟩, ?_⟩
    show Steps p.tables e below _ ((({ U with heap := s₂.heap, slotsUsed := s₂.slotsUsed } : State).setVm s₂.vm).setTop { g with pc := g.pc + len₂, stack := v.toList ++ g.stack })
    rw [← hs₂]
    exact hsteps
  · obtain ⟨e2, q2, q3, q4, q5, q6⟩ := id hsm
    have e3 : s₂ = ({ (U.calling g mk a).setFrames s₂.frames with heap := s₂.heap, slotsUsed := s₂.slotsUsed } : State).setVm s₂.vm := by
      have : s₂ = ({ s₂ with vm := (U.calling g mk a).vm } : State).setVm s₂.vm := rfl
      rw [e2] at this
      exact this
    have hf₂ : s₂.frames = .throwing q :: .java g :: U.frames.tail := hend
    have hW' : U.WarmedH s₂.vm := hW₂
    have hs₂ : s₂ = ((({ U with heap := s₂.heap, slotsUsed := s₂.slotsUsed } : State).setVm s₂.vm).setTop g).pushFrame (.throwing q) := by
      refine e3.trans ?_
      rw [hf₂, State.calling_eq h.top, State.setFrames_setFrames, State.pushFrame, State.frames_setTop _ hr', State.setTop_of_frames _ hr', State.setFrames_setFrames, hr]
      rfl
    have hsame : U.sameButNew ({ U with heap := s₂.heap, slotsUsed := s₂.slotsUsed } : State) L mc ms := by
      refine ⟨?_, q2, q3, q4, q5, q6⟩
      obtain ⟨t, ht, -⟩ := State.frames_cons hr
      show ({ U with heap := s₂.heap, slotsUsed := s₂.slotsUsed } : State) = { U.setFrames U.frames with heap := s₂.heap, slotsUsed := s₂.slotsUsed }
      rw [State.setFrames_self ht]
    subst hg
    refine Or.inr ⟨q, ⟨(({ U with heap := s₂.heap, slotsUsed := s₂.slotsUsed } : State).setVm s₂.vm), Ls ++ L, c0 + mc, s0 + ms⟩,
      ⟨X.admits, X.cas, X.clock, X.frames, X.room, X.hears, X.method, X.code, (X.here.setHeapUsed s₂.heap s₂.slotsUsed).setVm hW'.alike, X.tail, State.WarmedH.trans X.warmed hW', X.limits, X.bytes, X.same.trans (hsame.setVm s.vm)⟩,
      ⟨g, mk, s₂, L, E, ce, rfl, rfl, hx, hce, hcv, hcl, rfl, hL, rfl, rfl⟩, ?_⟩
    show Steps p.tables e below _ (((({ U with heap := s₂.heap, slotsUsed := s₂.slotsUsed } : State).setVm s₂.vm).setTop g).pushFrame (.throwing q))
    rw [← hs₂]
    exact hsteps
end Payer
section Calls
variable {p : Program} {l : Launch} {e : Env} {R : Room} {s : State} {m : MethodId} {args : Array Value} {below : List Frame} {meth : Method} {c : Code} {T : State} {locs : List Loc} {cells slots : Nat}
theorem vx_callV (X : Stand p l e R s m args below meth c T locs cells slots) (hexec : p.tables.exec = Jvm.exec) {own C : String} {index : Nat} {y : MethodName} {bytes : ByteArray} {maxL : Nat} {ret : Option FieldType}
    (hown : s.vm.findClass own = some m.cls) (hlink : (Cond.methodLink own index y).before args s = true) (hinst : (Cond.instanceMethod y).before args s = true) (hsel : (Cond.selects C y y).before args s = true)
    (hcode : (Cond.code y bytes maxL ret).before args s = true) (hy : y.cls ≠ "java/lang/invoke/MethodHandle" ∧ y.cls ≠ "java/lang/invoke/VarHandle")
    {W9 : Nat} {Pre : Pt → Array Value → Prop} {Post : Pt → Array Value → Option Value → Pt → Prop} {PostX : Pt → Array Value → Addr → Pt → Prop} (hK : vx_Back l R p e below s args y 3 W9 Pre Post PostX)
    {b : Addr} {cellB : Cell} (hcell : T.heap[b]? = some cellB) (hobj : cellB.vm.isStatics = false) (hcls : s.vm.findClass C = some cellB.cls)
    {g : JFrame} (hg : g.method = m) (hsize : g.locals.size = c.maxLocals) {argsL rest : List Value} (hlen : ∀ sig, parseMethodDescriptor y.desc = some sig → argsL.length = sig.parameters.length)
    (hstack : g.stack = argsL.reverse ++ .ref b :: rest) (hW : 2 * g.monitorRoom + (rest.map fun v => v.category).sum ≤ W9) (hdg : decode c.code g.pc = .ok (.invokevirtual index, 3))
    (hpre : ∀ vm₁, s.WarmedH vm₁ → Pre ⟨T.setVm vm₁, locs, cells, slots⟩ (Value.ref b :: argsL).toArray) :
    (∃ (v : Option Value) (vm₁ : Vm) (B : Pt), s.WarmedH vm₁ ∧ Stand p l e R s m args below meth c B.U B.locs B.cells B.slots ∧ Post ⟨T.setVm vm₁, locs, cells, slots⟩ (Value.ref b :: argsL).toArray v B ∧
      ∀ target, Steps p.tables e below (B.U.setTop { g with pc := g.pc + 3, stack := v.toList ++ rest }) target → Steps p.tables e below (T.setTop g) target) ∨
    (∃ (q : Addr) (vm₁ : Vm) (B : Pt), s.WarmedH vm₁ ∧ Stand p l e R s m args below meth c B.U B.locs B.cells B.slots ∧ PostX ⟨T.setVm vm₁, locs, cells, slots⟩ (Value.ref b :: argsL).toArray q B ∧
      Steps p.tables e below (T.setTop g) ((B.U.setTop { g with stack := rest }).pushFrame (.throwing q))) := by
  obtain ⟨mk, methM, hnamed, hmethM, hstM, habM⟩ := Cond.instanceMethod_spec hinst
  obtain ⟨methM', cM, hmethM', -, -, -, -, -, -, hsigM⟩ := Cond.code_spec hnamed hcode
  cases hmethM.symm.trans hmethM'
  obtain ⟨c2, r2, m2, q1, q2, q3, q4, kP, hkP, hkPi⟩ := Cond.selects_spec hsel
  cases hcls.symm.trans q1
  cases (State.methodFound?_of_named hnamed hy).symm.trans q2
  cases hnamed.symm.trans q3
  have hselP : selectMethod e.platform s.vm cellB.cls mk = .method mk := by rw [Launch.admits_selectMethod X.admits]; exact q4
  obtain ⟨vm₁, X₁, hstep₁⟩ := X.invokevirtual hexec hown hlink hnamed hmethM hstM hkP hkPi hy (a := b) (cell := cellB) hcell
    (fun z h => by rw [h] at hobj; cases hobj) hselP hmethM habM hkP hkPi (g := g) hg (argsL := argsL) (rest := rest) (hlen _ hsigM) hstack hdg
  rcases hK m meth c ⟨T.setVm vm₁, locs, cells, slots⟩ { g with stack := rest } (.invokevirtual index) mk (Value.ref b :: argsL).toArray X₁ hg hsize hdg hW (X₁.named hnamed) (hpre vm₁ X₁.warmed) with ⟨v, B, X', hpost, hsteps⟩ | ⟨q, B, X', hpost, hsteps⟩
  · exact Or.inl ⟨v, vm₁, B, X₁.warmed, X', hpost, fun target h => hstep₁ _ fun acts => by rw [doInvoke_state]; exact hsteps.trans h⟩
  · exact Or.inr ⟨q, vm₁, B, X₁.warmed, X', hpost, hstep₁ _ fun acts => by rw [doInvoke_state]; exact hsteps⟩
theorem vx_callS (X : Stand p l e R s m args below meth c T locs cells slots) (hexec : p.tables.exec = Jvm.exec) {own : String} {index : Nat} {y : MethodName} {bytes : ByteArray} {maxL : Nat} {ret : Option FieldType}
    (hown : s.vm.findClass own = some m.cls) (hlink : (Cond.methodLink own index y).before args s = true) (hstat : (Cond.static y).before args s = true) (hinit : (Cond.initialized y.cls).before args s = true)
    (hcode : (Cond.code y bytes maxL ret).before args s = true) (hy : y.cls ≠ "java/lang/invoke/MethodHandle" ∧ y.cls ≠ "java/lang/invoke/VarHandle")
    {W9 : Nat} {Pre : Pt → Array Value → Prop} {Post : Pt → Array Value → Option Value → Pt → Prop} {PostX : Pt → Array Value → Addr → Pt → Prop} (hK : vx_Back l R p e below s args y 3 W9 Pre Post PostX)
    {g : JFrame} (hg : g.method = m) (hsize : g.locals.size = c.maxLocals) {argsL rest : List Value} (hlen : ∀ sig, parseMethodDescriptor y.desc = some sig → argsL.length = sig.parameters.length)
    (hstack : g.stack = argsL.reverse ++ rest) (hW : 2 * g.monitorRoom + (rest.map fun v => v.category).sum ≤ W9) (hdg : decode c.code g.pc = .ok (.invokestatic index, 3))
    (hpre : ∀ vm₁, s.WarmedH vm₁ → Pre ⟨T.setVm vm₁, locs, cells, slots⟩ argsL.toArray) :
    (∃ (v : Option Value) (vm₁ : Vm) (B : Pt), s.WarmedH vm₁ ∧ Stand p l e R s m args below meth c B.U B.locs B.cells B.slots ∧ Post ⟨T.setVm vm₁, locs, cells, slots⟩ argsL.toArray v B ∧
      ∀ target, Steps p.tables e below (B.U.setTop { g with pc := g.pc + 3, stack := v.toList ++ rest }) target → Steps p.tables e below (T.setTop g) target) ∨
    (∃ (q : Addr) (vm₁ : Vm) (B : Pt), s.WarmedH vm₁ ∧ Stand p l e R s m args below meth c B.U B.locs B.cells B.slots ∧ PostX ⟨T.setVm vm₁, locs, cells, slots⟩ argsL.toArray q B ∧
      Steps p.tables e below (T.setTop g) ((B.U.setTop { g with stack := rest }).pushFrame (.throwing q))) := by
  obtain ⟨mk, hnamed⟩ := Cond.code_named hcode
  obtain ⟨methM, cM, hmethM, -, -, -, -, -, -, hsigM⟩ := Cond.code_spec hnamed hcode
  have hstatic : methM.isStatic = true := Cond.static_spec hnamed hmethM hstat
  obtain ⟨kP, hkP, -⟩ := className_of_methodNamed hnamed
  have hinitP : kP.init = .initialized := Cond.initialized_spec (findClass_of_methodNamed hnamed) hkP hinit
  obtain ⟨vm₁, X₁, hstep₁⟩ := X.invokestatic hexec hown hlink hnamed hmethM hstatic hkP hinitP hy (g := g) hg (argsL := argsL) (rest := rest) (hlen _ hsigM) hstack hdg
  rcases hK m meth c ⟨T.setVm vm₁, locs, cells, slots⟩ { g with stack := rest } (.invokestatic index) mk argsL.toArray X₁ hg hsize hdg hW (X₁.named hnamed) (hpre vm₁ X₁.warmed) with ⟨v, B, X', hpost, hsteps⟩ | ⟨q, B, X', hpost, hsteps⟩
  · exact Or.inl ⟨v, vm₁, B, X₁.warmed, X', hpost, fun target h => hstep₁ _ fun acts => by rw [doInvoke_state]; exact hsteps.trans h⟩
  · exact Or.inr ⟨q, vm₁, B, X₁.warmed, X', hpost, hstep₁ _ fun acts => by rw [doInvoke_state]; exact hsteps⟩
end Calls
theorem vx_cls {s : State} {T : State} {vm₁ : Vm} {E : String} {k : ClassId} (hW : s.WarmedH vm₁) (h : (T.setVm vm₁).vm.findClass E = some k) : s.vm.findClass E = some k := by
  have h1 : vm₁.findClass E = some k := h
  rw [hW.alike.findClass] at h1
  exact h1
def vx_W (p : Program) (l : Launch) (e : Env) (R : Room) (s : State) (m : MethodId) (args : Array Value) (below : List Frame) (meth : Method) (c : Code) (H : Heap) (locs : List Loc) (cells slots : Nat) (Q : State → Prop) (g : JFrame) (q : Addr) : Prop :=
  ∀ T : State, T.heap = H → Stand p l e R s m args below meth c T locs cells slots → ∃ t, Steps p.tables e below ((T.setTop g).pushFrame (.throwing q)) t ∧ Q t
def vx_Run (p : Program) (l : Launch) (e : Env) (R : Room) (s : State) (m : MethodId) (args : Array Value) (below : List Frame) (meth : Method) (c : Code) (H : Heap) (locs : List Loc) (cells slots mc ms : Nat) (g : JFrame) (rest : List Value) (Qa : State → Outcome → State → Prop) (XC : String → State → State → Prop) (free : Addr → Prop) : Prop :=
  ∀ T : State, T.heap = H → Stand p l e R s m args below meth c T locs cells slots →
    (∃ (v : Option Value) (st₀ t T' : State) (L : List Loc), st₀.heap = H ∧ Stand p l e R s m args below meth c T' (locs ++ L) (cells + mc) (slots + ms) ∧ (∀ q ∈ L, free q.base) ∧ T'.heap = t.heap ∧ T'.vm = t.vm ∧ Qa st₀ (.returned v) t ∧
      Goes p e below T g T' { g with pc := g.pc + 3, stack := v.toList ++ rest }) ∨
    (∃ (q : Addr) (st₀ t T' : State) (L : List Loc) (E : String) (ce : Cell), st₀.heap = H ∧ Stand p l e R s m args below meth c T' (locs ++ L) (cells + mc) (slots + ms) ∧ (∀ z ∈ L, free z.base) ∧ T'.heap = t.heap ∧ T'.vm = t.vm ∧ XC E st₀ t ∧ t.heap[q]? = some ce ∧ ce.vm = .none ∧ s.vm.findClass E = some ce.cls ∧
      Steps p.tables e below (T.setTop g) ((T'.setTop { g with stack := rest }).pushFrame (.throwing q)))
def vx_X {S : Type} (px : S → Prop) (B : String → S → State → Prop) (A : Nat → Prop) : String → State → State → Prop := fun E st t => ∃ u : S, px u ∧ B E u t ∧ va_F A st t
section Runs
variable {p : Program} {l : Launch} {e : Env} {R : Room} {s : State} {m : MethodId} {args : Array Value} {below : List Frame} {meth : Method} {c : Code} {H : Heap} {locs : List Loc} {cells slots : Nat}
variable {y : MethodName} {bytes cc : ByteArray} {maxL nL mc ms n index : Nat} {ret : Option FieldType} {ws : List Cond} {rm : Room} {Pc : Array Value → State → Prop} {Qc : Array Value → State → Outcome → State → Prop} {XC : String → State → State → Prop} {free : Addr → Prop} {Ts : List Cond} {own C : String} {b : Addr} {As rest : List Value} {g : JFrame}
theorem vx_callBack (cb : CallB R s args own index y bytes maxL ret ws rm mc ms n) (hM : vx_Met l y ws rm Pc Qc XC mc ms free) (hbl : FrameBlind Pc) : vx_Back l R p e below s args y 3 8 (PreOf R mc ms Pc) (PostOf Qc mc ms free) (vx_Post XC mc ms free) := by
  obtain ⟨hrc, hrs, hfr, hlo, hws, hcw, -, hini, -⟩ := cb
  exact vx_back (bytes := bytes) (maxL := maxL) (ret := ret) hM hbl hrc hrs hfr hlo hws hcw (fun a' U hW => word_at hW (Or.inl (by first | rfl | simp [Cond.onTables, Cond.keeps, Cond.steady])) hini)
theorem vx_runV (S : CallFix p m c cc nL s args Ts own) (hM : vx_Met l y ws rm Pc Qc XC mc ms free) (cw : CallW R s args own C index y bytes maxL ret ws rm mc ms n) (hp : PreV s H C b Pc As)
    (hg : g.method = m) (hn : As.length = n) (hsize : g.locals.size = nL) (hstack : g.stack = As.reverse ++ .ref b :: rest) (hW : 2 * g.monitorRoom + (rest.map fun v => v.category).sum ≤ 8) (hdg : decode cc g.pc = .ok (.invokevirtual index, 3)) (hf : cells + mc ≤ R.cells ∧ slots + ms ≤ R.slots) :
    vx_Run p l e R s m args below meth c H locs cells slots mc ms g rest (Qc (Value.ref b :: As).toArray) XC free := by
  have hK : vx_Back l R p e below s args y 3 8 (PreOf R mc ms Pc) (PostOf Qc mc ms free) (vx_Post XC mc ms free) := vx_callBack cw.1 hM hp.1
  obtain ⟨⟨-, -, -, -, -, -, hcode, -, hy, hlen, hl⟩, hin, hse⟩ := cw
  obtain ⟨hx, hb, hml, ho, -⟩ := S
  obtain ⟨-, ⟨cellB, hcB, hoB, hclB⟩, hPc⟩ := hp
  intro T hT X
  rcases vx_callV X hx (C := C) (bytes := bytes) (maxL := maxL) (ret := ret) ho hl hin hse hcode hy hK (by rw [hT]; exact hcB) hoB hclB hg (hsize.trans hml.symm) (argsL := As) (rest := rest) (fun sig h => hn.trans (hlen sig h)) hstack hW (by rw [hb]; exact hdg)
    (fun vm₁ hW₁ => ⟨hf.1, hf.2, hPc (T.setVm vm₁) hT hW₁⟩) with ⟨v, vm₁, ⟨U', l2, c2, s2⟩, hW₁, X', ⟨g', mk, t, L, e1, e2, hq, h1, hL, h2, h3⟩, st⟩ | ⟨q, vm₁, ⟨U', l2, c2, s2⟩, hW₁, X', ⟨g', mk, t, L, E, ce, e1, e2, hq, hce, hcv, hcl, h1, hL, h2, h3⟩, st⟩
  · dsimp only [Pt.U, Pt.locs, Pt.cells, Pt.slots] at X' e1 e2 h1 h2 h3 st
    subst h1; subst h2; subst h3
    exact Or.inl ⟨v, (T.setVm vm₁).calling g' mk (Value.ref b :: As).toArray, t, U', L, hT, X', hL, e1, e2, hq, st⟩
  · dsimp only [Pt.U, Pt.locs, Pt.cells, Pt.slots] at X' e1 e2 h1 h2 h3 st hcl
    subst h1; subst h2; subst h3
    exact Or.inr ⟨q, (T.setVm vm₁).calling g' mk (Value.ref b :: As).toArray, t, U', L, E, ce, hT, X', hL, e1, e2, hq, hce, hcv, vx_cls hW₁ hcl, st⟩
theorem vx_runS (S : CallFix p m c cc nL s args Ts own) (hM : vx_Met l y ws rm Pc Qc XC mc ms free) (cw : CallB R s args own index y bytes maxL ret ws rm mc ms n ∧ (Cond.static y).before args s = true) (hp : PreS s H Pc As)
    (hg : g.method = m) (hn : As.length = n) (hsize : g.locals.size = nL) (hstack : g.stack = As.reverse ++ rest) (hW : 2 * g.monitorRoom + (rest.map fun v => v.category).sum ≤ 8) (hdg : decode cc g.pc = .ok (.invokestatic index, 3)) (hf : cells + mc ≤ R.cells ∧ slots + ms ≤ R.slots) :
    vx_Run p l e R s m args below meth c H locs cells slots mc ms g rest (Qc As.toArray) XC free := by
  have hK : vx_Back l R p e below s args y 3 8 (PreOf R mc ms Pc) (PostOf Qc mc ms free) (vx_Post XC mc ms free) := vx_callBack cw.1 hM hp.1
  obtain ⟨⟨-, -, -, -, -, -, hcode, hini, hy, hlen, hl⟩, hstt⟩ := cw
  obtain ⟨hx, hb, hml, ho, -⟩ := S
  intro T hT X
  rcases vx_callS X hx (bytes := bytes) (maxL := maxL) (ret := ret) ho hl hstt hini hcode hy hK hg (hsize.trans hml.symm) (argsL := As) (rest := rest) (fun sig h => hn.trans (hlen sig h)) hstack hW (by rw [hb]; exact hdg)
    (fun vm₁ hW₁ => ⟨hf.1, hf.2, hp.2 (T.setVm vm₁) hT hW₁⟩) with ⟨v, vm₁, ⟨U', l2, c2, s2⟩, hW₁, X', ⟨g', mk, t, L, e1, e2, hq, h1, hL, h2, h3⟩, st⟩ | ⟨q, vm₁, ⟨U', l2, c2, s2⟩, hW₁, X', ⟨g', mk, t, L, E, ce, e1, e2, hq, hce, hcv, hcl, h1, hL, h2, h3⟩, st⟩
  · dsimp only [Pt.U, Pt.locs, Pt.cells, Pt.slots] at X' e1 e2 h1 h2 h3 st
    subst h1; subst h2; subst h3
    exact Or.inl ⟨v, (T.setVm vm₁).calling g' mk As.toArray, t, U', L, hT, X', hL, e1, e2, hq, st⟩
  · dsimp only [Pt.U, Pt.locs, Pt.cells, Pt.slots] at X' e1 e2 h1 h2 h3 st hcl
    subst h1; subst h2; subst h3
    exact Or.inr ⟨q, (T.setVm vm₁).calling g' mk As.toArray, t, U', L, E, ce, hT, X', hL, e1, e2, hq, hce, hcv, vx_cls hW₁ hcl, st⟩
end Runs
section Rows
variable {p : Program} {l : Launch} {e : Env} {R : Room} {s : State} {m : MethodId} {args : Array Value} {below : List Frame} {meth : Method} {c : Code} {H : Heap} {locs : List Loc} {cells slots : Nat} {Q : State → Prop}
variable {mc ms : Nat} {free : Addr → Prop} {A0 A1 : Nat → Prop} {H0 : Heap} {a : Array Value} {pc : Nat} {ls : Array Slot} {st0 rest : List Value}
theorem vx_keep {st₀ t T' : State} {L : List Loc} (h0 : st₀.heap = H) (e1 : T'.heap = t.heap) (hS : va_S A0 H0 H locs) (hA : ∀ q, q < H.size → A1 q → A0 q) (hf : ∀ q, free q → A0 q) (hL : ∀ q ∈ L, free q.base) (hF : va_F A1 st₀ t) :
    H.size ≤ T'.heap.size ∧ (∀ q : Nat, q < H.size → ¬ A1 q → T'.heap[q]? = H[q]?) ∧ va_S A0 H0 T'.heap (locs ++ L) := by
  obtain ⟨hz, hk⟩ := hF
  rw [h0] at hz hk
  exact ⟨by rw [e1]; exact hz, fun q h1 h2 => by rw [e1]; exact hk q h1 h2,
    ⟨Nat.le_trans hS.1 (by rw [e1]; exact hz), fun q h1 h2 => by rw [e1, hk q (Nat.lt_of_lt_of_le h1 hS.1) (fun z => h2 (hA q (Nat.lt_of_lt_of_le h1 hS.1) z))]; exact hS.2.1 q h1 h2, fun q hq => by
      rcases List.mem_append.mp hq with h | h
      · exact hS.2.2 q h
      · exact hf _ (hL q h)⟩⟩
theorem vx_calli {S SX : Type} {post : Int32 → S → Prop} {px : SX → Prop} {B : S → State → Prop} {BX : String → SX → State → Prop} {AX : Nat → Prop} (hr : vx_Run p l e R s m args below meth c H locs cells slots mc ms (F0 m pc ls st0) rest (va_Qi post B A1 a) (vx_X px BX AX) free) (hS : va_S A0 H0 H locs) (hA : ∀ q, q < H.size → A1 q → A0 q) (hf : ∀ q, free q → A0 q) (hAX : ∀ q, q < H.size → AX q → A0 q)
    (kx : ∀ (E : String) (ce : Cell) (q9 : Addr) (u : SX) (t : State) (H1 : Heap) (locs1 : List Loc), t.heap = H1 → s.vm.Alike t.vm → px u → BX E u t → H.size ≤ H1.size → (∀ q : Nat, q < H.size → ¬ AX q → H1[q]? = H[q]?) → va_S A0 H0 H1 locs1 → H1[q9]? = some ce → ce.vm = .none → s.vm.findClass E = some ce.cls → vx_W p l e R s m args below meth c H1 locs1 (cells + mc) (slots + ms) Q (F0 m pc ls rest) q9)
    (kk : ∀ (r : Int32) (u : S) (t : State) (H1 : Heap) (locs1 : List Loc), t.heap = H1 → s.vm.Alike t.vm → post r u → B u t → H.size ≤ H1.size → (∀ q : Nat, q < H.size → ¬ A1 q → H1[q]? = H[q]?) → va_S A0 H0 H1 locs1 → W p l e R s m args below meth c H1 locs1 (cells + mc) (slots + ms) Q (F0 m (pc + 3) ls (.int r :: rest))) : W p l e R s m args below meth c H locs cells slots Q (F0 m pc ls st0) := by
  intro T hT X
  rcases hr T hT X with ⟨v, st₀, t, T', L, h0, X', hL, e1, e2, ⟨⟨r, u, hv, hp, hb⟩, hF⟩, st⟩ | ⟨q, st₀, t, T', L, E, ce, h0, X', hL, e1, e2, ⟨u, hp, hb, hF⟩, hce, hcv, hcl, st⟩
  · cases hv
    obtain ⟨k1, k2, k3⟩ := vx_keep h0 e1 hS hA hf hL hF
    obtain ⟨t2, a1, b1⟩ := kk r u t T'.heap (locs ++ L) e1.symm (by rw [← e2]; exact X'.warmed.alike) hp hb k1 k2 k3 T' rfl X'
    exact ⟨t2, st t2 a1, b1⟩
  · obtain ⟨k1, k2, k3⟩ := vx_keep h0 e1 hS hAX hf hL hF
    obtain ⟨t2, a1, b1⟩ := kx E ce q u t T'.heap (locs ++ L) e1.symm (by rw [← e2]; exact X'.warmed.alike) hp hb k1 k2 k3 (by rw [e1]; exact hce) hcv hcl T' rfl X'
    exact ⟨t2, st.trans a1, b1⟩
theorem vx_calll {S SX : Type} {post : Int64 → S → Prop} {px : SX → Prop} {B : S → State → Prop} {BX : String → SX → State → Prop} {AX : Nat → Prop} (hr : vx_Run p l e R s m args below meth c H locs cells slots mc ms (F0 m pc ls st0) rest (va_Ql post B A1 a) (vx_X px BX AX) free) (hS : va_S A0 H0 H locs) (hA : ∀ q, q < H.size → A1 q → A0 q) (hf : ∀ q, free q → A0 q) (hAX : ∀ q, q < H.size → AX q → A0 q)
    (kx : ∀ (E : String) (ce : Cell) (q9 : Addr) (u : SX) (t : State) (H1 : Heap) (locs1 : List Loc), t.heap = H1 → s.vm.Alike t.vm → px u → BX E u t → H.size ≤ H1.size → (∀ q : Nat, q < H.size → ¬ AX q → H1[q]? = H[q]?) → va_S A0 H0 H1 locs1 → H1[q9]? = some ce → ce.vm = .none → s.vm.findClass E = some ce.cls → vx_W p l e R s m args below meth c H1 locs1 (cells + mc) (slots + ms) Q (F0 m pc ls rest) q9)
    (kk : ∀ (r : Int64) (u : S) (t : State) (H1 : Heap) (locs1 : List Loc), t.heap = H1 → s.vm.Alike t.vm → post r u → B u t → H.size ≤ H1.size → (∀ q : Nat, q < H.size → ¬ A1 q → H1[q]? = H[q]?) → va_S A0 H0 H1 locs1 → W p l e R s m args below meth c H1 locs1 (cells + mc) (slots + ms) Q (F0 m (pc + 3) ls (.long r :: rest))) : W p l e R s m args below meth c H locs cells slots Q (F0 m pc ls st0) := by
  intro T hT X
  rcases hr T hT X with ⟨v, st₀, t, T', L, h0, X', hL, e1, e2, ⟨⟨r, u, hv, hp, hb⟩, hF⟩, st⟩ | ⟨q, st₀, t, T', L, E, ce, h0, X', hL, e1, e2, ⟨u, hp, hb, hF⟩, hce, hcv, hcl, st⟩
  · cases hv
    obtain ⟨k1, k2, k3⟩ := vx_keep h0 e1 hS hA hf hL hF
    obtain ⟨t2, a1, b1⟩ := kk r u t T'.heap (locs ++ L) e1.symm (by rw [← e2]; exact X'.warmed.alike) hp hb k1 k2 k3 T' rfl X'
    exact ⟨t2, st t2 a1, b1⟩
  · obtain ⟨k1, k2, k3⟩ := vx_keep h0 e1 hS hAX hf hL hF
    obtain ⟨t2, a1, b1⟩ := kx E ce q u t T'.heap (locs ++ L) e1.symm (by rw [← e2]; exact X'.warmed.alike) hp hb k1 k2 k3 (by rw [e1]; exact hce) hcv hcl T' rfl X'
    exact ⟨t2, st.trans a1, b1⟩
theorem vx_callf {S SX : Type} {post : UInt32 → S → Prop} {px : SX → Prop} {B : S → State → Prop} {BX : String → SX → State → Prop} {AX : Nat → Prop} (hr : vx_Run p l e R s m args below meth c H locs cells slots mc ms (F0 m pc ls st0) rest (va_Qf post B A1 a) (vx_X px BX AX) free) (hS : va_S A0 H0 H locs) (hA : ∀ q, q < H.size → A1 q → A0 q) (hf : ∀ q, free q → A0 q) (hAX : ∀ q, q < H.size → AX q → A0 q)
    (kx : ∀ (E : String) (ce : Cell) (q9 : Addr) (u : SX) (t : State) (H1 : Heap) (locs1 : List Loc), t.heap = H1 → s.vm.Alike t.vm → px u → BX E u t → H.size ≤ H1.size → (∀ q : Nat, q < H.size → ¬ AX q → H1[q]? = H[q]?) → va_S A0 H0 H1 locs1 → H1[q9]? = some ce → ce.vm = .none → s.vm.findClass E = some ce.cls → vx_W p l e R s m args below meth c H1 locs1 (cells + mc) (slots + ms) Q (F0 m pc ls rest) q9)
    (kk : ∀ (r : UInt32) (u : S) (t : State) (H1 : Heap) (locs1 : List Loc), t.heap = H1 → s.vm.Alike t.vm → post r u → B u t → H.size ≤ H1.size → (∀ q : Nat, q < H.size → ¬ A1 q → H1[q]? = H[q]?) → va_S A0 H0 H1 locs1 → W p l e R s m args below meth c H1 locs1 (cells + mc) (slots + ms) Q (F0 m (pc + 3) ls (.float r :: rest))) : W p l e R s m args below meth c H locs cells slots Q (F0 m pc ls st0) := by
  intro T hT X
  rcases hr T hT X with ⟨v, st₀, t, T', L, h0, X', hL, e1, e2, ⟨⟨r, u, hv, hp, hb⟩, hF⟩, st⟩ | ⟨q, st₀, t, T', L, E, ce, h0, X', hL, e1, e2, ⟨u, hp, hb, hF⟩, hce, hcv, hcl, st⟩
  · cases hv
    obtain ⟨k1, k2, k3⟩ := vx_keep h0 e1 hS hA hf hL hF
    obtain ⟨t2, a1, b1⟩ := kk r u t T'.heap (locs ++ L) e1.symm (by rw [← e2]; exact X'.warmed.alike) hp hb k1 k2 k3 T' rfl X'
    exact ⟨t2, st t2 a1, b1⟩
  · obtain ⟨k1, k2, k3⟩ := vx_keep h0 e1 hS hAX hf hL hF
    obtain ⟨t2, a1, b1⟩ := kx E ce q u t T'.heap (locs ++ L) e1.symm (by rw [← e2]; exact X'.warmed.alike) hp hb k1 k2 k3 (by rw [e1]; exact hce) hcv hcl T' rfl X'
    exact ⟨t2, st.trans a1, b1⟩
theorem vx_calld {S SX : Type} {post : UInt64 → S → Prop} {px : SX → Prop} {B : S → State → Prop} {BX : String → SX → State → Prop} {AX : Nat → Prop} (hr : vx_Run p l e R s m args below meth c H locs cells slots mc ms (F0 m pc ls st0) rest (va_Qd post B A1 a) (vx_X px BX AX) free) (hS : va_S A0 H0 H locs) (hA : ∀ q, q < H.size → A1 q → A0 q) (hf : ∀ q, free q → A0 q) (hAX : ∀ q, q < H.size → AX q → A0 q)
    (kx : ∀ (E : String) (ce : Cell) (q9 : Addr) (u : SX) (t : State) (H1 : Heap) (locs1 : List Loc), t.heap = H1 → s.vm.Alike t.vm → px u → BX E u t → H.size ≤ H1.size → (∀ q : Nat, q < H.size → ¬ AX q → H1[q]? = H[q]?) → va_S A0 H0 H1 locs1 → H1[q9]? = some ce → ce.vm = .none → s.vm.findClass E = some ce.cls → vx_W p l e R s m args below meth c H1 locs1 (cells + mc) (slots + ms) Q (F0 m pc ls rest) q9)
    (kk : ∀ (r : UInt64) (u : S) (t : State) (H1 : Heap) (locs1 : List Loc), t.heap = H1 → s.vm.Alike t.vm → post r u → B u t → H.size ≤ H1.size → (∀ q : Nat, q < H.size → ¬ A1 q → H1[q]? = H[q]?) → va_S A0 H0 H1 locs1 → W p l e R s m args below meth c H1 locs1 (cells + mc) (slots + ms) Q (F0 m (pc + 3) ls (.double r :: rest))) : W p l e R s m args below meth c H locs cells slots Q (F0 m pc ls st0) := by
  intro T hT X
  rcases hr T hT X with ⟨v, st₀, t, T', L, h0, X', hL, e1, e2, ⟨⟨r, u, hv, hp, hb⟩, hF⟩, st⟩ | ⟨q, st₀, t, T', L, E, ce, h0, X', hL, e1, e2, ⟨u, hp, hb, hF⟩, hce, hcv, hcl, st⟩
  · cases hv
    obtain ⟨k1, k2, k3⟩ := vx_keep h0 e1 hS hA hf hL hF
    obtain ⟨t2, a1, b1⟩ := kk r u t T'.heap (locs ++ L) e1.symm (by rw [← e2]; exact X'.warmed.alike) hp hb k1 k2 k3 T' rfl X'
    exact ⟨t2, st t2 a1, b1⟩
  · obtain ⟨k1, k2, k3⟩ := vx_keep h0 e1 hS hAX hf hL hF
    obtain ⟨t2, a1, b1⟩ := kx E ce q u t T'.heap (locs ++ L) e1.symm (by rw [← e2]; exact X'.warmed.alike) hp hb k1 k2 k3 (by rw [e1]; exact hce) hcv hcl T' rfl X'
    exact ⟨t2, st.trans a1, b1⟩
theorem vx_callv {S SX : Type} {post : S → Prop} {px : SX → Prop} {B : S → State → Prop} {BX : String → SX → State → Prop} {AX : Nat → Prop} (hr : vx_Run p l e R s m args below meth c H locs cells slots mc ms (F0 m pc ls st0) rest (va_Qv post B A1 a) (vx_X px BX AX) free) (hS : va_S A0 H0 H locs) (hA : ∀ q, q < H.size → A1 q → A0 q) (hf : ∀ q, free q → A0 q) (hAX : ∀ q, q < H.size → AX q → A0 q)
    (kx : ∀ (E : String) (ce : Cell) (q9 : Addr) (u : SX) (t : State) (H1 : Heap) (locs1 : List Loc), t.heap = H1 → s.vm.Alike t.vm → px u → BX E u t → H.size ≤ H1.size → (∀ q : Nat, q < H.size → ¬ AX q → H1[q]? = H[q]?) → va_S A0 H0 H1 locs1 → H1[q9]? = some ce → ce.vm = .none → s.vm.findClass E = some ce.cls → vx_W p l e R s m args below meth c H1 locs1 (cells + mc) (slots + ms) Q (F0 m pc ls rest) q9)
    (kk : ∀ (u : S) (t : State) (H1 : Heap) (locs1 : List Loc), t.heap = H1 → s.vm.Alike t.vm → post u → B u t → H.size ≤ H1.size → (∀ q : Nat, q < H.size → ¬ A1 q → H1[q]? = H[q]?) → va_S A0 H0 H1 locs1 → W p l e R s m args below meth c H1 locs1 (cells + mc) (slots + ms) Q (F0 m (pc + 3) ls (rest))) : W p l e R s m args below meth c H locs cells slots Q (F0 m pc ls st0) := by
  intro T hT X
  rcases hr T hT X with ⟨v, st₀, t, T', L, h0, X', hL, e1, e2, ⟨⟨u, hv, hp, hb⟩, hF⟩, st⟩ | ⟨q, st₀, t, T', L, E, ce, h0, X', hL, e1, e2, ⟨u, hp, hb, hF⟩, hce, hcv, hcl, st⟩
  · cases hv
    obtain ⟨k1, k2, k3⟩ := vx_keep h0 e1 hS hA hf hL hF
    obtain ⟨t2, a1, b1⟩ := kk u t T'.heap (locs ++ L) e1.symm (by rw [← e2]; exact X'.warmed.alike) hp hb k1 k2 k3 T' rfl X'
    exact ⟨t2, st t2 a1, b1⟩
  · obtain ⟨k1, k2, k3⟩ := vx_keep h0 e1 hS hAX hf hL hF
    obtain ⟨t2, a1, b1⟩ := kx E ce q u t T'.heap (locs ++ L) e1.symm (by rw [← e2]; exact X'.warmed.alike) hp hb k1 k2 k3 (by rw [e1]; exact hce) hcv hcl T' rfl X'
    exact ⟨t2, st.trans a1, b1⟩
theorem vx_catch {own name : String} {E : String} {ce : Cell} {q : Addr} (hown : s.vm.findClass own = some m.cls) (pre : List ExceptionTableEntry) (x : ExceptionTableEntry) (suf : List ExceptionTableEntry) (hsplit : c.exceptionTable.toList = pre ++ x :: suf)
    (hpass : ∀ z ∈ pre, covers z pc = false ∨ (z.catchType ≠ 0 ∧ ∃ nm : String, (Cond.classLink own z.catchType nm).before args s = true ∧ va_Nc E nm s)) (hx : covers x pc = true) (h0 : x.catchType ≠ 0)
    (hlink : (Cond.classLink own x.catchType name).before args s = true) (hcast : (Cond.castable E name).before args s = true) (hcell : H[q]? = some ce) (hv : ce.vm = .none) (hcl : s.vm.findClass E = some ce.cls)
    (kk : W p l e R s m args below meth c H locs cells slots Q (F0 m x.handlerPc ls [.ref q])) : vx_W p l e R s m args below meth c H locs cells slots Q (F0 m pc ls rest) q := by
  intro T hT X
  have hpl : e.platform.magicAccessors = ({} : Platform).magicAccessors := by rw [X.admits.platform]
  obtain ⟨c3, c4, hc3, hc4, hasg⟩ := Cond.castable_spec hcast
  cases Option.some.inj (hc3.symm.trans hcl)
  obtain ⟨c5, hc5, hcl5⟩ := Cond.classLink_spec hown hlink e.platform hpl
  cases Option.some.inj (hc4.symm.trans hc5)
  obtain ⟨vm', X', st⟩ := X.thenCaughtThrough q (g := F0 m pc ls rest) rfl (Steps.refl _) (by rw [hT]; exact hcell) (by rw [hv]; rfl) (by obtain ⟨k9, h9, -⟩ := Vm.findClass_spec hcl; exact ⟨k9, h9⟩) pre x suf hsplit
    (fun z hz => by
      rcases hpass z hz with h | ⟨hz0, nm, hl1, hn1⟩
      · exact Or.inl h
      · obtain ⟨c6, hc6, hcl6⟩ := Cond.classLink_spec hown hl1 e.platform hpl
        obtain ⟨a8, b8, h1, h2, h3⟩ := hn1
        cases Option.some.inj (h1.symm.trans hcl)
        cases Option.some.inj (h2.symm.trans hc6)
        exact Or.inr ⟨hz0, _, hcl6, h3⟩) hx (Or.inr ⟨h0, c4, hcl5, hasg⟩)
  obtain ⟨t, a1, b1⟩ := kk (T.setVm vm') hT X'
  exact ⟨t, st.trans a1, b1⟩
end Rows
section Ends
variable {p : Program} {l : Launch} {e : Env} {R : Room} {s : State} {m : MethodId} {args : Array Value} {below : List Frame} {meth : Method} {c : Code} {H : Heap} {locs : List Loc} {cells slots : Nat} {Q : State → Prop}
variable {mc ms : Nat} {free : Addr → Prop} {A0 A1 : Nat → Prop} {H0 : Heap} {a : Array Value} {ls : Array Slot} {st0 rest : List Value}
variable {Qc : Array Value → State → Outcome → State → Prop} {XC : String → State → State → Prop}
def vx_MQ (below : List Frame) (Qc : Array Value → State → Outcome → State → Prop) (XC : String → State → State → Prop) (a : Array Value) (s : State) (mc ms : Nat) (free : Addr → Prop) : State → Prop := fun t =>
  ∃ o, t.status = .running ∧ Ended t below o ∧ vx_Q Qc XC mc ms free a s o t
theorem vx_ret {g : JFrame} {mc ms : Nat} (k : W p l e R s m args below meth c H locs cells slots (MQ below Qc args s mc ms free) g) : W p l e R s m args below meth c H locs cells slots (vx_MQ below Qc XC args s mc ms free) g := by
  intro T hT X
  obtain ⟨t, a1, o, b1, b2, b3, b4⟩ := k T hT X
  exact ⟨t, a1, o, b1, b2, Or.inl ⟨b3, b4⟩⟩
theorem vx_widen {g : JFrame} {q : Addr} {k n : Nat} (h1 : cells ≤ k) (h2 : slots ≤ n) (kk : vx_W p l e R s m args below meth c H locs k n Q g q) : vx_W p l e R s m args below meth c H locs cells slots Q g q := fun T hT X => kk T hT (stand_widen X h1 h2)
theorem vx_out {pc : Nat} {E : String} {ce : Cell} {q : Addr} {mc ms : Nat} (hout : ∀ x ∈ c.exceptionTable.toList, covers x pc = false) (hlocks : meth.locks = false) (hcell : H[q]? = some ce) (hv : ce.vm = .none) (hcl : s.vm.findClass E = some ce.cls)
    (hx : ∀ t : State, t.heap = H → s.vm.Alike t.vm → XC E s t) (hf : ∀ z ∈ locs, free z.base) (hc : cells ≤ mc) (hs : slots ≤ ms) :
    vx_W p l e R s m args below meth c H locs cells slots (vx_MQ below Qc XC args s mc ms free) (F0 m pc ls rest) q := by
  intro T hT X
  obtain ⟨st1, hrun, hend, hW, hsm⟩ := X.leaveThrown q (g := F0 m pc ls rest) rfl rfl rfl hout hlocks
  have hcell9 : (T.setFrames (.throwing q :: below)).heap[q]? = some ce := by
    show T.heap[q]? = some ce
    rw [hT]; exact hcell
  exact ⟨_, st1, .threw q, hrun, hend, Or.inr ⟨q, rfl, E, ce, locs, hx _ hT hW.alike, hcell9, hv, hcl, hW, hsm.mono hc hs, hf⟩⟩
theorem vx_frame {U : State} {k n : Nat} (h : s.sameButNew ({ U with vm := s.vm } : State) locs k n) : s.heap.size ≤ U.heap.size ∧ ∀ q : Nat, q < s.heap.size → (∀ z ∈ locs, z.base ≠ q) → U.heap[q]? = s.heap[q]? := by
  obtain ⟨-, h2, -, -, -, h6⟩ := h
  refine ⟨h2, fun q hq hz => ?_⟩
  obtain ⟨c9, e1, e2, e3, e4⟩ := h6 q _ (Array.getElem?_eq_getElem hq)
  have hs : c9.slots = (s.heap[q]).slots := Array.ext_getElem? fun i => e4 i fun hm => hz _ hm rfl
  have h9 : c9 = s.heap[q] := by
    rw [hs] at e2
    exact e2
  have e5 : U.heap[q]? = some c9 := e1
  rw [e5, h9, Array.getElem?_eq_getElem hq]
def vx_no (w : Cond) : Bool := decide (w ≠ .isRef (.static Bundle.tN "UNASSIGNED_STACK" Bundle.steD)) && decide (w ≠ .isRef (.static Bundle.tN "SUPPRESSED_SENTINEL" Bundle.listD)) && decide (w ≠ .laysStatic Bundle.tN "UNASSIGNED_STACK" Bundle.steD) && decide (w ≠ .laysStatic Bundle.tN "SUPPRESSED_SENTINEL" Bundle.listD)
def vx_at0 (own : String) (ic : Nat) (X : String) (names : List String) : List Cond := (Bundle.ownAtoms0 own ic X names).filter vx_no
def vx_atS (own : String) (ic : Nat) (X : String) (names : List String) : List Cond := (Bundle.ownAtoms own ic X names).filter vx_no
def vx_ot (w : Cond) : Bool := w.onTables || goodWord w
theorem vx_ot_at {args a' : Array Value} {s U : State} {w : Cond} (hW : s.WarmedH U.vm) (hvm : s.vm = U.vm) (hg : vx_ot w = true) (h : w.before args s = true) : w.before a' U = true := by
  simp only [vx_ot, Bool.or_eq_true] at hg
  rcases hg with hg | hg
  · exact va_tabs hg hvm h
  · exact word_at hW (good_of_word hg) h
theorem vx_hat {args : Array Value} {s : State} {L B : List Cond} (h1 : ∀ w ∈ L.filter goodWord, w.before args s = true) (h2 : ∀ w ∈ L.filter (fun w => !goodWord w), w ∈ B) (h3 : ∀ w ∈ B, w.before args s = true) : ∀ w ∈ L, w.before args s = true := by
  intro w hw
  by_cases g : goodWord w = true
  · exact h1 w (List.mem_filter.mpr ⟨hw, g⟩)
  · refine h3 w (h2 w (List.mem_filter.mpr ⟨hw, ?_⟩))
    show (!goodWord w) = true
    cases hgw : goodWord w
    · rfl
    · exact absurd hgw g
theorem vx_c {args : Array Value} {s : State} {w : Cond} {B : List Cond} (h : w.before args s = true) (t : ∀ w ∈ B, w.before args s = true) : ∀ w' ∈ w :: B, w'.before args s = true := fun w' h' => (List.mem_cons.mp h').elim (fun e => by rw [e]; exact h) (t w')
theorem vx_n {args : Array Value} {s : State} : ∀ w ∈ ([] : List Cond), w.before args s = true := fun _ h => nomatch h
theorem vx_own {args : Array Value} {s : State} {L : List Cond} (h1 : ∀ w ∈ L.filter vx_no, w.before args s = true)
    (hU : (Cond.isRef (.static Bundle.tN "UNASSIGNED_STACK" Bundle.steD)).before args s = true) (hN : (Cond.isRef (.static Bundle.tN "SUPPRESSED_SENTINEL" Bundle.listD)).before args s = true)
    (lU : (Cond.laysStatic Bundle.tN "UNASSIGNED_STACK" Bundle.steD).before args s = true) (lN : (Cond.laysStatic Bundle.tN "SUPPRESSED_SENTINEL" Bundle.listD).before args s = true) : ∀ w ∈ L, w.before args s = true := by
  intro w hw
  by_cases e1 : w = .isRef (.static Bundle.tN "UNASSIGNED_STACK" Bundle.steD)
  · rw [e1]; exact hU
  · by_cases e2 : w = .isRef (.static Bundle.tN "SUPPRESSED_SENTINEL" Bundle.listD)
    · rw [e2]; exact hN
    · by_cases e3 : w = .laysStatic Bundle.tN "UNASSIGNED_STACK" Bundle.steD
      · rw [e3]; exact lU
      · by_cases e4 : w = .laysStatic Bundle.tN "SUPPRESSED_SENTINEL" Bundle.listD
        · rw [e4]; exact lN
        · exact h1 w (List.mem_filter.mpr ⟨hw, by unfold vx_no; rw [decide_eq_true e1, decide_eq_true e2, decide_eq_true e3, decide_eq_true e4]; rfl⟩)
def vx_L (C n d : String) (A : Nat → Prop) (U : State) (H : Heap) : Prop := ∃ (c : ClassId) (k : Class) (i : Nat) (f : Field) (a : Nat) (cell : Cell), U.vm.findClass C = some c ∧ U.fieldFound? C n d = some (c, k, i, f) ∧ f.isStatic = true ∧ k.statics = some a ∧ H[a]? = some cell ∧ cell.vm.isStatics = true ∧ cell.cls = c ∧ f.slot < cell.slots.size ∧ k.staticTypes[f.slot]? = some f.type ∧ ¬ A a
theorem vx_L.moved {C n d : String} {A : Nat → Prop} {u U : State} {H : Heap} (hvm : u.vm.Alike U.vm) (h : vx_L C n d A u H) : vx_L C n d A U H := by
  obtain ⟨c, k, i, f, a, cell, h1, h2, h3, h4, h5, h6, h7, h8, h9, h10⟩ := h
  obtain ⟨k', hi', he⟩ := State.fieldFound?_setVm hvm h2
  exact ⟨c, k', i, f, a, cell, by rw [hvm.findClass]; exact h1, hi', h3, by rw [he]; exact h4, h5, h6, h7, h8, by rw [he]; exact h9, h10⟩
theorem vx_L.kept {C n d : String} {A : Nat → Prop} {U : State} {H H1 : Heap} (h : vx_L C n d A U H) (hq : ∀ a : Nat, a < H.size → ¬ A a → H1[a]? = H[a]?) : vx_L C n d A U H1 := by
  obtain ⟨c, k, i, f, a, cell, h1, h2, h3, h4, h5, h6, h7, h8, h9, h10⟩ := h
  exact ⟨c, k, i, f, a, cell, h1, h2, h3, h4, by rw [hq a (Array.getElem?_eq_some_iff.mp h5).1 h10]; exact h5, h6, h7, h8, h9, h10⟩
theorem vx_L.narrow {C n d : String} {A B : Nat → Prop} {U : State} {H : Heap} (h : vx_L C n d A U H) (hAB : ∀ q, B q → A q) : vx_L C n d B U H := by
  obtain ⟨c, k, i, f, a, cell, h1, h2, h3, h4, h5, h6, h7, h8, h9, h10⟩ := h
  exact ⟨c, k, i, f, a, cell, h1, h2, h3, h4, h5, h6, h7, h8, h9, fun z => h10 (hAB _ z)⟩
theorem vx_L.word {C n d : String} {A : Nat → Prop} {s : State} {args : Array Value} (h : vx_L C n d A s s.heap) : (Cond.laysStatic C n d).before args s = true := by
  obtain ⟨c, k, i, f, a, cell, h1, h2, h3, h4, h5, h6, h7, h8, h9, -⟩ := h
  show (Cond.laysStatic C n d).holds args s none s [] = true
  exact Cond.laysStatic_of h1 h2 h3 h4 h5 h6 h7 h8 h9
def vx_Zq (C n d : String) (A : Nat → Prop) (U : State) (H : Heap) : Prop := va_Zq C n d A U H ∧ vx_L C n d A U H
theorem vx_Zq.moved {C n d : String} {A : Nat → Prop} {u U : State} {H : Heap} (hvm : u.vm.Alike U.vm) (h : vx_Zq C n d A u H) : vx_Zq C n d A U H := ⟨va_Zq.moved hvm h.1, vx_L.moved hvm h.2⟩
theorem vx_Zq.kept {C n d : String} {A : Nat → Prop} {U : State} {H H1 : Heap} (h : vx_Zq C n d A U H) (hq : ∀ a : Nat, a < H.size → ¬ A a → H1[a]? = H[a]?) : vx_Zq C n d A U H1 := ⟨va_Zq.kept h.1 hq, vx_L.kept h.2 hq⟩
theorem vx_Zq.narrow {C n d : String} {A B : Nat → Prop} {U : State} {H : Heap} (h : vx_Zq C n d A U H) (hAB : ∀ q, B q → A q) : vx_Zq C n d B U H := ⟨va_Zq.narrow h.1 hAB, vx_L.narrow h.2 hAB⟩
theorem vx_Zqof {args : Array Value} {s : State} {C n d : String} {A : Nat → Prop} (hl : (Cond.laysStatic C n d).before args s = true) (hini : (Cond.initialized C).before args s = true) (h : (Cond.isRef (.static C n d)).before args s = true) (hA : ∀ a : Nat, a < s.heap.size → ¬ A a) : vx_Zq C n d A s s.heap := by
  refine ⟨va_Zqof hl hini h hA, ?_⟩
  obtain ⟨c, k, i, f, a, cell, h1, h2, h3, h4, h5, h6, h7, h8, h9⟩ := Cond.laysStatic_spec hl
  exact ⟨c, k, i, f, a, cell, h1, h2, h3, h4, h5, h6, h7, h8, h9, hA a (Array.getElem?_eq_some_iff.mp h5).1⟩
theorem vx_isRef {C n d : String} {v : Value} {A : Nat → Prop} {s : State} {args : Array Value} (h : va_Z C n d v A s s.heap) (hv : v.isRef = true) : (Cond.isRef (.static C n d)).before args s = true := by
  obtain ⟨cf, kf, fi, f, a, cell, h1, h2, h3, h4, h5, h6, h7, -⟩ := h
  have he : (Term.static C n d).eval args s none [] s = some v := by
    simp [Term.eval, State.fieldNamed?, h1, h2, h4, h5, h6, h7]
  simp only [Cond.before, Cond.holds, Cond.value, he]
  cases v <;> simp_all [Value.isRef]
theorem vx_isRefq {C n d : String} {A : Nat → Prop} {s : State} {args : Array Value} (h : va_Zq C n d A s s.heap) : (Cond.isRef (.static C n d)).before args s = true := by
  rcases h with h | ⟨t, h⟩
  · exact vx_isRef h rfl
  · exact vx_isRef h rfl
theorem vx_rebase {T : State} (X : Stand p l e R s m args below meth c T locs cells slots) {R' : Room} (hf : R'.frames ≤ R.frames) (hl : R'.locals ≤ R.locals) (hc : cells + R'.cells ≤ R.cells) (hs : slots + R'.slots ≤ R.slots) :
    Stand p l e R' ((T.setVm s.vm).setFrames (.invoking m args :: below)) m args below meth c T [] 0 0 := by
  have htop : (T.setVm s.vm).topJava?.isSome := X.here.top
  have hF : ((T.setVm s.vm).setFrames (.invoking m args :: below)).frames = .invoking m args :: below := State.frames_setFrames _ (State.cur_lt_of_top htop)
  obtain ⟨g₀, hg0⟩ := Option.isSome_iff_exists.mp htop
  obtain ⟨r, hr⟩ := State.topJava?_eq_some.mp hg0
  have hl9 : e.platform.stackLimits (T.setVm s.vm).me = e.platform.stackLimits s.me := X.limits
  have hb9 : (T.setVm s.vm).me.stackBytes = s.me.stackBytes := X.bytes
  refine ⟨X.admits, X.cas, X.clock, hF, ?_, X.hears, X.method, X.code, X.here, X.tail, X.warmed, ?_, ?_, ?_⟩
  · have h := X.room
    have hU : ((T.setVm s.vm).setFrames (.invoking m args :: below)).localsInUse = s.localsInUse := by
      rw [State.localsInUse_invoking hF (meth := meth) (c := c) X.method X.code, State.localsInUse_invoking X.frames X.method X.code]
    simp only [State.hasRoom, Bool.and_eq_true, decide_eq_true_eq] at h ⊢
    obtain ⟨⟨⟨⟨h1, h2, h3, h4, h5, h6⟩, h7⟩, h8⟩, h9⟩ := h
    rw [X.frames, List.length_cons] at h2 h3
    have q1 := X.heapSize
    have q2 := X.used
    simp only [hF, hU, List.length_cons, State.stackLimits_setFrames, State.stackBytes_setFrames, hl9, hb9]
    refine ⟨⟨⟨⟨by omega, by omega, by omega, by omega, by omega, h6⟩, ?_⟩, ?_⟩, X.book⟩
    · show T.heap.size + R'.cells ≤ e.platform.maxCells
      omega
    · show T.slotsUsed + R'.slots ≤ e.platform.maxSlots
      omega
  · rw [State.stackLimits_setFrames]; rfl
  · rw [State.stackBytes_setFrames]; rfl
  · refine ⟨?_, Nat.le_refl _, Nat.le_refl _, ?_, ?_, fun a c9 h9 => ⟨c9, h9, rfl, rfl, fun _ _ => rfl⟩⟩
    · obtain ⟨t, ht, -⟩ := State.frames_cons hr
      show T.setVm s.vm = { ((T.setVm s.vm).setFrames (.invoking m args :: below)).setFrames (T.setVm s.vm).frames with heap := T.heap, slotsUsed := T.slotsUsed }
      rw [State.setFrames_setFrames, State.setFrames_self ht]
      rfl
    · show T.slotsUsed = T.slotsUsed + ((T.heap.toList.drop T.heap.size).map (·.slots.size)).sum
      rw [List.drop_eq_nil_of_le (Nat.le_of_eq Array.length_toList)]
      rfl
    · show ((T.heap.toList.drop T.heap.size).map (·.slots.size)).sum ≤ 0
      rw [List.drop_eq_nil_of_le (Nat.le_of_eq Array.length_toList)]
      exact Nat.le_refl _
theorem vx_throw0 {cc : ByteArray} {pc : Nat} (hexec : p.tables.exec = Jvm.exec) (hb : c.code = cc) (hl : l.stackTraces = false) {own cls : String} {names : List String} {ik ic mc ms : Nat} {A : Nat → Prop}
    (hown : s.vm.findClass own = some m.cls) (hcls : Bundle.fit cls = true) (hnames : ∀ n ∈ names, Bundle.fit n = true)
    (hk : (Cond.classLink own ik cls).before args s = true) (hini : (Cond.initialized cls).before args s = true) (hat : ∀ w ∈ vx_at0 own ic cls names, w.before args s = true)
    (hgood : ∀ w ∈ Cond.classLink own ik cls :: Cond.initialized cls :: vx_at0 own ic cls names, vx_ot w = true)
    (hU : vx_Zq Bundle.tN "UNASSIGNED_STACK" Bundle.steD A s s.heap) (hN : vx_Zq Bundle.tN "SUPPRESSED_SENTINEL" Bundle.listD A s s.heap) (hS : va_S A s.heap H locs) (hsize : ls.size = c.maxLocals)
    (d0 : decode cc pc = .ok (.new ik, 3)) (d3 : decode cc (pc + 3) = .ok (.dup, 1)) (d4 : decode cc (pc + 4) = .ok (.invokespecial ic, 3)) (d7 : decode cc (pc + 7) = .ok (.athrow, 1))
    (hout : ∀ x ∈ c.exceptionTable.toList, covers x (pc + 7) = false)
    (hRframes : names.length + 3 < R.frames) (hRlocals : (rest.map fun v => v.category).sum + (13 * (names.length + 1) + 42) ≤ R.locals) (hRcells : cells + 1 ≤ R.cells) (hRslots : slots + 6 ≤ R.slots) (hlocks : meth.locks = false)
    (hx : ∀ t : State, s.vm.Alike t.vm → H.size ≤ t.heap.size → (∀ q : Nat, q < H.size → t.heap[q]? = H[q]?) → XC cls s t)
    (hf : ∀ z ∈ locs, free z.base) (hc : cells + 1 ≤ mc) (hs : slots + 6 ≤ ms) :
    W p l e R s m args below meth c H locs cells slots (vx_MQ below Qc XC args s mc ms free) (F0 m pc ls rest) := by
  intro T hT X
  have htr : e.platform.stackTraces = false := (show e.platform.stackTraces = l.stackTraces by rw [X.admits.platform]).trans hl
  have Y := vx_rebase X (R' := { frames := R.frames, locals := R.locals, cells := 1, slots := 6 }) (Nat.le_refl _) (Nat.le_refl _) hRcells hRslots
  obtain ⟨s', hA⟩ : ∃ z, z = (T.setVm s.vm).setFrames (.invoking m args :: below) := ⟨_, rfl⟩
  rw [← hA] at Y
  have hvm : s'.vm = s.vm := by rw [hA]; rfl
  have hhp : s'.heap = H := by rw [hA]; exact hT
  have hW0 : s.WarmedH s'.vm := by rw [hvm]; exact State.WarmedH.refl s
  have hat' : ∀ w ∈ vx_at0 own ic cls names, w.before args s' = true := fun w hw => vx_ot_at hW0 hvm.symm (hgood w (List.mem_cons_of_mem _ (List.mem_cons_of_mem _ hw))) (hat w hw)
  have hk' : (Cond.classLink own ik cls).before args s' = true := vx_ot_at hW0 hvm.symm (hgood _ List.mem_cons_self) hk
  have hini' : (Cond.initialized cls).before args s' = true := vx_ot_at hW0 hvm.symm (hgood _ (List.mem_cons_of_mem _ List.mem_cons_self)) hini
  have hU' : vx_Zq Bundle.tN "UNASSIGNED_STACK" Bundle.steD A s' s'.heap := by rw [hhp]; exact vx_Zq.moved hW0.alike (hU.kept hS.2.1)
  have hN' : vx_Zq Bundle.tN "SUPPRESSED_SENTINEL" Bundle.listD A s' s'.heap := by rw [hhp]; exact vx_Zq.moved hW0.alike (hN.kept hS.2.1)
  have h : ∀ w ∈ Bundle.ownAtoms0 own ic cls names, w.before args s' = true := vx_own hat' (vx_isRefq hU'.1) (vx_isRefq hN'.1) hU'.2.word hN'.2.word
  have hown' : s'.vm.findClass own = some m.cls := by rw [hvm]; exact hown
  have hins : (Cond.instantiable cls 6).before args s' = true := h _ (by simp [Bundle.ownAtoms0])
  obtain ⟨vm₁, cX, kX, hfX, hkX, -, -, X₁, st1⟩ := Y.newCold hexec (own := own) (C := cls) (index := ik) (n := 6) hown' hk' hins hini'
    (g := F0 m pc ls rest) rfl (by rw [hb]; exact d0) (Nat.le_refl _) (Nat.le_refl _)
  generalize hT1 : (T.setVm vm₁).pushCell { cls := cX, slots := kX.instanceTypes.map defaultValue, vm := .none } = T1 at X₁ st1
  have hcat : (Value.ref T.heap.size).category = 1 := rfl
  have hcellA : T1.heap[T.heap.size]? = some (freshCell cX kX) := by rw [← hT1]; exact State.heap_pushCell_size _ _
  have d3' : decode c.code (pc + 3) = .ok (.dup, 1) := by rw [hb]; exact d3
  obtain ⟨U, hsteps, hrun, hend, hW, hsame, ce, hce, hO⟩ := X₁.ctorThrow0 hexec htr (own := own) (cls := cls) (names := names) (ic := ic) hown' hcls hnames h (fun x hx => nomatch hx) hfX hkX hcellA (by rw [hhp, hT]; exact Nat.le_refl _)
    (g := { method := m, pc := pc + 4, locals := ls, stack := .ref T.heap.size :: .ref T.heap.size :: rest, locked := none }) rfl hsize rfl rfl (rest := rest) rfl
    (by rw [hb]; exact d4) (by rw [hb]; exact d7) hout hRframes (by simp only [List.map_cons, List.sum_cons, hcat]; omega) hlocks
  obtain ⟨f1, f2⟩ := vx_frame hsame
  rw [hhp] at f1 f2
  have hWs : s.WarmedH U.vm := State.WarmedH.trans hW0 hW
  have hcl : s.vm.findClass cls = some ce.cls := by
    have h9 := hO.cls
    rw [hvm] at h9
    exact h9
  have hall : s.sameButNew ({ U with vm := s.vm } : State) locs mc ms := by
    subst hA
    obtain ⟨e1, e2⟩ := hsame
    rw [State.setFrames_setFrames] at e1
    have h2 : (T.setVm s.vm).sameButNew ({ U with vm := s.vm } : State) [] (0 + 1) (0 + 6) := ⟨e1, e2⟩
    have h3 := X.same.trans h2
    rw [List.append_nil] at h3
    exact h3.mono hc hs
  refine ⟨U, ?_, .threw T.heap.size, hrun, hend, Or.inr ⟨T.heap.size, rfl, cls, ce, locs, hx U hWs.alike f1 (fun q hq => f2 q hq (fun z hz => nomatch hz)), hce, hO.vm, hcl, hWs, hall, hf⟩⟩
  refine st1 _ ?_
  show Steps p.tables e below (T1.setTop { method := m, pc := pc + 3, locals := ls, stack := .ref T.heap.size :: rest, locked := none }) _
  jvm_step X₁.here [X₁.here.top, hexec, d3', Value.category]
  exact hsteps
theorem vx_throwS {cc : ByteArray} {pc : Nat} (hexec : p.tables.exec = Jvm.exec) (hb : c.code = cc) (hl : l.stackTraces = false) {own cls text : String} {names : List String} {ik is ic mc ms sa : Nat} {A : Nat → Prop}
    (hown : s.vm.findClass own = some m.cls) (hcls : Bundle.fit cls = true) (hnames : ∀ n ∈ names, Bundle.fit n = true)
    (hk : (Cond.classLink own ik cls).before args s = true) (hini : (Cond.initialized cls).before args s = true) (hstr : vk_R own is text sa s) (hat : ∀ w ∈ vx_atS own ic cls names, w.before args s = true)
    (hgood : ∀ w ∈ Cond.classLink own ik cls :: Cond.initialized cls :: vx_atS own ic cls names, vx_ot w = true)
    (hU : vx_Zq Bundle.tN "UNASSIGNED_STACK" Bundle.steD A s s.heap) (hN : vx_Zq Bundle.tN "SUPPRESSED_SENTINEL" Bundle.listD A s s.heap) (hS : va_S A s.heap H locs) (hsize : ls.size = c.maxLocals)
    (d0 : decode cc pc = .ok (.new ik, 3)) (d3 : decode cc (pc + 3) = .ok (.dup, 1)) (d4 : decode cc (pc + 4) = .ok (.ldc is, 2)) (d6 : decode cc (pc + 6) = .ok (.invokespecial ic, 3)) (d9 : decode cc (pc + 9) = .ok (.athrow, 1))
    (hout : ∀ x ∈ c.exceptionTable.toList, covers x (pc + 9) = false)
    (hRframes : names.length + 3 < R.frames) (hRlocals : (rest.map fun v => v.category).sum + (13 * (names.length + 1) + 43) ≤ R.locals) (hRcells : cells + 1 ≤ R.cells) (hRslots : slots + 6 ≤ R.slots) (hlocks : meth.locks = false)
    (hx : ∀ t : State, s.vm.Alike t.vm → H.size ≤ t.heap.size → (∀ q : Nat, q < H.size → t.heap[q]? = H[q]?) → XC cls s t)
    (hf : ∀ z ∈ locs, free z.base) (hc : cells + 1 ≤ mc) (hs : slots + 6 ≤ ms) :
    W p l e R s m args below meth c H locs cells slots (vx_MQ below Qc XC args s mc ms free) (F0 m pc ls rest) := by
  intro T hT X
  have htr : e.platform.stackTraces = false := (show e.platform.stackTraces = l.stackTraces by rw [X.admits.platform]).trans hl
  have Y := vx_rebase X (R' := { frames := R.frames, locals := R.locals, cells := 1, slots := 6 }) (Nat.le_refl _) (Nat.le_refl _) hRcells hRslots
  obtain ⟨s', hA⟩ : ∃ z, z = (T.setVm s.vm).setFrames (.invoking m args :: below) := ⟨_, rfl⟩
  rw [← hA] at Y
  have hvm : s'.vm = s.vm := by rw [hA]; rfl
  have hhp : s'.heap = H := by rw [hA]; exact hT
  have hW0 : s.WarmedH s'.vm := by rw [hvm]; exact State.WarmedH.refl s
  have hat' : ∀ w ∈ vx_atS own ic cls names, w.before args s' = true := fun w hw => vx_ot_at hW0 hvm.symm (hgood w (List.mem_cons_of_mem _ (List.mem_cons_of_mem _ hw))) (hat w hw)
  have hk' : (Cond.classLink own ik cls).before args s' = true := vx_ot_at hW0 hvm.symm (hgood _ List.mem_cons_self) hk
  have hini' : (Cond.initialized cls).before args s' = true := vx_ot_at hW0 hvm.symm (hgood _ (List.mem_cons_of_mem _ List.mem_cons_self)) hini
  have hU' : vx_Zq Bundle.tN "UNASSIGNED_STACK" Bundle.steD A s' s'.heap := by rw [hhp]; exact vx_Zq.moved hW0.alike (hU.kept hS.2.1)
  have hN' : vx_Zq Bundle.tN "SUPPRESSED_SENTINEL" Bundle.listD A s' s'.heap := by rw [hhp]; exact vx_Zq.moved hW0.alike (hN.kept hS.2.1)
  have h : ∀ w ∈ Bundle.ownAtoms own ic cls names, w.before args s' = true := vx_own hat' (vx_isRefq hU'.1) (vx_isRefq hN'.1) hU'.2.word hN'.2.word
  have hown' : s'.vm.findClass own = some m.cls := by rw [hvm]; exact hown
  have hins : (Cond.instantiable cls 6).before args s' = true := h _ (by simp [Bundle.ownAtoms])
  obtain ⟨vm₁, cX, kX, hfX, hkX, -, -, X₁, st1⟩ := Y.newCold hexec (own := own) (C := cls) (index := ik) (n := 6) hown' hk' hins hini'
    (g := F0 m pc ls rest) rfl (by rw [hb]; exact d0) (Nat.le_refl _) (Nat.le_refl _)
  generalize hT1 : (T.setVm vm₁).pushCell { cls := cX, slots := kX.instanceTypes.map defaultValue, vm := .none } = T1 at X₁ st1
  have hcat : (Value.ref T.heap.size).category = 1 := rfl
  have hcellA : T1.heap[T.heap.size]? = some (freshCell cX kX) := by rw [← hT1]; exact State.heap_pushCell_size _ _
  have d3' : decode c.code (pc + 3) = .ok (.dup, 1) := by rw [hb]; exact d3
  have d4' : decode c.code (pc + 4) = .ok (.ldc is, 2) := by rw [hb]; exact d4
  have hstr' : vk_R own is text sa s' := vk_R.warm hW0 hstr
  obtain ⟨U, hsteps, hrun, hend, hW, hsame, ce, hce, hO⟩ := X₁.ctorThrowS hexec htr (own := own) (cls := cls) (names := names) (ic := ic) hown' hcls hnames h (fun x hx => nomatch hx) hfX hkX hcellA (by rw [hhp, hT]; exact Nat.le_refl _) (msg := .ref sa) rfl
    (g := { method := m, pc := pc + 6, locals := ls, stack := .ref sa :: .ref T.heap.size :: .ref T.heap.size :: rest, locked := none }) rfl hsize rfl rfl (rest := rest) rfl
    (by rw [hb]; exact d6) (by rw [hb]; exact d9) hout hRframes (by simp only [List.map_cons, List.sum_cons, hcat]; omega) hlocks
  obtain ⟨f1, f2⟩ := vx_frame hsame
  rw [hhp] at f1 f2
  have hWs : s.WarmedH U.vm := State.WarmedH.trans hW0 hW
  have hcl : s.vm.findClass cls = some ce.cls := by
    have h9 := hO.cls
    rw [hvm] at h9
    exact h9
  have hall : s.sameButNew ({ U with vm := s.vm } : State) locs mc ms := by
    subst hA
    obtain ⟨e1, e2⟩ := hsame
    rw [State.setFrames_setFrames] at e1
    have h2 : (T.setVm s.vm).sameButNew ({ U with vm := s.vm } : State) [] (0 + 1) (0 + 6) := ⟨e1, e2⟩
    have h3 := X.same.trans h2
    rw [List.append_nil] at h3
    exact h3.mono hc hs
  refine ⟨U, ?_, .threw T.heap.size, hrun, hend, Or.inr ⟨T.heap.size, rfl, cls, ce, locs, hx U hWs.alike f1 (fun q hq => f2 q hq (fun z hz => nomatch hz)), hce, hO.vm, hcl, hWs, hall, hf⟩⟩
  refine st1 _ ?_
  show Steps p.tables e below (T1.setTop { method := m, pc := pc + 3, locals := ls, stack := .ref T.heap.size :: rest, locked := none }) _
  jvm_step X₁.here [X₁.here.top, hexec, d3', Value.category]
  exact X₁.ldcString hexec (own := own) (text := text) (index := is) (a := sa) hown' hstr'.1 hstr'.2
    (g := { method := m, pc := pc + 4, locals := ls, stack := .ref T.heap.size :: .ref T.heap.size :: rest, locked := none }) rfl d4' _ hsteps
theorem vx_throwSW {cc : ByteArray} {pc : Nat} (hexec : p.tables.exec = Jvm.exec) (hb : c.code = cc) (hl : l.stackTraces = false) {own cls text : String} {names : List String} {ik is ic mc ms sa : Nat} {A : Nat → Prop}
    (hown : s.vm.findClass own = some m.cls) (hcls : Bundle.fit cls = true) (hnames : ∀ n ∈ names, Bundle.fit n = true)
    (hk : (Cond.classLink own ik cls).before args s = true) (hini : (Cond.initialized cls).before args s = true) (hstr : vk_R own is text sa s) (hat : ∀ w ∈ vx_atS own ic cls names, w.before args s = true)
    (hgood : ∀ w ∈ Cond.classLink own ik cls :: Cond.initialized cls :: vx_atS own ic cls names, vx_ot w = true)
    (hU : vx_Zq Bundle.tN "UNASSIGNED_STACK" Bundle.steD A s s.heap) (hN : vx_Zq Bundle.tN "SUPPRESSED_SENTINEL" Bundle.listD A s s.heap) (hS : va_S A s.heap H locs) (hsize : ls.size = c.maxLocals)
    (d0 : decode cc pc = .ok (.new ik, 3)) (d3 : decode cc (pc + 3) = .ok (.dup, 1)) (d4 : decode cc (pc + 4) = .ok (.ldc_w is, 3)) (d7 : decode cc (pc + 7) = .ok (.invokespecial ic, 3)) (d10 : decode cc (pc + 10) = .ok (.athrow, 1))
    (hout : ∀ x ∈ c.exceptionTable.toList, covers x (pc + 10) = false)
    (hRframes : names.length + 3 < R.frames) (hRlocals : (rest.map fun v => v.category).sum + (13 * (names.length + 1) + 43) ≤ R.locals) (hRcells : cells + 1 ≤ R.cells) (hRslots : slots + 6 ≤ R.slots) (hlocks : meth.locks = false)
    (hx : ∀ t : State, s.vm.Alike t.vm → H.size ≤ t.heap.size → (∀ q : Nat, q < H.size → t.heap[q]? = H[q]?) → XC cls s t)
    (hf : ∀ z ∈ locs, free z.base) (hc : cells + 1 ≤ mc) (hs : slots + 6 ≤ ms) :
    W p l e R s m args below meth c H locs cells slots (vx_MQ below Qc XC args s mc ms free) (F0 m pc ls rest) := by
  intro T hT X
  have htr : e.platform.stackTraces = false := (show e.platform.stackTraces = l.stackTraces by rw [X.admits.platform]).trans hl
  have Y := vx_rebase X (R' := { frames := R.frames, locals := R.locals, cells := 1, slots := 6 }) (Nat.le_refl _) (Nat.le_refl _) hRcells hRslots
  obtain ⟨s', hA⟩ : ∃ z, z = (T.setVm s.vm).setFrames (.invoking m args :: below) := ⟨_, rfl⟩
  rw [← hA] at Y
  have hvm : s'.vm = s.vm := by rw [hA]; rfl
  have hhp : s'.heap = H := by rw [hA]; exact hT
  have hW0 : s.WarmedH s'.vm := by rw [hvm]; exact State.WarmedH.refl s
  have hat' : ∀ w ∈ vx_atS own ic cls names, w.before args s' = true := fun w hw => vx_ot_at hW0 hvm.symm (hgood w (List.mem_cons_of_mem _ (List.mem_cons_of_mem _ hw))) (hat w hw)
  have hk' : (Cond.classLink own ik cls).before args s' = true := vx_ot_at hW0 hvm.symm (hgood _ List.mem_cons_self) hk
  have hini' : (Cond.initialized cls).before args s' = true := vx_ot_at hW0 hvm.symm (hgood _ (List.mem_cons_of_mem _ List.mem_cons_self)) hini
  have hU' : vx_Zq Bundle.tN "UNASSIGNED_STACK" Bundle.steD A s' s'.heap := by rw [hhp]; exact vx_Zq.moved hW0.alike (hU.kept hS.2.1)
  have hN' : vx_Zq Bundle.tN "SUPPRESSED_SENTINEL" Bundle.listD A s' s'.heap := by rw [hhp]; exact vx_Zq.moved hW0.alike (hN.kept hS.2.1)
  have h : ∀ w ∈ Bundle.ownAtoms own ic cls names, w.before args s' = true := vx_own hat' (vx_isRefq hU'.1) (vx_isRefq hN'.1) hU'.2.word hN'.2.word
  have hown' : s'.vm.findClass own = some m.cls := by rw [hvm]; exact hown
  have hins : (Cond.instantiable cls 6).before args s' = true := h _ (by simp [Bundle.ownAtoms])
  obtain ⟨vm₁, cX, kX, hfX, hkX, -, -, X₁, st1⟩ := Y.newCold hexec (own := own) (C := cls) (index := ik) (n := 6) hown' hk' hins hini'
    (g := F0 m pc ls rest) rfl (by rw [hb]; exact d0) (Nat.le_refl _) (Nat.le_refl _)
  generalize hT1 : (T.setVm vm₁).pushCell { cls := cX, slots := kX.instanceTypes.map defaultValue, vm := .none } = T1 at X₁ st1
  have hcat : (Value.ref T.heap.size).category = 1 := rfl
  have hcellA : T1.heap[T.heap.size]? = some (freshCell cX kX) := by rw [← hT1]; exact State.heap_pushCell_size _ _
  have d3' : decode c.code (pc + 3) = .ok (.dup, 1) := by rw [hb]; exact d3
  have d4' : decode c.code (pc + 4) = .ok (.ldc_w is, 3) := by rw [hb]; exact d4
  have hstr' : vk_R own is text sa s' := vk_R.warm hW0 hstr
  obtain ⟨U, hsteps, hrun, hend, hW, hsame, ce, hce, hO⟩ := X₁.ctorThrowS hexec htr (own := own) (cls := cls) (names := names) (ic := ic) hown' hcls hnames h (fun x hx => nomatch hx) hfX hkX hcellA (by rw [hhp, hT]; exact Nat.le_refl _) (msg := .ref sa) rfl
    (g := { method := m, pc := pc + 7, locals := ls, stack := .ref sa :: .ref T.heap.size :: .ref T.heap.size :: rest, locked := none }) rfl hsize rfl rfl (rest := rest) rfl
    (by rw [hb]; exact d7) (by rw [hb]; exact d10) hout hRframes (by simp only [List.map_cons, List.sum_cons, hcat]; omega) hlocks
  obtain ⟨f1, f2⟩ := vx_frame hsame
  rw [hhp] at f1 f2
  have hWs : s.WarmedH U.vm := State.WarmedH.trans hW0 hW
  have hcl : s.vm.findClass cls = some ce.cls := by
    have h9 := hO.cls
    rw [hvm] at h9
    exact h9
  have hall : s.sameButNew ({ U with vm := s.vm } : State) locs mc ms := by
    subst hA
    obtain ⟨e1, e2⟩ := hsame
    rw [State.setFrames_setFrames] at e1
    have h2 : (T.setVm s.vm).sameButNew ({ U with vm := s.vm } : State) [] (0 + 1) (0 + 6) := ⟨e1, e2⟩
    have h3 := X.same.trans h2
    rw [List.append_nil] at h3
    exact h3.mono hc hs
  refine ⟨U, ?_, .threw T.heap.size, hrun, hend, Or.inr ⟨T.heap.size, rfl, cls, ce, locs, hx U hWs.alike f1 (fun q hq => f2 q hq (fun z hz => nomatch hz)), hce, hO.vm, hcl, hWs, hall, hf⟩⟩
  refine st1 _ ?_
  show Steps p.tables e below (T1.setTop { method := m, pc := pc + 3, locals := ls, stack := .ref T.heap.size :: rest, locked := none }) _
  jvm_step X₁.here [X₁.here.top, hexec, d3', Value.category]
  exact X₁.ldcStringW hexec (own := own) (text := text) (index := is) (a := sa) hown' hstr'.1 hstr'.2
    (g := { method := m, pc := pc + 4, locals := ls, stack := .ref T.heap.size :: .ref T.heap.size :: rest, locked := none }) rfl d4' _ hsteps
end Ends
section Bodies
variable {l : Launch}
theorem vx_ofW {y : MethodName} {ws ws' : List Cond} {rm : Room} {Pc : Array Value → State → Prop} {Qc : Array Value → State → Outcome → State → Prop} {XC : String → State → State → Prop} {mc ms : Nat} {free : Addr → Prop} {cc : ByteArray} {maxL : Nat} {ret : Option FieldType}
    (hy : plainName y.cls = true) (hw : ws = Cond.code y cc maxL ret :: ws')
    (body : ∀ p e s m args below meth c s₁, BodyLoose p l y (headSpec ws rm) cc maxL ret e s m args below meth c s₁ → c.maxLocals = maxL → (∀ x ∈ c.exceptionTable.toList, False) → Pc args s →
      W p l e (headSpec ws rm).room s m args below meth c s.heap [] 0 0 (vx_MQ below Qc XC args s mc ms free) (entryFrame m args maxL)) : vx_Met l y ws rm Pc Qc XC mc ms free := by
  refine MetFree.of_bodyS (code := cc) (maxLocals := maxL) (ret := ret) hy ?_ ?_
  · intro args s m h hn
    obtain ⟨meth, c, h1, h2, h3, h4, h5, h6, -, -⟩ := Cond.code_spec hn (atoms_spec (ws := ws) h _ (by rw [hw]; exact List.mem_cons_self))
    exact ⟨meth, c, h1, h2, h3, h4, h5, h6⟩
  · intro p e s m args below meth c s₁ B hml hP _
    have hh0 : s₁.heap = s.heap := by rw [B.state]; rfl
    have ht : ∀ x ∈ c.exceptionTable.toList, False := by
      obtain ⟨meth9, c9, h1, h2, -, -, -, -, h7, -⟩ := Cond.code_spec B.named (atoms_spec (ws := ws) B.pre _ (by rw [hw]; exact List.mem_cons_self))
      cases Option.some.inj (h1.symm.trans B.method)
      cases Option.some.inj (h2.symm.trans (Stand.of_body B).code)
      intro x hx
      rw [Array.isEmpty_iff.mp h7] at hx
      cases hx
    obtain ⟨t, a1, o, b1, b2, b3⟩ := body p e s m args below meth c s₁ B hml ht hP s₁ hh0 (Stand.of_body B)
    exact ⟨t, o, a1, b1, b2, b3⟩
theorem vx_table {p : Program} {x y : MethodName} {S : Spec} {cc bytes : ByteArray} {maxL maxL' : Nat} {ret ret' : Option FieldType} {e : Env} {s s₁ : State} {m : MethodId} {args : Array Value} {below : List Frame} {meth : Method} {c : Code} {hh : List (Nat × Nat × Nat × Nat)}
    (B : BodyLoose p l y S cc maxL ret e s m args below meth c s₁) (h : (Cond.codeWith y bytes maxL' ret' hh).before args s = true) : c.exceptionTable.toList = tableOf hh := by
  obtain ⟨m9, meth9, c9, hn9, h1, h2, -, -, h6, -⟩ := Cond.codeWith_spec h
  cases Option.some.inj (hn9.symm.trans B.named)
  cases Option.some.inj (h1.symm.trans B.method)
  cases Option.some.inj (h2.symm.trans (Stand.of_body B).code)
  rw [← h6, table_eq]
end Bodies
end VXA
section VXS
variable {p : Program} {l : Launch} {e : Env} {R : Room} {s : State} {m : MethodId} {args : Array Value} {below : List Frame} {meth : Method} {c : Code} {T : State} {H : Heap} {locs : List Loc} {cells slots : Nat}
abbrev vx_CSW (R : Room) (s : State) (args : Array Value) (own : String) (index : Nat) (y : MethodName) (bytes : ByteArray) (maxL : Nat) (ret : Option FieldType) (hh : List (Nat × Nat × Nat × Nat)) (ws : List Cond) (rm : Room) (mc ms n : Nat) : Prop :=
  (rm.cells = mc ∧ rm.slots = ms ∧ rm.frames + 1 ≤ R.frames ∧ 8 + (maxL + 11) + rm.locals ≤ R.locals ∧ (∀ w ∈ ws, ∀ (a' : Array Value) (U : State), s.WarmedH U.vm → w.before a' U = true) ∧ Cond.codeWith y bytes maxL ret hh ∈ ws) ∧
  (Cond.codeWith y bytes maxL ret hh).before args s = true ∧ (Cond.initialized y.cls).before args s = true ∧ (y.cls ≠ "java/lang/invoke/MethodHandle" ∧ y.cls ≠ "java/lang/invoke/VarHandle") ∧
  (∀ sig, parseMethodDescriptor y.desc = some sig → n = sig.parameters.length) ∧ (Cond.methodLink own index y).before args s = true ∧ (Cond.static y).before args s = true
theorem vx_cwSW {own : String} {index maxL mc ms : Nat} {y : MethodName} {bytes : ByteArray} {ret : Option FieldType} {hh : List (Nat × Nat × Nat × Nat)} {Ts ws ws' : List Cond} {rm : Room} (n : Nat) (ht : ∀ w ∈ Ts, w.before args s = true) (hT : GoodIn Ts (va_wsS own index y ws)) (hw : ws = Cond.codeWith y bytes maxL ret hh :: ws') (hrc : rm.cells = mc) (hrs : rm.slots = ms)
    (hd : y.cls ≠ "java/lang/invoke/MethodHandle" ∧ y.cls ≠ "java/lang/invoke/VarHandle" ∧ (parseMethodDescriptor y.desc).map (fun d => d.parameters.length) = some n) (hR : rm.frames + 1 ≤ R.frames ∧ 8 + (maxL + 11) + rm.locals ≤ R.locals) :
    vx_CSW R s args own index y bytes maxL ret hh ws rm mc ms n := by
  have ok : ∀ w ∈ va_wsS own index y ws, w.before args s = true := fun w h => ht w (hT w h).1
  have hG : GoodIn Ts ws := fun w h => hT w (by unfold va_wsS; exact List.mem_append_right _ h)
  have hc : Cond.codeWith y bytes maxL ret hh ∈ ws := by rw [hw]; exact List.mem_cons_self
  refine ⟨⟨hrc, hrs, hR.1, hR.2, pay_in ht hG, hc⟩, ht _ (hG _ hc).1, ok _ (by simp [va_wsS]), ⟨hd.1, hd.2.1⟩, fun sig h => ?_, ok _ (by simp [va_wsS]), ok _ (by simp [va_wsS])⟩
  have h2 := hd.2.2
  rw [h] at h2
  exact (Option.some.inj h2).symm
theorem vx_callSW (X : Stand p l e R s m args below meth c T locs cells slots) (hexec : p.tables.exec = Jvm.exec) {own : String} {index : Nat} {y : MethodName} {bytes : ByteArray} {maxL : Nat} {ret : Option FieldType} {hh : List (Nat × Nat × Nat × Nat)}
    (hown : s.vm.findClass own = some m.cls) (hlink : (Cond.methodLink own index y).before args s = true) (hstat : (Cond.static y).before args s = true) (hinit : (Cond.initialized y.cls).before args s = true)
    (hcode : (Cond.codeWith y bytes maxL ret hh).before args s = true) (hy : y.cls ≠ "java/lang/invoke/MethodHandle" ∧ y.cls ≠ "java/lang/invoke/VarHandle")
    {W9 : Nat} {Pre : Pt → Array Value → Prop} {Post : Pt → Array Value → Option Value → Pt → Prop} (hK : Back l R p e below s args y 3 W9 Pre Post)
    {g : JFrame} (hg : g.method = m) (hsize : g.locals.size = c.maxLocals) {argsL rest : List Value} (hlen : ∀ sig, parseMethodDescriptor y.desc = some sig → argsL.length = sig.parameters.length)
    (hstack : g.stack = argsL.reverse ++ rest) (hW : 2 * g.monitorRoom + (rest.map fun v => v.category).sum ≤ W9) (hdg : decode c.code g.pc = .ok (.invokestatic index, 3))
    (hpre : ∀ vm₁, s.WarmedH vm₁ → Pre ⟨T.setVm vm₁, locs, cells, slots⟩ argsL.toArray) :
    ∃ (v : Option Value) (vm₁ : Vm) (B : Pt), s.WarmedH vm₁ ∧ Stand p l e R s m args below meth c B.U B.locs B.cells B.slots ∧ Post ⟨T.setVm vm₁, locs, cells, slots⟩ argsL.toArray v B ∧
      ∀ target, Steps p.tables e below (B.U.setTop { g with pc := g.pc + 3, stack := v.toList ++ rest }) target → Steps p.tables e below (T.setTop g) target := by
  obtain ⟨mk, methM, cM, hnamed, hmethM, -, -, -, -, -, -, hsigM⟩ := Cond.codeWith_spec hcode
  have hstatic : methM.isStatic = true := Cond.static_spec hnamed hmethM hstat
  obtain ⟨kP, hkP, -⟩ := className_of_methodNamed hnamed
  have hinitP : kP.init = .initialized := Cond.initialized_spec (findClass_of_methodNamed hnamed) hkP hinit
  obtain ⟨vm₁, X₁, hstep₁⟩ := X.invokestatic hexec hown hlink hnamed hmethM hstatic hkP hinitP hy (g := g) hg (argsL := argsL) (rest := rest) (hlen _ hsigM) hstack hdg
  obtain ⟨v, B, X', hpost, hsteps⟩ := hK m meth c ⟨T.setVm vm₁, locs, cells, slots⟩ { g with stack := rest } (.invokestatic index) mk argsL.toArray X₁ hg hsize hdg hW (X₁.named hnamed) (hpre vm₁ X₁.warmed)
  exact ⟨v, vm₁, B, X₁.warmed, X', hpost, fun target h => hstep₁ _ fun acts => by rw [doInvoke_state]; exact hsteps.trans h⟩
theorem vx_runSW {y : MethodName} {bytes cc : ByteArray} {maxL nL mc ms n index : Nat} {ret : Option FieldType} {hh : List (Nat × Nat × Nat × Nat)} {ws : List Cond} {rm : Room} {Pc : Array Value → State → Prop} {Qc : Array Value → State → Outcome → State → Prop} {free : Addr → Prop} {Ts : List Cond} {own : String} {As rest : List Value} {g : JFrame}
    (S : CallFix p m c cc nL s args Ts own) (hM : Met l y ws rm Pc Qc mc ms free) (cw : vx_CSW R s args own index y bytes maxL ret hh ws rm mc ms n) (hp : PreS s H Pc As)
    (hg : g.method = m) (hn : As.length = n) (hsize : g.locals.size = nL) (hstack : g.stack = As.reverse ++ rest) (hW : 2 * g.monitorRoom + (rest.map fun v => v.category).sum ≤ 8) (hdg : decode cc g.pc = .ok (.invokestatic index, 3)) (hf : cells + mc ≤ R.cells ∧ slots + ms ≤ R.slots) :
    va_Run p l e R s m args below meth c H locs cells slots mc ms g rest (Qc As.toArray) (free) := by
  obtain ⟨⟨hrc, hrs, hfr, hlo, hws, hcw⟩, hcode, hini, hy, hlen, hl, hstt⟩ := cw
  have hK : Back l R p e below s args y 3 8 (PreOf R mc ms Pc) (PostOf Qc mc ms free) := va_backW (hh := hh) (bytes := bytes) (maxL := maxL) (ret := ret) hM hp.1 hrc hrs hfr hlo hws hcw (fun a' U hW => word_at hW (Or.inl (by first | rfl | simp [Cond.onTables, Cond.keeps, Cond.steady])) hini)
  obtain ⟨hx, hb, hml, ho, -⟩ := S
  intro T hT X
  obtain ⟨v, vm₁, ⟨U', l2, c2, s2⟩, hW₁, X', ⟨g', mk, t, L, e1, e2, hq, h1, hL, h2, h3⟩, st⟩ := vx_callSW X hx (hh := hh) (bytes := bytes) (maxL := maxL) (ret := ret) ho hl hstt hini hcode hy hK hg (hsize.trans hml.symm) (argsL := As) (rest := rest) (fun sig h => hn.trans (hlen sig h)) hstack hW (by rw [hb]; exact hdg)
    (fun vm₁ hW₁ => ⟨hf.1, hf.2, hp.2 (T.setVm vm₁) hT hW₁⟩)
  dsimp only [Pt.U, Pt.locs, Pt.cells, Pt.slots] at X' e1 e2 h1 h2 h3 st
  subst h1; subst h2; subst h3
  exact ⟨v, (T.setVm vm₁).calling g' mk As.toArray, t, U', L, hT, X', hL, e1, e2, hq, st⟩
theorem vx_outP {p : Program} {l : Launch} {e : Env} {R : Room} {s : State} {m : MethodId} {args : Array Value} {below : List Frame} {meth : Method} {c : Code} {H : Heap} {locs : List Loc} {cells slots : Nat} {free : Addr → Prop} {ls : Array Slot} {rest : List Value} {Qc : Array Value → State → Outcome → State → Prop} {XC : String → State → State → Prop}
    {pc : Nat} {own E : String} {ce : Cell} {q : Addr} {mc ms : Nat} (hown : s.vm.findClass own = some m.cls) (hlocks : meth.locks = false)
    (hpass : ∀ z ∈ c.exceptionTable.toList, covers z pc = false ∨ (z.catchType ≠ 0 ∧ ∃ nm : String, (Cond.classLink own z.catchType nm).before args s = true ∧ va_Nc E nm s)) (hcell : H[q]? = some ce) (hv : ce.vm = .none) (hcl : s.vm.findClass E = some ce.cls)
    (hx : ∀ t : State, t.heap = H → s.vm.Alike t.vm → XC E s t) (hf : ∀ z ∈ locs, free z.base) (hc : cells ≤ mc) (hs : slots ≤ ms) :
    vx_W p l e R s m args below meth c H locs cells slots (vx_MQ below Qc XC args s mc ms free) (F0 m pc ls rest) q := by
  intro T hT X
  have hpl : e.platform.magicAccessors = ({} : Platform).magicAccessors := by rw [X.admits.platform]
  obtain ⟨vm', hW', X', st⟩ := X.outThrough hlocks q (g := F0 m pc ls rest) rfl rfl rfl (cell := ce) (by rw [hT]; exact hcell) (by rw [hv]; rfl)
    (by obtain ⟨k9, h9, -⟩ := Vm.findClass_spec hcl; exact ⟨k9, h9⟩) (fun z hz => by
      rcases hpass z hz with h | ⟨hz0, nm, hl1, hn1⟩
      · exact Or.inl h
      · obtain ⟨c6, hc6, hcl6⟩ := Cond.classLink_spec hown hl1 e.platform hpl
        obtain ⟨a8, b8, h1, h2, h3⟩ := hn1
        cases Option.some.inj (h1.symm.trans hcl)
        cases Option.some.inj (h2.symm.trans hc6)
        exact Or.inr ⟨hz0, _, hcl6, h3⟩)
  obtain ⟨g₀, hfr⟩ := X'.frames_eq
  have hcell9 : ((T.setVm vm').setFrames (.throwing q :: below)).heap[q]? = some ce := by
    show T.heap[q]? = some ce
    rw [hT]; exact hcell
  have hend : Ended ((T.setVm vm').setFrames (.throwing q :: below)) below (.threw q) := State.frames_setFrames _ (State.cur_lt_of_frames hfr)
  refine ⟨(T.setVm vm').setFrames (.throwing q :: below), ?_, .threw q, X'.here.running, hend, Or.inr ⟨q, rfl, E, ce, locs, hx _ hT (X'.ends _).1.alike, hcell9, hv, hcl, (X'.ends _).1, (X'.ends _).2.mono hc hs, hf⟩⟩
  rw [X.pushThrowing_eq]
  exact st
theorem vx_lt {D : va_G} {cl : List vw_C} {ws : va_W} {H1 : Heap} (h : va_P D cl ws H1) {k : Nat} {q : Nat × va_E} (hk : ws[k]? = some q) : q.1 < H1.size := (h k q hk).lt
end VXS
section VXH
section
variable {l : Launch} {R : Room} {p : Program} {e : Env} {below : List Frame} {s : State} {sargs : Array Value} {y : MethodName} {len W9 : Nat}
theorem vx_backW {ws : List Cond} {rm : Room} {Pc : Array Value → State → Prop} {Qc : Array Value → State → Outcome → State → Prop} {XC : String → State → State → Prop} {mc ms : Nat} {free : Addr → Prop} {bytes : ByteArray} {maxL : Nat} {ret : Option FieldType} {hh : List (Nat × Nat × Nat × Nat)}
    (hM : vx_Met l y ws rm Pc Qc XC mc ms free) (hblind : FrameBlind Pc) (hrc : rm.cells = mc) (hrs : rm.slots = ms)
    (hframes : rm.frames + 1 ≤ R.frames) (hlocals : W9 + (maxL + 11) + rm.locals ≤ R.locals)
    (hws : ∀ w ∈ ws, ∀ a' U, s.WarmedH U.vm → w.before a' U = true) (hcode : Cond.codeWith y bytes maxL ret hh ∈ ws) (hinit : ∀ a' U, s.WarmedH U.vm → (Cond.initialized y.cls).before a' U = true) :
    vx_Back l R p e below s sargs y len W9 (PreOf R mc ms Pc) (PostOf Qc mc ms free) (vx_Post XC mc ms free) := by
  intro m meth c A g ig mk a X hg hsize hdg hW hn hp
  have h1 : (headSpec ws rm).pre.before a A.U = true := atoms_intro fun w hw => hws w hw _ _ X.warmed
  have h2 : (Cond.codeWith y bytes maxL ret hh).before a A.U = true := hws _ hcode _ _ X.warmed
  have h3 : (Cond.initialized y.cls).before a A.U = true := hinit _ _ X.warmed
  have h4 : A.cells + (headSpec ws rm).room.cells ≤ R.cells := by rw [show (headSpec ws rm).room.cells = mc from hrc]; exact hp.1
  have h5 : A.slots + (headSpec ws rm).room.slots ≤ R.slots := by rw [show (headSpec ws rm).room.slots = ms from hrs]; exact hp.2.1
  have hPc : Pc a (A.U.calling g mk a) := hblind _ _ _ _ hp.2.2
  obtain ⟨U, Ls, c0, s0⟩ := A
  dsimp only [Pt.U, Pt.locs, Pt.cells, Pt.slots] at h1 h2 h3 h4 h5 X hn hPc ⊢
  obtain ⟨m9, methY, cY, hn9, hmY, hcY, -, hlY, -⟩ := Cond.codeWith_spec h2
  cases Option.some.inj (hn9.symm.trans hn)
  obtain ⟨kY, hkY, -⟩ := className_of_methodNamed hn
  have hinitY : kY.init = .initialized := Cond.initialized_spec (findClass_of_methodNamed hn) hkY h3
  have h : At U g.method c below := by rw [hg]; exact X.here
  have hlocals9 : W9 + (maxL + 11) + (headSpec ws rm).room.locals ≤ R.locals := hlocals
  have happ : (headSpec ws rm).appliesLoose y e.platform (U.calling g mk a) = true :=
    Spec.appliesLoose_calling (g := g) h hdg hn hkY hinitY
      (X.room_calling (g := g) (R' := (headSpec ws rm).room) hsize hmY hcY hframes (by rw [hlY]; omega) h4 h5) h1
  obtain ⟨mid, hmid⟩ := h.above
  have hfr : (U.setTop g).frames = (.java g :: mid) ++ below := by rw [State.frames_setTop' g h.top, hmid]; rfl
  obtain ⟨o, s₂, hsteps, -, hend, hq⟩ := Steps.callFree hM p X.admits X.cas X.clock (acts := []) hfr happ hPc trivial
  have hq' : vx_Q Qc XC mc ms free a (U.calling g mk a) o s₂ := hq
  rw [State.frames_setTop' g h.top] at hend
  obtain ⟨g₀, hg0⟩ := Option.isSome_iff_exists.mp h.top
  obtain ⟨r, hr⟩ := State.topJava?_eq_some.mp hg0
  have hr' : (({ U with heap := s₂.heap, slotsUsed := s₂.slotsUsed } : State).setVm s₂.vm).frames = .java g₀ :: r := hr
  rcases hq' with ⟨hqc, L, hfe, hL⟩ | ⟨q, rfl, E, ce, L, hx, hce, hcv, hcl, hW₂, hsm, hL⟩
  · obtain ⟨⟨v, rfl⟩, hW₂, e2, q2, q3, q4, q5, q6⟩ := id hfe
    have e3 : s₂ = ({ (U.calling g mk a).setFrames s₂.frames with heap := s₂.heap, slotsUsed := s₂.slotsUsed } : State).setVm s₂.vm := by
      have : s₂ = ({ s₂ with vm := (U.calling g mk a).vm } : State).setVm s₂.vm := rfl
      rw [e2] at this
      exact this
    obtain ⟨c₂, i₂, len₂, hc₂, hd₂, hf₂⟩ := hend
    have hW' : U.WarmedH s₂.vm := hW₂
    have hcc : c₂ = c := by
      have h1 : s₂.code? g.method = U.code? g.method := by
        rw [State.code?_eq, State.code?_eq, hW'.alike.method?]
      exact Option.some.inj (hc₂.symm.trans (h1.trans h.code))
    subst hcc
    have hlen : len₂ = len := by rw [hdg] at hd₂; cases hd₂; rfl
    subst hlen
    have hs₂ : s₂ = (({ U with heap := s₂.heap, slotsUsed := s₂.slotsUsed } : State).setVm s₂.vm).setTop { g with pc := g.pc + len₂, stack := v.toList ++ g.stack } := by
      refine e3.trans ?_
      rw [hf₂, State.calling_eq h.top, State.setFrames_setFrames, State.setTop_of_frames _ hr', hr]
      rfl
    have hsame : U.sameButNew ({ U with heap := s₂.heap, slotsUsed := s₂.slotsUsed } : State) L mc ms := by
      refine ⟨?_, q2, q3, q4, q5, q6⟩
      obtain ⟨t, ht, -⟩ := State.frames_cons hr
      show ({ U with heap := s₂.heap, slotsUsed := s₂.slotsUsed } : State) = { U.setFrames U.frames with heap := s₂.heap, slotsUsed := s₂.slotsUsed }
      rw [State.setFrames_self ht]
    subst hg
    refine Or.inl ⟨v, ⟨(({ U with heap := s₂.heap, slotsUsed := s₂.slotsUsed } : State).setVm s₂.vm), Ls ++ L, c0 + mc, s0 + ms⟩,
      ⟨X.admits, X.cas, X.clock, X.frames, X.room, X.hears, X.method, X.code, (X.here.setHeapUsed s₂.heap s₂.slotsUsed).setVm hW'.alike, X.tail, State.WarmedH.trans X.warmed hW', X.limits, X.bytes, X.same.trans (hsame.setVm s.vm)⟩,
      ⟨g, mk, s₂, L, rfl, rfl, hqc, rfl, hL, rfl, rfl⟩, ?_⟩
    show Steps p.tables e below _ ((({ U with heap := s₂.heap, slotsUsed := s₂.slotsUsed } : State).setVm s₂.vm).setTop { g with pc := g.pc + len₂, stack := v.toList ++ g.stack })
    rw [← hs₂]
    exact hsteps
  · obtain ⟨e2, q2, q3, q4, q5, q6⟩ := id hsm
    have e3 : s₂ = ({ (U.calling g mk a).setFrames s₂.frames with heap := s₂.heap, slotsUsed := s₂.slotsUsed } : State).setVm s₂.vm := by
      have : s₂ = ({ s₂ with vm := (U.calling g mk a).vm } : State).setVm s₂.vm := rfl
      rw [e2] at this
      exact this
    have hf₂ : s₂.frames = .throwing q :: .java g :: U.frames.tail := hend
    have hW' : U.WarmedH s₂.vm := hW₂
    have hs₂ : s₂ = ((({ U with heap := s₂.heap, slotsUsed := s₂.slotsUsed } : State).setVm s₂.vm).setTop g).pushFrame (.throwing q) := by
      refine e3.trans ?_
      rw [hf₂, State.calling_eq h.top, State.setFrames_setFrames, State.pushFrame, State.frames_setTop _ hr', State.setTop_of_frames _ hr', State.setFrames_setFrames, hr]
      rfl
    have hsame : U.sameButNew ({ U with heap := s₂.heap, slotsUsed := s₂.slotsUsed } : State) L mc ms := by
      refine ⟨?_, q2, q3, q4, q5, q6⟩
      obtain ⟨t, ht, -⟩ := State.frames_cons hr
      show ({ U with heap := s₂.heap, slotsUsed := s₂.slotsUsed } : State) = { U.setFrames U.frames with heap := s₂.heap, slotsUsed := s₂.slotsUsed }
      rw [State.setFrames_self ht]
    subst hg
    refine Or.inr ⟨q, ⟨(({ U with heap := s₂.heap, slotsUsed := s₂.slotsUsed } : State).setVm s₂.vm), Ls ++ L, c0 + mc, s0 + ms⟩,
      ⟨X.admits, X.cas, X.clock, X.frames, X.room, X.hears, X.method, X.code, (X.here.setHeapUsed s₂.heap s₂.slotsUsed).setVm hW'.alike, X.tail, State.WarmedH.trans X.warmed hW', X.limits, X.bytes, X.same.trans (hsame.setVm s.vm)⟩,
      ⟨g, mk, s₂, L, E, ce, rfl, rfl, hx, hce, hcv, hcl, rfl, hL, rfl, rfl⟩, ?_⟩
    show Steps p.tables e below _ (((({ U with heap := s₂.heap, slotsUsed := s₂.slotsUsed } : State).setVm s₂.vm).setTop g).pushFrame (.throwing q))
    rw [← hs₂]
    exact hsteps
end
variable {p : Program} {l : Launch} {e : Env} {R : Room} {s : State} {m : MethodId} {args : Array Value} {below : List Frame} {meth : Method} {c : Code} {T : State} {H : Heap} {locs : List Loc} {cells slots : Nat}
theorem vx_callVX (X : Stand p l e R s m args below meth c T locs cells slots) (hexec : p.tables.exec = Jvm.exec) {own C : String} {index : Nat} {y : MethodName} {bytes : ByteArray} {maxL : Nat} {ret : Option FieldType} {hh : List (Nat × Nat × Nat × Nat)}
    (hown : s.vm.findClass own = some m.cls) (hlink : (Cond.methodLink own index y).before args s = true) (hinst : (Cond.instanceMethod y).before args s = true) (hsel : (Cond.selects C y y).before args s = true)
    (hcode : (Cond.codeWith y bytes maxL ret hh).before args s = true) (hy : y.cls ≠ "java/lang/invoke/MethodHandle" ∧ y.cls ≠ "java/lang/invoke/VarHandle")
    {W9 : Nat} {Pre : Pt → Array Value → Prop} {Post : Pt → Array Value → Option Value → Pt → Prop} {PostX : Pt → Array Value → Addr → Pt → Prop} (hK : vx_Back l R p e below s args y 3 W9 Pre Post PostX)
    {b : Addr} {cellB : Cell} (hcell : T.heap[b]? = some cellB) (hobj : cellB.vm.isStatics = false) (hcls : s.vm.findClass C = some cellB.cls)
    {g : JFrame} (hg : g.method = m) (hsize : g.locals.size = c.maxLocals) {argsL rest : List Value} (hlen : ∀ sig, parseMethodDescriptor y.desc = some sig → argsL.length = sig.parameters.length)
    (hstack : g.stack = argsL.reverse ++ .ref b :: rest) (hW : 2 * g.monitorRoom + (rest.map fun v => v.category).sum ≤ W9) (hdg : decode c.code g.pc = .ok (.invokevirtual index, 3))
    (hpre : ∀ vm₁, s.WarmedH vm₁ → Pre ⟨T.setVm vm₁, locs, cells, slots⟩ (Value.ref b :: argsL).toArray) :
    (∃ (v : Option Value) (vm₁ : Vm) (B : Pt), s.WarmedH vm₁ ∧ Stand p l e R s m args below meth c B.U B.locs B.cells B.slots ∧ Post ⟨T.setVm vm₁, locs, cells, slots⟩ (Value.ref b :: argsL).toArray v B ∧
      ∀ target, Steps p.tables e below (B.U.setTop { g with pc := g.pc + 3, stack := v.toList ++ rest }) target → Steps p.tables e below (T.setTop g) target) ∨
    (∃ (q : Addr) (vm₁ : Vm) (B : Pt), s.WarmedH vm₁ ∧ Stand p l e R s m args below meth c B.U B.locs B.cells B.slots ∧ PostX ⟨T.setVm vm₁, locs, cells, slots⟩ (Value.ref b :: argsL).toArray q B ∧
      Steps p.tables e below (T.setTop g) ((B.U.setTop { g with stack := rest }).pushFrame (.throwing q))) := by
  obtain ⟨mk, methM, hnamed, hmethM, hstM, habM⟩ := Cond.instanceMethod_spec hinst
  obtain ⟨m8, methM', cM, hn8, hmethM', -, -, -, -, -, -, hsigM⟩ := Cond.codeWith_spec hcode
  cases Option.some.inj (hn8.symm.trans hnamed)
  cases hmethM.symm.trans hmethM'
  obtain ⟨c2, r2, m2, q1, q2, q3, q4, kP, hkP, hkPi⟩ := Cond.selects_spec hsel
  cases hcls.symm.trans q1
  cases (State.methodFound?_of_named hnamed hy).symm.trans q2
  cases hnamed.symm.trans q3
  have hselP : selectMethod e.platform s.vm cellB.cls mk = .method mk := by rw [Launch.admits_selectMethod X.admits]; exact q4
  obtain ⟨vm₁, X₁, hstep₁⟩ := X.invokevirtual hexec hown hlink hnamed hmethM hstM hkP hkPi hy (a := b) (cell := cellB) hcell
    (fun z h => by rw [h] at hobj; cases hobj) hselP hmethM habM hkP hkPi (g := g) hg (argsL := argsL) (rest := rest) (hlen _ hsigM) hstack hdg
  rcases hK m meth c ⟨T.setVm vm₁, locs, cells, slots⟩ { g with stack := rest } (.invokevirtual index) mk (Value.ref b :: argsL).toArray X₁ hg hsize hdg hW (X₁.named hnamed) (hpre vm₁ X₁.warmed) with ⟨v, B, X', hpost, hsteps⟩ | ⟨q, B, X', hpost, hsteps⟩
  · exact Or.inl ⟨v, vm₁, B, X₁.warmed, X', hpost, fun target h => hstep₁ _ fun acts => by rw [doInvoke_state]; exact hsteps.trans h⟩
  · exact Or.inr ⟨q, vm₁, B, X₁.warmed, X', hpost, hstep₁ _ fun acts => by rw [doInvoke_state]; exact hsteps⟩
theorem vx_callSX (X : Stand p l e R s m args below meth c T locs cells slots) (hexec : p.tables.exec = Jvm.exec) {own : String} {index : Nat} {y : MethodName} {bytes : ByteArray} {maxL : Nat} {ret : Option FieldType} {hh : List (Nat × Nat × Nat × Nat)}
    (hown : s.vm.findClass own = some m.cls) (hlink : (Cond.methodLink own index y).before args s = true) (hstat : (Cond.static y).before args s = true) (hinit : (Cond.initialized y.cls).before args s = true)
    (hcode : (Cond.codeWith y bytes maxL ret hh).before args s = true) (hy : y.cls ≠ "java/lang/invoke/MethodHandle" ∧ y.cls ≠ "java/lang/invoke/VarHandle")
    {W9 : Nat} {Pre : Pt → Array Value → Prop} {Post : Pt → Array Value → Option Value → Pt → Prop} {PostX : Pt → Array Value → Addr → Pt → Prop} (hK : vx_Back l R p e below s args y 3 W9 Pre Post PostX)
    {g : JFrame} (hg : g.method = m) (hsize : g.locals.size = c.maxLocals) {argsL rest : List Value} (hlen : ∀ sig, parseMethodDescriptor y.desc = some sig → argsL.length = sig.parameters.length)
    (hstack : g.stack = argsL.reverse ++ rest) (hW : 2 * g.monitorRoom + (rest.map fun v => v.category).sum ≤ W9) (hdg : decode c.code g.pc = .ok (.invokestatic index, 3))
    (hpre : ∀ vm₁, s.WarmedH vm₁ → Pre ⟨T.setVm vm₁, locs, cells, slots⟩ argsL.toArray) :
    (∃ (v : Option Value) (vm₁ : Vm) (B : Pt), s.WarmedH vm₁ ∧ Stand p l e R s m args below meth c B.U B.locs B.cells B.slots ∧ Post ⟨T.setVm vm₁, locs, cells, slots⟩ argsL.toArray v B ∧
      ∀ target, Steps p.tables e below (B.U.setTop { g with pc := g.pc + 3, stack := v.toList ++ rest }) target → Steps p.tables e below (T.setTop g) target) ∨
    (∃ (q : Addr) (vm₁ : Vm) (B : Pt), s.WarmedH vm₁ ∧ Stand p l e R s m args below meth c B.U B.locs B.cells B.slots ∧ PostX ⟨T.setVm vm₁, locs, cells, slots⟩ argsL.toArray q B ∧
      Steps p.tables e below (T.setTop g) ((B.U.setTop { g with stack := rest }).pushFrame (.throwing q))) := by
  obtain ⟨mk, methM, cM, hnamed, hmethM, -, -, -, -, -, -, hsigM⟩ := Cond.codeWith_spec hcode
  have hstatic : methM.isStatic = true := Cond.static_spec hnamed hmethM hstat
  obtain ⟨kP, hkP, -⟩ := className_of_methodNamed hnamed
  have hinitP : kP.init = .initialized := Cond.initialized_spec (findClass_of_methodNamed hnamed) hkP hinit
  obtain ⟨vm₁, X₁, hstep₁⟩ := X.invokestatic hexec hown hlink hnamed hmethM hstatic hkP hinitP hy (g := g) hg (argsL := argsL) (rest := rest) (hlen _ hsigM) hstack hdg
  rcases hK m meth c ⟨T.setVm vm₁, locs, cells, slots⟩ { g with stack := rest } (.invokestatic index) mk argsL.toArray X₁ hg hsize hdg hW (X₁.named hnamed) (hpre vm₁ X₁.warmed) with ⟨v, B, X', hpost, hsteps⟩ | ⟨q, B, X', hpost, hsteps⟩
  · exact Or.inl ⟨v, vm₁, B, X₁.warmed, X', hpost, fun target h => hstep₁ _ fun acts => by rw [doInvoke_state]; exact hsteps.trans h⟩
  · exact Or.inr ⟨q, vm₁, B, X₁.warmed, X', hpost, hstep₁ _ fun acts => by rw [doInvoke_state]; exact hsteps⟩
theorem vx_callVW (X : Stand p l e R s m args below meth c T locs cells slots) (hexec : p.tables.exec = Jvm.exec) {own C : String} {index : Nat} {y : MethodName} {bytes : ByteArray} {maxL : Nat} {ret : Option FieldType} {hh : List (Nat × Nat × Nat × Nat)}
    (hown : s.vm.findClass own = some m.cls) (hlink : (Cond.methodLink own index y).before args s = true) (hinst : (Cond.instanceMethod y).before args s = true) (hsel : (Cond.selects C y y).before args s = true)
    (hcode : (Cond.codeWith y bytes maxL ret hh).before args s = true) (hy : y.cls ≠ "java/lang/invoke/MethodHandle" ∧ y.cls ≠ "java/lang/invoke/VarHandle")
    {W9 : Nat} {Pre : Pt → Array Value → Prop} {Post : Pt → Array Value → Option Value → Pt → Prop} (hK : Back l R p e below s args y 3 W9 Pre Post)
    {b : Addr} {cellB : Cell} (hcell : T.heap[b]? = some cellB) (hobj : cellB.vm.isStatics = false) (hcls : s.vm.findClass C = some cellB.cls)
    {g : JFrame} (hg : g.method = m) (hsize : g.locals.size = c.maxLocals) {argsL rest : List Value} (hlen : ∀ sig, parseMethodDescriptor y.desc = some sig → argsL.length = sig.parameters.length)
    (hstack : g.stack = argsL.reverse ++ .ref b :: rest) (hW : 2 * g.monitorRoom + (rest.map fun v => v.category).sum ≤ W9) (hdg : decode c.code g.pc = .ok (.invokevirtual index, 3))
    (hpre : ∀ vm₁, s.WarmedH vm₁ → Pre ⟨T.setVm vm₁, locs, cells, slots⟩ (Value.ref b :: argsL).toArray) :
    ∃ (v : Option Value) (vm₁ : Vm) (B : Pt), s.WarmedH vm₁ ∧ Stand p l e R s m args below meth c B.U B.locs B.cells B.slots ∧ Post ⟨T.setVm vm₁, locs, cells, slots⟩ (Value.ref b :: argsL).toArray v B ∧
      ∀ target, Steps p.tables e below (B.U.setTop { g with pc := g.pc + 3, stack := v.toList ++ rest }) target → Steps p.tables e below (T.setTop g) target := by
  obtain ⟨mk, methM, hnamed, hmethM, hstM, habM⟩ := Cond.instanceMethod_spec hinst
  obtain ⟨m8, methM', cM, hn8, hmethM', -, -, -, -, -, -, hsigM⟩ := Cond.codeWith_spec hcode
  cases Option.some.inj (hn8.symm.trans hnamed)
  cases hmethM.symm.trans hmethM'
  obtain ⟨c2, r2, m2, q1, q2, q3, q4, kP, hkP, hkPi⟩ := Cond.selects_spec hsel
  cases hcls.symm.trans q1
  cases (State.methodFound?_of_named hnamed hy).symm.trans q2
  cases hnamed.symm.trans q3
  have hselP : selectMethod e.platform s.vm cellB.cls mk = .method mk := by rw [Launch.admits_selectMethod X.admits]; exact q4
  obtain ⟨vm₁, X₁, hstep₁⟩ := X.invokevirtual hexec hown hlink hnamed hmethM hstM hkP hkPi hy (a := b) (cell := cellB) hcell
    (fun z h => by rw [h] at hobj; cases hobj) hselP hmethM habM hkP hkPi (g := g) hg (argsL := argsL) (rest := rest) (hlen _ hsigM) hstack hdg
  obtain ⟨v, B, X', hpost, hsteps⟩ := hK m meth c ⟨T.setVm vm₁, locs, cells, slots⟩ { g with stack := rest } (.invokevirtual index) mk (Value.ref b :: argsL).toArray X₁ hg hsize hdg hW (X₁.named hnamed) (hpre vm₁ X₁.warmed)
  exact ⟨v, vm₁, B, X₁.warmed, X', hpost, fun target h => hstep₁ _ fun acts => by rw [doInvoke_state]; exact hsteps.trans h⟩
abbrev vx_CVW (R : Room) (s : State) (args : Array Value) (own C : String) (index : Nat) (y : MethodName) (bytes : ByteArray) (maxL : Nat) (ret : Option FieldType) (hh : List (Nat × Nat × Nat × Nat)) (ws : List Cond) (rm : Room) (mc ms n : Nat) : Prop :=
  (rm.cells = mc ∧ rm.slots = ms ∧ rm.frames + 1 ≤ R.frames ∧ 8 + (maxL + 11) + rm.locals ≤ R.locals ∧ (∀ w ∈ ws, ∀ (a' : Array Value) (U : State), s.WarmedH U.vm → w.before a' U = true) ∧ Cond.codeWith y bytes maxL ret hh ∈ ws) ∧
  (Cond.codeWith y bytes maxL ret hh).before args s = true ∧ (Cond.initialized y.cls).before args s = true ∧ (y.cls ≠ "java/lang/invoke/MethodHandle" ∧ y.cls ≠ "java/lang/invoke/VarHandle") ∧
  (∀ sig, parseMethodDescriptor y.desc = some sig → n = sig.parameters.length) ∧ (Cond.methodLink own index y).before args s = true ∧ (Cond.instanceMethod y).before args s = true ∧ (Cond.selects C y y).before args s = true
theorem vx_cwVW {own C : String} {index maxL mc ms : Nat} {y : MethodName} {bytes : ByteArray} {ret : Option FieldType} {hh : List (Nat × Nat × Nat × Nat)} {Ts ws ws' : List Cond} {rm : Room} (n : Nat) (ht : ∀ w ∈ Ts, w.before args s = true) (hT : GoodIn Ts (wsV own index C y ws)) (hw : ws = Cond.codeWith y bytes maxL ret hh :: ws') (hrc : rm.cells = mc) (hrs : rm.slots = ms)
    (hd : y.cls = C ∧ y.cls ≠ "java/lang/invoke/MethodHandle" ∧ y.cls ≠ "java/lang/invoke/VarHandle" ∧ (parseMethodDescriptor y.desc).map (fun d => d.parameters.length) = some n) (hR : rm.frames + 1 ≤ R.frames ∧ 8 + (maxL + 11) + rm.locals ≤ R.locals) :
    vx_CVW R s args own C index y bytes maxL ret hh ws rm mc ms n := by
  obtain ⟨hC, hd⟩ := hd
  subst hC
  have ok : ∀ w ∈ wsV own index y.cls y ws, w.before args s = true := fun w h => ht w (hT w h).1
  have hG : GoodIn Ts ws := fun w h => hT w (by unfold wsV; exact List.mem_append_right _ h)
  have hc : Cond.codeWith y bytes maxL ret hh ∈ ws := by rw [hw]; exact List.mem_cons_self
  refine ⟨⟨hrc, hrs, hR.1, hR.2, pay_in ht hG, hc⟩, ht _ (hG _ hc).1, ok _ (by simp [wsV]), ⟨hd.1, hd.2.1⟩, fun sig h => ?_, ok _ (by simp [wsV]), ok _ (by simp [wsV]), ok _ (by simp [wsV])⟩
  have h2 := hd.2.2
  rw [h] at h2
  exact (Option.some.inj h2).symm
theorem vx_runVW {y : MethodName} {bytes cc : ByteArray} {maxL nL mc ms n index : Nat} {ret : Option FieldType} {hh : List (Nat × Nat × Nat × Nat)} {ws : List Cond} {rm : Room} {Pc : Array Value → State → Prop} {Qc : Array Value → State → Outcome → State → Prop} {free : Addr → Prop} {Ts : List Cond} {own C : String} {b : Addr} {As rest : List Value} {g : JFrame}
    (S : CallFix p m c cc nL s args Ts own) (hM : Met l y ws rm Pc Qc mc ms free) (cw : vx_CVW R s args own C index y bytes maxL ret hh ws rm mc ms n) (hp : PreV s H C b Pc As)
    (hg : g.method = m) (hn : As.length = n) (hsize : g.locals.size = nL) (hstack : g.stack = As.reverse ++ .ref b :: rest) (hW : 2 * g.monitorRoom + (rest.map fun v => v.category).sum ≤ 8) (hdg : decode cc g.pc = .ok (.invokevirtual index, 3)) (hf : cells + mc ≤ R.cells ∧ slots + ms ≤ R.slots) :
    va_Run p l e R s m args below meth c H locs cells slots mc ms g rest (Qc (Value.ref b :: As).toArray) free := by
  obtain ⟨⟨hrc, hrs, hfr, hlo, hws, hcw⟩, hcode, hini, hy, hlen, hl, hin, hse⟩ := cw
  have hK : Back l R p e below s args y 3 8 (PreOf R mc ms Pc) (PostOf Qc mc ms free) := va_backW (hh := hh) (bytes := bytes) (maxL := maxL) (ret := ret) hM hp.1 hrc hrs hfr hlo hws hcw (fun a' U hW => word_at hW (Or.inl (by first | rfl | simp [Cond.onTables, Cond.keeps, Cond.steady])) hini)
  obtain ⟨hx, hb, hml, ho, -⟩ := S
  obtain ⟨-, ⟨cellB, hcB, hoB, hclB⟩, hPc⟩ := hp
  intro T hT X
  obtain ⟨v, vm₁, ⟨U', l2, c2, s2⟩, hW₁, X', ⟨g', mk, t, L, e1, e2, hq, h1, hL, h2, h3⟩, st⟩ := vx_callVW X hx (C := C) (hh := hh) (bytes := bytes) (maxL := maxL) (ret := ret) ho hl hin hse hcode hy hK (by rw [hT]; exact hcB) hoB hclB hg (hsize.trans hml.symm) (argsL := As) (rest := rest) (fun sig h => hn.trans (hlen sig h)) hstack hW (by rw [hb]; exact hdg)
    (fun vm₁ hW₁ => ⟨hf.1, hf.2, hPc (T.setVm vm₁) hT hW₁⟩)
  dsimp only [Pt.U, Pt.locs, Pt.cells, Pt.slots] at X' e1 e2 h1 h2 h3 st
  subst h1; subst h2; subst h3
  exact ⟨v, (T.setVm vm₁).calling g' mk (Value.ref b :: As).toArray, t, U', L, hT, X', hL, e1, e2, hq, st⟩
section
variable {y : MethodName} {bytes cc : ByteArray} {maxL nL mc ms n index : Nat} {ret : Option FieldType} {ws : List Cond} {rm : Room} {Pc : Array Value → State → Prop} {Qc : Array Value → State → Outcome → State → Prop} {XC : String → State → State → Prop} {free : Addr → Prop} {Ts : List Cond} {own C : String} {b : Addr} {As rest : List Value} {g : JFrame}
theorem vx_runVX {hh : List (Nat × Nat × Nat × Nat)} (S : CallFix p m c cc nL s args Ts own) (hM : vx_Met l y ws rm Pc Qc XC mc ms free) (cw : vx_CVW R s args own C index y bytes maxL ret hh ws rm mc ms n) (hp : PreV s H C b Pc As)
    (hg : g.method = m) (hn : As.length = n) (hsize : g.locals.size = nL) (hstack : g.stack = As.reverse ++ .ref b :: rest) (hW : 2 * g.monitorRoom + (rest.map fun v => v.category).sum ≤ 8) (hdg : decode cc g.pc = .ok (.invokevirtual index, 3)) (hf : cells + mc ≤ R.cells ∧ slots + ms ≤ R.slots) :
    vx_Run p l e R s m args below meth c H locs cells slots mc ms g rest (Qc (Value.ref b :: As).toArray) XC free := by
  obtain ⟨⟨hrc, hrs, hfr, hlo, hws, hcw⟩, hcode, hini, hy, hlen, hl, hin, hse⟩ := cw
  have hK : vx_Back l R p e below s args y 3 8 (PreOf R mc ms Pc) (PostOf Qc mc ms free) (vx_Post XC mc ms free) := vx_backW (hh := hh) (bytes := bytes) (maxL := maxL) (ret := ret) hM hp.1 hrc hrs hfr hlo hws hcw (fun a' U hW => word_at hW (Or.inl (by first | rfl | simp [Cond.onTables, Cond.keeps, Cond.steady])) hini)
  obtain ⟨hx, hb, hml, ho, -⟩ := S
  obtain ⟨-, ⟨cellB, hcB, hoB, hclB⟩, hPc⟩ := hp
  intro T hT X
  rcases vx_callVX X hx (C := C) (hh := hh) (bytes := bytes) (maxL := maxL) (ret := ret) ho hl hin hse hcode hy hK (by rw [hT]; exact hcB) hoB hclB hg (hsize.trans hml.symm) (argsL := As) (rest := rest) (fun sig h => hn.trans (hlen sig h)) hstack hW (by rw [hb]; exact hdg)
    (fun vm₁ hW₁ => ⟨hf.1, hf.2, hPc (T.setVm vm₁) hT hW₁⟩) with ⟨v, vm₁, ⟨U', l2, c2, s2⟩, hW₁, X', ⟨g', mk, t, L, e1, e2, hq, h1, hL, h2, h3⟩, st⟩ | ⟨q, vm₁, ⟨U', l2, c2, s2⟩, hW₁, X', ⟨g', mk, t, L, E, ce, e1, e2, hq, hce, hcv, hcl, h1, hL, h2, h3⟩, st⟩
  · dsimp only [Pt.U, Pt.locs, Pt.cells, Pt.slots] at X' e1 e2 h1 h2 h3 st
    subst h1; subst h2; subst h3
    exact Or.inl ⟨v, (T.setVm vm₁).calling g' mk (Value.ref b :: As).toArray, t, U', L, hT, X', hL, e1, e2, hq, st⟩
  · dsimp only [Pt.U, Pt.locs, Pt.cells, Pt.slots] at X' e1 e2 h1 h2 h3 st hcl
    subst h1; subst h2; subst h3
    exact Or.inr ⟨q, (T.setVm vm₁).calling g' mk (Value.ref b :: As).toArray, t, U', L, E, ce, hT, X', hL, e1, e2, hq, hce, hcv, vx_cls hW₁ hcl, st⟩
theorem vx_runSX {hh : List (Nat × Nat × Nat × Nat)} (S : CallFix p m c cc nL s args Ts own) (hM : vx_Met l y ws rm Pc Qc XC mc ms free) (cw : vx_CSW R s args own index y bytes maxL ret hh ws rm mc ms n) (hp : PreS s H Pc As)
    (hg : g.method = m) (hn : As.length = n) (hsize : g.locals.size = nL) (hstack : g.stack = As.reverse ++ rest) (hW : 2 * g.monitorRoom + (rest.map fun v => v.category).sum ≤ 8) (hdg : decode cc g.pc = .ok (.invokestatic index, 3)) (hf : cells + mc ≤ R.cells ∧ slots + ms ≤ R.slots) :
    vx_Run p l e R s m args below meth c H locs cells slots mc ms g rest (Qc As.toArray) XC free := by
  obtain ⟨⟨hrc, hrs, hfr, hlo, hws, hcw⟩, hcode, hini, hy, hlen, hl, hstt⟩ := cw
  have hK : vx_Back l R p e below s args y 3 8 (PreOf R mc ms Pc) (PostOf Qc mc ms free) (vx_Post XC mc ms free) := vx_backW (hh := hh) (bytes := bytes) (maxL := maxL) (ret := ret) hM hp.1 hrc hrs hfr hlo hws hcw (fun a' U hW => word_at hW (Or.inl (by first | rfl | simp [Cond.onTables, Cond.keeps, Cond.steady])) hini)
  obtain ⟨hx, hb, hml, ho, -⟩ := S
  intro T hT X
  rcases vx_callSX X hx (hh := hh) (bytes := bytes) (maxL := maxL) (ret := ret) ho hl hstt hini hcode hy hK hg (hsize.trans hml.symm) (argsL := As) (rest := rest) (fun sig h => hn.trans (hlen sig h)) hstack hW (by rw [hb]; exact hdg)
    (fun vm₁ hW₁ => ⟨hf.1, hf.2, hp.2 (T.setVm vm₁) hT hW₁⟩) with ⟨v, vm₁, ⟨U', l2, c2, s2⟩, hW₁, X', ⟨g', mk, t, L, e1, e2, hq, h1, hL, h2, h3⟩, st⟩ | ⟨q, vm₁, ⟨U', l2, c2, s2⟩, hW₁, X', ⟨g', mk, t, L, E, ce, e1, e2, hq, hce, hcv, hcl, h1, hL, h2, h3⟩, st⟩
  · dsimp only [Pt.U, Pt.locs, Pt.cells, Pt.slots] at X' e1 e2 h1 h2 h3 st
    subst h1; subst h2; subst h3
    exact Or.inl ⟨v, (T.setVm vm₁).calling g' mk As.toArray, t, U', L, hT, X', hL, e1, e2, hq, st⟩
  · dsimp only [Pt.U, Pt.locs, Pt.cells, Pt.slots] at X' e1 e2 h1 h2 h3 st hcl
    subst h1; subst h2; subst h3
    exact Or.inr ⟨q, (T.setVm vm₁).calling g' mk As.toArray, t, U', L, E, ce, hT, X', hL, e1, e2, hq, hce, hcv, vx_cls hW₁ hcl, st⟩
end
end VXH
theorem vx_ofWH {l : Launch} {y : MethodName} {ws ws' : List Cond} {rm : Room} {Pc : Array Value → State → Prop} {Qc : Array Value → State → Outcome → State → Prop} {XC : String → State → State → Prop} {mc ms : Nat} {free : Addr → Prop} {cc : ByteArray} {maxL : Nat} {ret : Option FieldType} {hh : List (Nat × Nat × Nat × Nat)}
    (hy : plainName y.cls = true) (hw : ws = Cond.codeWith y cc maxL ret hh :: ws')
    (body : ∀ p e s m args below meth c s₁, BodyLoose p l y (headSpec ws rm) cc maxL ret e s m args below meth c s₁ → c.maxLocals = maxL → Pc args s →
      W p l e (headSpec ws rm).room s m args below meth c s.heap [] 0 0 (vx_MQ below Qc XC args s mc ms free) (entryFrame m args maxL)) : vx_Met l y ws rm Pc Qc XC mc ms free := by
  refine MetFree.of_bodyS (code := cc) (maxLocals := maxL) (ret := ret) hy ?_ ?_
  · intro args s m h hn
    obtain ⟨m9, meth, c, hn9, h1, h2, h3, h4, -, h5, h6, -⟩ := Cond.codeWith_spec (atoms_spec (ws := ws) h _ (by rw [hw]; exact List.mem_cons_self))
    cases hn.symm.trans hn9
    exact ⟨meth, c, h1, h2, h3, h4, h5, h6⟩
  · intro p e s m args below meth c s₁ B hml hP _
    have hh0 : s₁.heap = s.heap := by rw [B.state]; rfl
    obtain ⟨t, a1, o, b1, b2, b3⟩ := body p e s m args below meth c s₁ B hml hP s₁ hh0 (Stand.of_body B)
    exact ⟨t, o, a1, b1, b2, b3⟩
end
section
section PMW
def pm_L (sz n : Nat) (w : Nat → va_E) : va_W := (List.range n).map fun k => (sz + k, w k)
theorem pm_L_get {sz n k : Nat} {w : Nat → va_E} (h : k < n) : (pm_L sz n w)[k]? = some (sz + k, w k) := by
  unfold pm_L
  rw [List.getElem?_map, List.getElem?_range h]
  rfl
theorem pm_L_inv {sz n k : Nat} {w : Nat → va_E} {q : Nat × va_E} (h : (pm_L sz n w)[k]? = some q) : k < n ∧ q = (sz + k, w k) := by
  by_cases hk : k < n
  · rw [pm_L_get hk] at h
    exact ⟨hk, (Option.some.inj h).symm⟩
  · unfold pm_L at h
    rw [List.getElem?_eq_none (by simp; omega)] at h
    cases h
theorem pm_L_set {sz n k : Nat} {w : Nat → va_E} {x : va_E} : (pm_L sz n w).set k (sz + k, x) = pm_L sz n (va_up w k x) := by
  apply List.ext_getElem?
  intro j
  rw [List.getElem?_set]
  by_cases hj : k = j
  · subst hj
    rw [if_pos rfl]
    by_cases hk : k < n
    · rw [pm_L_get hk, if_pos (by simp [pm_L, hk])]
      simp [va_up]
    · rw [if_neg (by simp [pm_L]; omega)]
      unfold pm_L
      rw [List.getElem?_eq_none (by simp; omega)]
  · rw [if_neg hj]
    by_cases hk : j < n
    · rw [pm_L_get hk, pm_L_get hk]
      simp [va_up, Ne.symm hj]
    · unfold pm_L
      rw [List.getElem?_eq_none (by simp; omega), List.getElem?_eq_none (by simp; omega)]
theorem pm_L_push {sz n : Nat} {w : Nat → va_E} {x : va_E} : pm_L sz n w ++ [(sz + n, x)] = pm_L sz (n + 1) (va_up w n x) := by
  unfold pm_L
  rw [List.range_succ, List.map_append]
  congr 1
  · apply List.map_congr_left
    intro k hk
    have : k ≠ n := Nat.ne_of_lt (List.mem_range.mp hk)
    simp [va_up, this]
  · simp [va_up]
theorem pm_D {sz n : Nat} {w : Nat → va_E} : va_D (fun q => sz ≤ q) (pm_L sz n w) := by
  refine ⟨fun i j x y hx hy h => ?_, fun k q hq => ?_⟩
  · obtain ⟨_, rfl⟩ := pm_L_inv hx
    obtain ⟨_, rfl⟩ := pm_L_inv hy
    exact Nat.add_left_cancel h
  · obtain ⟨_, rfl⟩ := pm_L_inv hq
    exact Nat.le_add_right _ _
def pm_at (sz n : Nat) (w : Nat → va_E) (a : Nat) : Option va_E := if sz ≤ a ∧ a - sz < n then some (w (a - sz)) else none
theorem pm_at_add {sz n k : Nat} {w : Nat → va_E} (h : k < n) : pm_at sz n w (sz + k) = some (w k) := by
  unfold pm_at
  rw [Nat.add_sub_cancel_left, if_pos ⟨Nat.le_add_right _ _, h⟩]
theorem pm_at_inv {sz n a : Nat} {w : Nat → va_E} {x : va_E} (h : pm_at sz n w a = some x) : ∃ k, a = sz + k ∧ k < n ∧ w k = x ∧ a - sz = k := by
  unfold pm_at at h
  by_cases hc : sz ≤ a ∧ a - sz < n
  · rw [if_pos hc] at h
    exact ⟨a - sz, by omega, hc.2, Option.some.inj h, rfl⟩
  · rw [if_neg hc] at h
    cases h
def pm_T (tc : Nat → ClassId) : List (ClassId × FieldType) := [(tc 0, .int), (tc 1, .long), (tc 2, .boolean), (tc 3, .object "LatticeWraps$Key"), (tc 4, .object "LatticeWraps$Wrap")]
def pm_lk : List (Nat × Value) → Nat → Option Value
  | [], _ => none
  | (j, v) :: r, i => if j = i then some v else pm_lk r i
theorem pm_lk_mem {lv : List (Nat × Value)} {i : Nat} {v : Value} (h : pm_lk lv i = some v) : (i, v) ∈ lv := by
  induction lv with
  | nil => cases h
  | cons q r ih =>
    obtain ⟨j, x⟩ := q
    unfold pm_lk at h
    by_cases hj : j = i
    · rw [if_pos hj] at h
      cases h
      subst hj
      exact List.mem_cons_self
    · rw [if_neg hj] at h
      exact List.mem_cons_of_mem _ (ih h)
theorem pm_lk_ok {ls : Array Slot} {nL : Nat} {lv : List (Nat × Value)} (h : lv_has ls nL lv) {i : Nat} {v : Value} (hv : pm_lk lv i = some v) : ls[i]? = some (.val v) := h.2.2 (i, v) (pm_lk_mem hv)
def pm_f1 (i : Nat) : List (Nat × Value) → List (Nat × Value)
  | [] => []
  | (j, v) :: r => if j = i then pm_f1 i r else if j + 1 = i then (if v.category = 2 then pm_f1 i r else (j, v) :: pm_f1 i r) else (j, v) :: pm_f1 i r
def pm_f2 (i : Nat) : List (Nat × Value) → List (Nat × Value)
  | [] => []
  | (j, v) :: r => if j = i then pm_f2 i r else if j = i + 1 then pm_f2 i r else if j + 1 = i then (if v.category = 2 then pm_f2 i r else (j, v) :: pm_f2 i r) else (j, v) :: pm_f2 i r
theorem pm_f1_eq (i : Nat) (lv : List (Nat × Value)) : lv.filter (fun q => !(q.1 == i) && !(q.1 + 1 == i && q.2.category == 2)) = pm_f1 i lv := by
  induction lv with
  | nil => rfl
  | cons q r ih =>
    obtain ⟨j, v⟩ := q
    rw [List.filter_cons, ih]
    by_cases h1 : j = i
    · simp [pm_f1, h1]
    · by_cases h2 : j + 1 = i
      · by_cases h3 : v.category = 2
        · simp [pm_f1, h1, h2, h3]
        · simp [pm_f1, h1, h2, h3]
      · simp [pm_f1, h1, h2]
theorem pm_f2_eq (i : Nat) (lv : List (Nat × Value)) : lv.filter (fun q => !(q.1 == i) && (!(q.1 == i + 1) && !(q.1 + 1 == i && q.2.category == 2))) = pm_f2 i lv := by
  induction lv with
  | nil => rfl
  | cons q r ih =>
    obtain ⟨j, v⟩ := q
    rw [List.filter_cons, ih]
    by_cases h1 : j = i
    · simp [pm_f2, h1]
    · by_cases h0 : j = i + 1
      · simp [pm_f2, h0]
      · by_cases h2 : j + 1 = i
        · by_cases h3 : v.category = 2
          · simp [pm_f2, h1, h0, h2, h3]
          · simp [pm_f2, h1, h0, h2, h3]
        · simp [pm_f2, h1, h0, h2]
end PMW
section PMS
abbrev pm_C : Type := Nat × List (Nat × Value) × List Value × (Nat → va_E)
abbrev pm_FT : Type := Nat → Option (Nat × Nat × FieldType × Bool)
def pm_ln : Instr → Nat
  | .iload _ => 2
  | .lload _ => 2
  | .aload _ => 2
  | .istore _ => 2
  | .lstore _ => 2
  | .astore _ => 2
  | .bipush _ => 2
  | .ldc _ => 2
  | .sipush _ => 3
  | .getfield _ => 3
  | .putfield _ => 3
  | .goto _ => 3
  | .ifCond _ _ => 3
  | .if_icmp _ _ => 3
  | .iinc _ _ => 3
  | .ldc2_w _ => 3
  | _ => 1
def pm_ldi (i pc : Nat) (lv : List (Nat × Value)) (st : List Value) (w : Nat → va_E) : Option pm_C := match pm_lk lv i with
  | some (.int x) => some (pc, lv, .int x :: st, w)
  | _ => none
def pm_ldl (i pc : Nat) (lv : List (Nat × Value)) (st : List Value) (w : Nat → va_E) : Option pm_C := match pm_lk lv i with
  | some (.long x) => some (pc, lv, .long x :: st, w)
  | _ => none
def pm_lda (i pc : Nat) (lv : List (Nat × Value)) (st : List Value) (w : Nat → va_E) : Option pm_C := match pm_lk lv i with
  | some (.ref x) => some (pc, lv, .ref x :: st, w)
  | _ => none
def pm_sti (nL i pc : Nat) (lv : List (Nat × Value)) (st : List Value) (w : Nat → va_E) : Option pm_C := match st with
  | .int x :: r => if i < nL then some (pc, (i, .int x) :: pm_f1 i lv, r, w) else none
  | _ => none
def pm_stl (nL i pc : Nat) (lv : List (Nat × Value)) (st : List Value) (w : Nat → va_E) : Option pm_C := match st with
  | .long x :: r => if i + 1 < nL then some (pc, (i, .long x) :: pm_f2 i lv, r, w) else none
  | _ => none
def pm_sta (nL i pc : Nat) (lv : List (Nat × Value)) (st : List Value) (w : Nat → va_E) : Option pm_C := match st with
  | .ref x :: r => if i < nL then some (pc, (i, .ref x) :: pm_f1 i lv, r, w) else none
  | _ => none
def pm_ii (g : Int32 → Int32 → Int32) (pc : Nat) (lv : List (Nat × Value)) (st : List Value) (w : Nat → va_E) : Option pm_C := match st with
  | .int y :: .int x :: r => some (pc, lv, .int (g x y) :: r, w)
  | _ => none
def pm_di (g : Int32 → Int32 → Int32) (pc : Nat) (lv : List (Nat × Value)) (st : List Value) (w : Nat → va_E) : Option pm_C := match st with
  | .int y :: .int x :: r => if y = 0 then none else some (pc, lv, .int (g x y) :: r, w)
  | _ => none
def pm_ll (g : Int64 → Int64 → Int64) (pc : Nat) (lv : List (Nat × Value)) (st : List Value) (w : Nat → va_E) : Option pm_C := match st with
  | .long y :: .long x :: r => some (pc, lv, .long (g x y) :: r, w)
  | _ => none
def pm_li (g : Int64 → Int32 → Int64) (pc : Nat) (lv : List (Nat × Value)) (st : List Value) (w : Nat → va_E) : Option pm_C := match st with
  | .int y :: .long x :: r => some (pc, lv, .long (g x y) :: r, w)
  | _ => none
def pm_cz : ClassFile.Cond → Int32 → Bool
  | .eq, x => decide (x = 0)
  | .ne, x => decide (x ≠ 0)
  | .lt, x => decide (x < 0)
  | .ge, x => decide (0 ≤ x)
  | .gt, x => decide (0 < x)
  | .le, x => decide (x ≤ 0)
def pm_cc : ClassFile.Cond → Int32 → Int32 → Bool
  | .eq, x, y => decide (x = y)
  | .ne, x, y => decide (x ≠ y)
  | .lt, x, y => decide (x < y)
  | .ge, x, y => decide (y ≤ x)
  | .gt, x, y => decide (y < x)
  | .le, x, y => decide (x ≤ y)
end PMS
end
section
section PMH
def jv_shl (x y : Int32) : Int32 := x <<< (y &&& 31)
def jv_shr (x y : Int32) : Int32 := x >>> (y &&& 31)
def jv_ushr (x y : Int32) : Int32 := (x.toUInt32 >>> (y.toUInt32 &&& Int32.toUInt32 31)).toInt32
def jv_rem (x y : Int32) : Int32 := x - x / y * y
def jl_shl (x : Int64) (y : Int32) : Int64 := x <<< (y.toInt64 &&& 63)
def jl_ushr (x : Int64) (y : Int32) : Int64 := (x.toUInt64 >>> (y.toInt64.toUInt64 &&& Int64.toUInt64 63)).toInt64
def pm_ix (j : Int32) (N : Nat) : Option Nat := if j < 0 ∨ N ≤ j.toNatClampNeg then none else some j.toNatClampNeg
theorem pm_ix_inv {j : Int32} {N i : Nat} (h : pm_ix j N = some i) : vp_in j N ∧ j.toNatClampNeg = i := by
  unfold pm_ix at h
  by_cases hj : j < 0 ∨ N ≤ j.toNatClampNeg
  · rw [if_pos hj] at h
    cases h
  · rw [if_neg hj] at h
    exact ⟨hj, Option.some.inj h⟩
theorem pm_ix_nI {k N : Nat} (h : k < N) (hN : N < 2 ^ 31) : pm_ix (nI k) N = some k := by
  unfold pm_ix
  rw [if_neg (nI_in h hN), nI_clamp (Nat.lt_trans h hN)]
def pm_ial (c0 : ClassId) (x : Option va_E) (j : Int32) (pc : Nat) (lv : List (Nat × Value)) (r : List Value) (w : Nat → va_E) : Option pm_C := match x with
  | some (.inl (cA, N, .inl f)) => if cA = c0 then (pm_ix j N).map (fun i => (pc, lv, .int (f i) :: r, w)) else none
  | _ => none
def pm_lal (c0 : ClassId) (x : Option va_E) (j : Int32) (pc : Nat) (lv : List (Nat × Value)) (r : List Value) (w : Nat → va_E) : Option pm_C := match x with
  | some (.inl (cA, N, .inr (.inl f))) => if cA = c0 then (pm_ix j N).map (fun i => (pc, lv, .long (f i) :: r, w)) else none
  | _ => none
def pm_aal (c0 c1 : ClassId) (x : Option va_E) (j : Int32) (pc : Nat) (lv : List (Nat × Value)) (r : List Value) (w : Nat → va_E) : Option pm_C := match x with
  | some (.inl (cA, N, .inr (.inr (.inr (.inr f))))) => if cA = c0 ∨ cA = c1 then (pm_ix j N).map (fun i => (pc, lv, va_rf (f i) :: r, w)) else none
  | _ => none
def pm_ias (c0 : ClassId) (x : Option va_E) (k : Nat) (j v : Int32) (pc : Nat) (lv : List (Nat × Value)) (r : List Value) (w : Nat → va_E) : Option pm_C := match x with
  | some (.inl (cA, N, .inl f)) => if cA = c0 then (pm_ix j N).map (fun i => (pc, lv, r, va_up w k (.inl (cA, N, .inl (upd f i v))))) else none
  | _ => none
def pm_las (c0 : ClassId) (x : Option va_E) (k : Nat) (j : Int32) (v : Int64) (pc : Nat) (lv : List (Nat × Value)) (r : List Value) (w : Nat → va_E) : Option pm_C := match x with
  | some (.inl (cA, N, .inr (.inl f))) => if cA = c0 then (pm_ix j N).map (fun i => (pc, lv, r, va_up w k (.inl (cA, N, .inr (.inl (vp_updL f i v)))))) else none
  | _ => none
def pm_len (tc : Nat → ClassId) (x : Option va_E) (pc : Nat) (lv : List (Nat × Value)) (r : List Value) (w : Nat → va_E) : Option pm_C := match x with
  | some (.inl (cA, y)) => if cA = tc 0 ∨ cA = tc 1 ∨ cA = tc 2 then some (pc, lv, .int (Int32.ofNat y.1) :: r, w) else none
  | _ => none
def pm_gf (x : Option (Nat × Nat × FieldType × Bool)) (y : Option va_E) (pc : Nat) (lv : List (Nat × Value)) (r : List Value) (w : Nat → va_E) : Option pm_C := match x with
  | some (ci, j, _, _) => match y with
    | some (.inr (ci', fs)) => if ci' = ci then (fs[j]?).map (fun v => (pc, lv, v :: r, w)) else none
    | _ => none
  | none => none
def pm_pf (x : Option (Nat × Nat × FieldType × Bool)) (y : Option va_E) (k : Nat) (v : Value) (pc : Nat) (lv : List (Nat × Value)) (r : List Value) (w : Nat → va_E) : Option pm_C := match x with
  | some (ci, j, ty, fin) => match y with
    | some (.inr (ci', fs)) => if ci' = ci ∧ fin = false ∧ narrow ty v = v ∧ fits ty v = true ∧ j < fs.length then some (pc, lv, r, va_up w k (.inr (ci', fs.set j v))) else none
    | _ => none
  | none => none
theorem pm_map_inv {α β : Type} {f : α → β} {x : Option α} {y : β} (h : x.map f = some y) : ∃ a, x = some a ∧ y = f a := by
  cases x with
  | none => cases h
  | some a => exact ⟨a, rfl, (Option.some.inj h).symm⟩
variable {c0 c1 : ClassId} {x : Option va_E} {j v : Int32} {pc k : Nat} {lv : List (Nat × Value)} {r : List Value} {w : Nat → va_E} {q : pm_C}
theorem pm_ial_inv (h : pm_ial c0 x j pc lv r w = some q) : ∃ N f, x = some (.inl (c0, N, .inl f)) ∧ vp_in j N ∧ q = (pc, lv, .int (f j.toNatClampNeg) :: r, w) := by
  unfold pm_ial at h
  split at h
  · next cA N f =>
    by_cases hc : cA = c0
    · rw [if_pos hc] at h
      subst hc
      obtain ⟨i, hi, rfl⟩ := pm_map_inv h
      obtain ⟨h1, rfl⟩ := pm_ix_inv hi
      exact ⟨N, f, rfl, h1, rfl⟩
    · rw [if_neg hc] at h
      cases h
  · cases h
theorem pm_lal_inv (h : pm_lal c0 x j pc lv r w = some q) : ∃ N f, x = some (.inl (c0, N, .inr (.inl f))) ∧ vp_in j N ∧ q = (pc, lv, .long (f j.toNatClampNeg) :: r, w) := by
  unfold pm_lal at h
  split at h
  · next cA N f =>
    by_cases hc : cA = c0
    · rw [if_pos hc] at h
      subst hc
      obtain ⟨i, hi, rfl⟩ := pm_map_inv h
      obtain ⟨h1, rfl⟩ := pm_ix_inv hi
      exact ⟨N, f, rfl, h1, rfl⟩
    · rw [if_neg hc] at h
      cases h
  · cases h
theorem pm_aal_inv (h : pm_aal c0 c1 x j pc lv r w = some q) : ∃ cA N f, (cA = c0 ∨ cA = c1) ∧ x = some (.inl (cA, N, .inr (.inr (.inr (.inr f))))) ∧ vp_in j N ∧ q = (pc, lv, va_rf (f j.toNatClampNeg) :: r, w) := by
  unfold pm_aal at h
  split at h
  · next cA N f =>
    by_cases hc : cA = c0 ∨ cA = c1
    · rw [if_pos hc] at h
      obtain ⟨i, hi, rfl⟩ := pm_map_inv h
      obtain ⟨h1, rfl⟩ := pm_ix_inv hi
      exact ⟨cA, N, f, hc, rfl, h1, rfl⟩
    · rw [if_neg hc] at h
      cases h
  · cases h
theorem pm_ias_inv (h : pm_ias c0 x k j v pc lv r w = some q) : ∃ N f, x = some (.inl (c0, N, .inl f)) ∧ vp_in j N ∧ q = (pc, lv, r, va_up w k (.inl (c0, N, .inl (upd f j.toNatClampNeg v)))) := by
  unfold pm_ias at h
  split at h
  · next cA N f =>
    by_cases hc : cA = c0
    · rw [if_pos hc] at h
      subst hc
      obtain ⟨i, hi, rfl⟩ := pm_map_inv h
      obtain ⟨h1, rfl⟩ := pm_ix_inv hi
      exact ⟨N, f, rfl, h1, rfl⟩
    · rw [if_neg hc] at h
      cases h
  · cases h
theorem pm_las_inv {v : Int64} (h : pm_las c0 x k j v pc lv r w = some q) : ∃ N f, x = some (.inl (c0, N, .inr (.inl f))) ∧ vp_in j N ∧ q = (pc, lv, r, va_up w k (.inl (c0, N, .inr (.inl (vp_updL f j.toNatClampNeg v))))) := by
  unfold pm_las at h
  split at h
  · next cA N f =>
    by_cases hc : cA = c0
    · rw [if_pos hc] at h
      subst hc
      obtain ⟨i, hi, rfl⟩ := pm_map_inv h
      obtain ⟨h1, rfl⟩ := pm_ix_inv hi
      exact ⟨N, f, rfl, h1, rfl⟩
    · rw [if_neg hc] at h
      cases h
  · cases h
theorem pm_len_inv {tc : Nat → ClassId} (h : pm_len tc x pc lv r w = some q) : ∃ cA y, (cA = tc 0 ∨ cA = tc 1 ∨ cA = tc 2) ∧ x = some (.inl (cA, y)) ∧ q = (pc, lv, .int (Int32.ofNat y.1) :: r, w) := by
  unfold pm_len at h
  split at h
  · next cA y =>
    by_cases hc : cA = tc 0 ∨ cA = tc 1 ∨ cA = tc 2
    · rw [if_pos hc] at h
      exact ⟨cA, y, hc, rfl, (Option.some.inj h).symm⟩
    · rw [if_neg hc] at h
      cases h
  · cases h
theorem pm_gf_inv {y : Option (Nat × Nat × FieldType × Bool)} (h : pm_gf y x pc lv r w = some q) : ∃ ci i ty fin fs u, y = some (ci, i, ty, fin) ∧ x = some (.inr (ci, fs)) ∧ fs[i]? = some u ∧ q = (pc, lv, u :: r, w) := by
  unfold pm_gf at h
  split at h
  · next ci i ty fin =>
    split at h
    · next ci' fs =>
      by_cases hc : ci' = ci
      · rw [if_pos hc] at h
        subst hc
        obtain ⟨u, hu, rfl⟩ := pm_map_inv h
        exact ⟨ci', i, ty, fin, fs, u, rfl, rfl, hu, rfl⟩
      · rw [if_neg hc] at h
        cases h
    · cases h
  · cases h
theorem pm_pf_inv {y : Option (Nat × Nat × FieldType × Bool)} {u : Value} (h : pm_pf y x k u pc lv r w = some q) : ∃ ci i ty fs, y = some (ci, i, ty, false) ∧ x = some (.inr (ci, fs)) ∧ narrow ty u = u ∧ fits ty u = true ∧ i < fs.length ∧ q = (pc, lv, r, va_up w k (.inr (ci, fs.set i u))) := by
  unfold pm_pf at h
  split at h
  · next ci i ty fin =>
    split at h
    · next ci' fs =>
      by_cases hc : ci' = ci ∧ fin = false ∧ narrow ty u = u ∧ fits ty u = true ∧ i < fs.length
      · rw [if_pos hc] at h
        obtain ⟨rfl, rfl, h1, h2, h3⟩ := hc
        exact ⟨ci', i, ty, fs, rfl, rfl, h1, h2, h3, (Option.some.inj h).symm⟩
      · rw [if_neg hc] at h
        cases h
    · cases h
  · cases h
end PMH
section PMI
def pm_i (F : pm_FT) (K : Nat → Option Value) (tc : Nat → ClassId) (sz n nL : Nat) (i : Instr) (pc : Nat) (lv : List (Nat × Value)) (st : List Value) (w : Nat → va_E) : Option pm_C := match i with
  | .iconst k => some (pc + 1, lv, .int (Int32.ofInt k) :: st, w)
  | .bipush k => some (pc + 2, lv, .int (Int8.ofInt k).toInt32 :: st, w)
  | .sipush k => some (pc + 3, lv, .int (Int16.ofInt k).toInt32 :: st, w)
  | .lconst k => some (pc + 1, lv, .long (Int64.ofNat (k : Nat)) :: st, w)
  | .ldc k => match K k with
    | some (.int v) => some (pc + 2, lv, .int v :: st, w)
    | _ => none
  | .ldc2_w k => match K k with
    | some (.long v) => some (pc + 3, lv, .long v :: st, w)
    | _ => none
  | .iload_n k => pm_ldi k (pc + 1) lv st w
  | .iload k => pm_ldi k (pc + 2) lv st w
  | .lload_n k => pm_ldl k (pc + 1) lv st w
  | .lload k => pm_ldl k (pc + 2) lv st w
  | .aload_n k => pm_lda k (pc + 1) lv st w
  | .aload k => pm_lda k (pc + 2) lv st w
  | .istore_n k => pm_sti nL k (pc + 1) lv st w
  | .istore k => pm_sti nL k (pc + 2) lv st w
  | .lstore_n k => pm_stl nL k (pc + 1) lv st w
  | .lstore k => pm_stl nL k (pc + 2) lv st w
  | .astore_n k => pm_sta nL k (pc + 1) lv st w
  | .astore k => pm_sta nL k (pc + 2) lv st w
  | .iinc k d => match pm_lk lv k with
    | some (.int x) => if k < nL then some (pc + 3, (k, .int (x + Int32.ofInt d)) :: pm_f1 k lv, st, w) else none
    | _ => none
  | .iadd => pm_ii (fun x y => x + y) (pc + 1) lv st w
  | .isub => pm_ii (fun x y => x - y) (pc + 1) lv st w
  | .imul => pm_ii (fun x y => x * y) (pc + 1) lv st w
  | .iand => pm_ii (fun x y => x &&& y) (pc + 1) lv st w
  | .ior => pm_ii (fun x y => x ||| y) (pc + 1) lv st w
  | .ixor => pm_ii (fun x y => x ^^^ y) (pc + 1) lv st w
  | .ishl => pm_ii jv_shl (pc + 1) lv st w
  | .ishr => pm_ii jv_shr (pc + 1) lv st w
  | .iushr => pm_ii jv_ushr (pc + 1) lv st w
  | .idiv => pm_di (fun x y => x / y) (pc + 1) lv st w
  | .irem => pm_di jv_rem (pc + 1) lv st w
  | .ineg => match st with
    | .int x :: r => some (pc + 1, lv, .int (-x) :: r, w)
    | _ => none
  | .ladd => pm_ll (fun x y => x + y) (pc + 1) lv st w
  | .lsub => pm_ll (fun x y => x - y) (pc + 1) lv st w
  | .lmul => pm_ll (fun x y => x * y) (pc + 1) lv st w
  | .land => pm_ll (fun x y => x &&& y) (pc + 1) lv st w
  | .lor => pm_ll (fun x y => x ||| y) (pc + 1) lv st w
  | .lxor => pm_ll (fun x y => x ^^^ y) (pc + 1) lv st w
  | .lshl => pm_li jl_shl (pc + 1) lv st w
  | .lushr => pm_li jl_ushr (pc + 1) lv st w
  | .lcmp => match st with
    | .long y :: .long x :: r => some (pc + 1, lv, .int (lg_cmp x y) :: r, w)
    | _ => none
  | .i2l => match st with
    | .int x :: r => some (pc + 1, lv, .long x.toInt64 :: r, w)
    | _ => none
  | .l2i => match st with
    | .long x :: r => some (pc + 1, lv, .int x.toInt32 :: r, w)
    | _ => none
  | .dup => match st with
    | v :: r => if v.category = 1 then some (pc + 1, lv, v :: v :: r, w) else none
    | _ => none
  | .pop => match st with
    | v :: r => if v.category = 1 then some (pc + 1, lv, r, w) else none
    | _ => none
  | .dup_x1 => match st with
    | v :: u :: r => if v.category = 1 ∧ u.category = 1 then some (pc + 1, lv, v :: u :: v :: r, w) else none
    | _ => none
  | .dup2 => match st with
    | v :: u :: r => if v.category = 1 ∧ u.category = 1 then some (pc + 1, lv, v :: u :: v :: u :: r, w) else none
    | _ => none
  | .goto off => if 0 ≤ (pc : Int) + off then some (((pc : Int) + off).toNat, lv, st, w) else none
  | .ifCond c off => match st with
    | .int x :: r => if 0 ≤ (pc : Int) + off then some ((if pm_cz c x = true then ((pc : Int) + off).toNat else pc + 3), lv, r, w) else none
    | _ => none
  | .if_icmp c off => match st with
    | .int y :: .int x :: r => if 0 ≤ (pc : Int) + off then some ((if pm_cc c x y = true then ((pc : Int) + off).toNat else pc + 3), lv, r, w) else none
    | _ => none
  | .iaload => match st with
    | .int j :: .ref a :: r => pm_ial (tc 0) (pm_at sz n w a) j (pc + 1) lv r w
    | _ => none
  | .baload => match st with
    | .int j :: .ref a :: r => pm_ial (tc 2) (pm_at sz n w a) j (pc + 1) lv r w
    | _ => none
  | .laload => match st with
    | .int j :: .ref a :: r => pm_lal (tc 1) (pm_at sz n w a) j (pc + 1) lv r w
    | _ => none
  | .aaload => match st with
    | .int j :: .ref a :: r => pm_aal (tc 3) (tc 4) (pm_at sz n w a) j (pc + 1) lv r w
    | _ => none
  | .iastore => match st with
    | .int x :: .int j :: .ref a :: r => pm_ias (tc 0) (pm_at sz n w a) (a - sz) j x (pc + 1) lv r w
    | _ => none
  | .bastore => match st with
    | .int x :: .int j :: .ref a :: r => pm_ias (tc 2) (pm_at sz n w a) (a - sz) j (vp_nar .boolean x) (pc + 1) lv r w
    | _ => none
  | .lastore => match st with
    | .long x :: .int j :: .ref a :: r => pm_las (tc 1) (pm_at sz n w a) (a - sz) j x (pc + 1) lv r w
    | _ => none
  | .arraylength => match st with
    | .ref a :: r => pm_len tc (pm_at sz n w a) (pc + 1) lv r w
    | _ => none
  | .getfield k => match st with
    | .ref a :: r => pm_gf (F k) (pm_at sz n w a) (pc + 3) lv r w
    | _ => none
  | .putfield k => match st with
    | v :: .ref a :: r => pm_pf (F k) (pm_at sz n w a) (a - sz) v (pc + 3) lv r w
    | _ => none
  | _ => none
def pm_d (F : pm_FT) (K : Nat → Option Value) (tc : Nat → ClassId) (sz n nL : Nat) (d : Except DecodeError (Instr × Nat)) (pc : Nat) (lv : List (Nat × Value)) (st : List Value) (w : Nat → va_E) : Option pm_C := match d with
  | .ok (i, len) => if len = pm_ln i then pm_i F K tc sz n nL i pc lv st w else none
  | .error _ => none
def pm_v (cc : ByteArray) (F : pm_FT) (K : Nat → Option Value) (tc : Nat → ClassId) (sz n nL : Nat) : Nat → Nat → List (Nat × Value) → List Value → (Nat → va_E) → Option pm_C
  | 0, pc, lv, st, w => some (pc, lv, st, w)
  | k + 1, pc, lv, st, w => match pm_d F K tc sz n nL (decode cc pc) pc lv st w with
    | some (pc', lv', st', w') => pm_v cc F K tc sz n nL k pc' lv' st' w'
    | none => none
end PMI
section PMX
def pm_fok (own : String) (cl : List vw_C) (args : Array Value) (s : State) (k ci j : Nat) (ty : FieldType) (fin : Bool) : Prop :=
  ∃ (C : String) (T : u_T) (N : Nat) (ty0 : Nat → FieldType), cl[ci]? = some (C, T, N) ∧ j < N ∧ (∀ w ∈ u_ws C T N, w.before args s = true) ∧ (∀ k, k < N → parseFieldDescriptor (T k).2.2.1 = some (ty0 k)) ∧
    (∀ a, a < N → ∀ b, b < N → a ≠ b → (T a).2.1 ≠ (T b).2.1) ∧ (T j).2.2.2 = fin ∧ parseFieldDescriptor (T j).2.2.1 = some ty ∧
    ((∃ ref : String, (Cond.fieldLink own k ref (T j).2.1 (T j).2.2.1).before args s = true ∧ ∀ x, s.fieldFound? (T j).1 (T j).2.1 (T j).2.2.1 = some x → s.fieldFound? ref (T j).2.1 (T j).2.2.1 = some x) ∨
     (∃ ref host : String, (Cond.fieldLinkNest own k ref (T j).2.1 (T j).2.2.1 host).before args s = true ∧ ∀ x, s.fieldFound? (T j).1 (T j).2.1 (T j).2.2.1 = some x → s.fieldFound? ref (T j).2.1 (T j).2.2.1 = some x))
def pm_X (p : Program) (s : State) (m : MethodId) (args : Array Value) (c : Code) (cc : ByteArray) (own : String) (D : va_G) (cl : List vw_C) (tc : Nat → ClassId) (F : pm_FT) (K : Nat → Option Value) : Prop :=
  p.tables.exec = Jvm.exec ∧ c.code = cc ∧ s.vm.findClass own = some m.cls ∧ va_K D cl (pm_T tc) s ∧ (∀ k ci j ty fin, F k = some (ci, j, ty, fin) → pm_fok own cl args s k ci j ty fin) ∧
  (∀ k v, K k = some (.int v) → (Cond.constant own k v).before args s = true) ∧ (∀ k v, K k = some (.long v) → (Cond.constantLong own k v).before args s = true)
def pm_G (p : Program) (l : Launch) (e : Env) (R : Room) (s : State) (m : MethodId) (args : Array Value) (below : List Frame) (meth : Method) (c : Code) (Q : State → Prop) (D : va_G) (cl : List vw_C) (sz nL : Nat) (hz : Option Nat) (n : Nat) (cells slots : Nat) (w : Nat → va_E) (pc : Nat) (lv : List (Nat × Value)) (st : List Value) : Prop :=
  ∀ (H : Heap) (locs : List Loc) (ls : Array Slot), lv_has ls nL lv → va_P D cl (pm_L sz n w) H → va_S (fun q => sz ≤ q) s.heap H locs → (∀ k, hz = some k → H.size = k) → W p l e R s m args below meth c H locs cells slots Q (F0 m pc ls st)
end PMX
end
section
section PMO
variable {p : Program} {l : Launch} {e : Env} {R : Room} {s : State} {m : MethodId} {args : Array Value} {below : List Frame} {meth : Method} {c : Code} {Q : State → Prop} {cells slots : Nat}
variable {cc : ByteArray} {own : String} {D : va_G} {cl : List vw_C} {tc : Nat → ClassId} {F : pm_FT} {K : Nat → Option Value} {sz nL n pc : Nat} {hz : Option Nat} {w : Nat → va_E} {lv : List (Nat × Value)} {st : List Value}
theorem pm_set {H H1 : Heap} {k : Nat} {x : va_E} (hP : va_P D cl (pm_L sz n w) H) (hk : k < n) (he : va_at D cl (sz + k, x) H1) (oq : ∀ q : Nat, q ≠ sz + k → H1[q]? = H[q]?) : va_P D cl (pm_L sz n (va_up w k x)) H1 := by
  rw [← pm_L_set]
  exact hP.set (A := fun q => sz ≤ q) pm_D (pm_L_get hk) he oq
theorem pm_iast {j x : Int32} {k N : Nat} {f : Nat → Int32} {r : List Value} (hx : p.tables.exec = Jvm.exec) (hb : c.code = cc) (hK : va_K D cl (pm_T tc) s) (hk : k < n) (hw : w k = .inl (tc 0, N, .inl f)) (hin : vp_in j N) (hd : decode cc pc = .ok (.iastore, 1))
    (kk : pm_G p l e R s m args below meth c Q D cl sz nL hz n cells slots (va_up w k (.inl (tc 0, N, .inl (upd f j.toNatClampNeg x)))) (pc + 1) lv r) : pm_G p l e R s m args below meth c Q D cl sz nL hz n cells slots w pc lv (.int x :: .int j :: .ref (sz + k) :: r) := by
  intro H locs ls hl hP hS hh
  have hat : va_at D cl (sz + k, w k) H := hP k _ (pm_L_get hk)
  rw [hw] at hat
  refine W.iast hx hb hat ((hK.2 0 _ rfl).1 N (fun j => .int (f j))) (fun q => by cases q) (by show ¬ (j < 0 ∨ (arrV _ _ _).slots.size ≤ _); rw [arrV_size]; exact hin) rfl rfl hd fun H1 e z oq => ?_
  refine kk H1 _ ls hl (pm_set hP hk ?_ oq) (hS.put z oq (Nat.le_add_right _ _)) (fun k hk => z.trans (hh k hk))
  show H1[sz + k]? = some (vp_cell _ _)
  rw [e, vp_cell_i, vp_cell_i, arrV_store]
  congr 2
  funext q
  by_cases hq : q = j.toNatClampNeg
  · subst hq
    simp [updV, upd]
  · simp [updV, upd, hq]
theorem pm_zast {j x : Int32} {k N : Nat} {f : Nat → Int32} {r : List Value} (hx : p.tables.exec = Jvm.exec) (hb : c.code = cc) (hK : va_K D cl (pm_T tc) s) (hk : k < n) (hw : w k = .inl (tc 2, N, .inl f)) (hin : vp_in j N) (hd : decode cc pc = .ok (.bastore, 1))
    (kk : pm_G p l e R s m args below meth c Q D cl sz nL hz n cells slots (va_up w k (.inl (tc 2, N, .inl (upd f j.toNatClampNeg (vp_nar .boolean x))))) (pc + 1) lv r) : pm_G p l e R s m args below meth c Q D cl sz nL hz n cells slots w pc lv (.int x :: .int j :: .ref (sz + k) :: r) := by
  intro H locs ls hl hP hS hh
  have hat : va_at D cl (sz + k, w k) H := hP k _ (pm_L_get hk)
  rw [hw] at hat
  refine W.zast hx hb hat ((hK.2 2 _ rfl).1 N (fun j => .int (f j))) (fun q => by cases q) (by show ¬ (j < 0 ∨ (arrV _ _ _).slots.size ≤ _); rw [arrV_size]; exact hin) rfl rfl hd fun H1 e z oq => ?_
  refine kk H1 _ ls hl (pm_set hP hk ?_ oq) (hS.put z oq (Nat.le_add_right _ _)) (fun k hk => z.trans (hh k hk))
  show H1[sz + k]? = some (vp_cell _ _)
  rw [e, vp_cell_i, vp_cell_i, arrV_store]
  congr 2
  funext q
  by_cases hq : q = j.toNatClampNeg
  · subst hq
    simp [updV, upd, vp_nar]
    try rfl
  · simp [updV, upd, hq]
theorem pm_last {j : Int32} {x : Int64} {k N : Nat} {f : Nat → Int64} {r : List Value} (hx : p.tables.exec = Jvm.exec) (hb : c.code = cc) (hK : va_K D cl (pm_T tc) s) (hk : k < n) (hw : w k = .inl (tc 1, N, .inr (.inl f))) (hin : vp_in j N) (hd : decode cc pc = .ok (.lastore, 1))
    (kk : pm_G p l e R s m args below meth c Q D cl sz nL hz n cells slots (va_up w k (.inl (tc 1, N, .inr (.inl (vp_updL f j.toNatClampNeg x))))) (pc + 1) lv r) : pm_G p l e R s m args below meth c Q D cl sz nL hz n cells slots w pc lv (.long x :: .int j :: .ref (sz + k) :: r) := by
  intro H locs ls hl hP hS hh
  have hat : va_at D cl (sz + k, w k) H := hP k _ (pm_L_get hk)
  rw [hw] at hat
  refine W.last hx hb hat ((hK.2 1 _ rfl).1 N (fun j => .long (f j))) (fun q => by cases q) (by show ¬ (j < 0 ∨ (arrV _ _ _).slots.size ≤ _); rw [arrV_size]; exact hin) rfl rfl hd fun H1 e z oq => ?_
  refine kk H1 _ ls hl (pm_set hP hk ?_ oq) (hS.put z oq (Nat.le_add_right _ _)) (fun k hk => z.trans (hh k hk))
  show H1[sz + k]? = some (vp_cell _ _)
  rw [e, vp_cell_l, vp_cell_l, arrV_store]
  congr 2
  funext q
  by_cases hq : q = j.toNatClampNeg
  · subst hq
    simp [updV, vp_updL]
  · simp [updV, vp_updL, hq]
theorem pm_get {k i ci j : Nat} {ty : FieldType} {fin : Bool} {fs r : List Value} {v : Value} (hx : p.tables.exec = Jvm.exec) (hb : c.code = cc) (ho : s.vm.findClass own = some m.cls) (hK : va_K D cl (pm_T tc) s) (hF : pm_fok own cl args s i ci j ty fin) (hk : k < n) (hw : w k = .inr (ci, fs)) (hv : fs[j]? = some v) (hd : decode cc pc = .ok (.getfield i, 3))
    (kk : pm_G p l e R s m args below meth c Q D cl sz nL hz n cells slots w (pc + 3) lv (v :: r)) : pm_G p l e R s m args below meth c Q D cl sz nL hz n cells slots w pc lv (.ref (sz + k) :: r) := by
  intro H locs ls hl hP hS hh
  have hg : (pm_L sz n w)[k]? = some (sz + k, .inr (ci, fs)) := by rw [pm_L_get hk, hw]
  obtain ⟨C, T, N, ty0, h1, h2, h3, h4, h5, h6, h7, h8⟩ := hF
  rcases h8 with ⟨ref, h8, h9⟩ | ⟨ref, host, h8, h9⟩
  · exact va_get hx hb h3 (fun _ h => h) ho hK hP k hg h1 j h2 h8 h9 hv hd (kk H locs ls hl hP hS hh)
  · exact va_getN hx hb h3 (fun _ h => h) ho hK hP k hg h1 j h2 h8 h9 hv hd (kk H locs ls hl hP hS hh)
theorem pm_put {k i ci j : Nat} {ty : FieldType} {fs r : List Value} {v : Value} (hx : p.tables.exec = Jvm.exec) (hb : c.code = cc) (ho : s.vm.findClass own = some m.cls) (hK : va_K D cl (pm_T tc) s) (hF : pm_fok own cl args s i ci j ty false) (hk : k < n) (hw : w k = .inr (ci, fs)) (hn : narrow ty v = v) (hfit : fits ty v = true) (hj : j < fs.length) (hd : decode cc pc = .ok (.putfield i, 3))
    (kk : pm_G p l e R s m args below meth c Q D cl sz nL hz n cells slots (va_up w k (.inr (ci, fs.set j v))) (pc + 3) lv r) : pm_G p l e R s m args below meth c Q D cl sz nL hz n cells slots w pc lv (v :: .ref (sz + k) :: r) := by
  intro H locs ls hl hP hS hh
  have hg : (pm_L sz n w)[k]? = some (sz + k, .inr (ci, fs)) := by rw [pm_L_get hk, hw]
  obtain ⟨C, T, N, ty0, h1, h2, h3, h4, h5, h6, h7, h8⟩ := hF
  have hap := va_apart (own := own) h3 (fun _ h => h) ty0 h4 h5 hK h1
  obtain ⟨r0, g1, cell, q1, q2, q3, q4⟩ := hP k _ hg
  have hr : r0 = (C, T, N) := Option.some.inj (g1.symm.trans h1)
  subst hr
  obtain ⟨hSl, hfc, kC, hkC, hkind⟩ := hK.1 ci _ h1
  obtain ⟨cf, kf, fi, f, hi, hsl⟩ := hSl j h2
  have hlay := h3 _ (u_in_lay h2)
  unfold u_lay at hlay
  rw [if_neg (by rw [h6]; decide)] at hlay
  have hst := (u_facts hfc hkC (u_lays h3 (fun _ h => h) h2) hi).1
  have h10 := u_store hfc hkC hkind hlay hi h7 hn hfit
  rcases h8 with ⟨ref, h8, h9⟩ | ⟨ref, host, h8, h9⟩
  · refine W.putK hx hb (f := f) ⟨ho, h8, ⟨_, _, _, h9 _ hi⟩, hst⟩ (by rw [q2]; exact h10) q1 q3 (by rw [hsl]; exact k2_hasslot (q4 j h2)) rfl rfl hd fun H1 e1 e2 e3 => ?_
    rw [hsl] at e1
    exact kk H1 _ ls hl (pm_set hP hk ⟨_, h1, t_OB.to (V := updV (vp_V fs) j v) ⟨_, e1, q2, q3, t_set q4 hap h2 v⟩ (fun i _ => vp_updV_set hj v i)⟩ e3) (hS.put e2 e3 (Nat.le_add_right _ _)) (fun k hk => e2.trans (hh k hk))
  · refine va_WputK hx hb (f := f) ho h8 (h9 _ hi) hst (by rw [q2]; exact h10) q1 q3 (by rw [hsl]; exact k2_hasslot (q4 j h2)) rfl rfl hd fun H1 e1 e2 e3 => ?_
    rw [hsl] at e1
    exact kk H1 _ ls hl (pm_set hP hk ⟨_, h1, t_OB.to (V := updV (vp_V fs) j v) ⟨_, e1, q2, q3, t_set q4 hap h2 v⟩ (fun i _ => vp_updV_set hj v i)⟩ e3) (hS.put e2 e3 (Nat.le_add_right _ _)) (fun k hk => e2.trans (hh k hk))
end PMO
end
section
section PMV
variable {lv : List (Nat × Value)} {st : List Value} {w : Nat → va_E} {pc i nL : Nat} {q : pm_C}
theorem pm_ldi_inv (h : pm_ldi i pc lv st w = some q) : ∃ x, pm_lk lv i = some (.int x) ∧ q = (pc, lv, .int x :: st, w) := by
  unfold pm_ldi at h
  split at h
  · next x hx => exact ⟨x, hx, (Option.some.inj h).symm⟩
  · cases h
theorem pm_ldl_inv (h : pm_ldl i pc lv st w = some q) : ∃ x, pm_lk lv i = some (.long x) ∧ q = (pc, lv, .long x :: st, w) := by
  unfold pm_ldl at h
  split at h
  · next x hx => exact ⟨x, hx, (Option.some.inj h).symm⟩
  · cases h
theorem pm_lda_inv (h : pm_lda i pc lv st w = some q) : ∃ x, pm_lk lv i = some (.ref x) ∧ q = (pc, lv, .ref x :: st, w) := by
  unfold pm_lda at h
  split at h
  · next x hx => exact ⟨x, hx, (Option.some.inj h).symm⟩
  · cases h
theorem pm_sti_inv (h : pm_sti nL i pc lv st w = some q) : ∃ x r, st = .int x :: r ∧ i < nL ∧ q = (pc, (i, .int x) :: pm_f1 i lv, r, w) := by
  unfold pm_sti at h
  split at h
  · next x r =>
    by_cases hi : i < nL
    · rw [if_pos hi] at h
      exact ⟨x, r, rfl, hi, (Option.some.inj h).symm⟩
    · rw [if_neg hi] at h
      cases h
  · cases h
theorem pm_stl_inv (h : pm_stl nL i pc lv st w = some q) : ∃ x r, st = .long x :: r ∧ i + 1 < nL ∧ q = (pc, (i, .long x) :: pm_f2 i lv, r, w) := by
  unfold pm_stl at h
  split at h
  · next x r =>
    by_cases hi : i + 1 < nL
    · rw [if_pos hi] at h
      exact ⟨x, r, rfl, hi, (Option.some.inj h).symm⟩
    · rw [if_neg hi] at h
      cases h
  · cases h
theorem pm_sta_inv (h : pm_sta nL i pc lv st w = some q) : ∃ x r, st = .ref x :: r ∧ i < nL ∧ q = (pc, (i, .ref x) :: pm_f1 i lv, r, w) := by
  unfold pm_sta at h
  split at h
  · next x r =>
    by_cases hi : i < nL
    · rw [if_pos hi] at h
      exact ⟨x, r, rfl, hi, (Option.some.inj h).symm⟩
    · rw [if_neg hi] at h
      cases h
  · cases h
theorem pm_ii_inv {g : Int32 → Int32 → Int32} (h : pm_ii g pc lv st w = some q) : ∃ x y r, st = .int y :: .int x :: r ∧ q = (pc, lv, .int (g x y) :: r, w) := by
  unfold pm_ii at h
  split at h
  · next y x r => exact ⟨x, y, r, rfl, (Option.some.inj h).symm⟩
  · cases h
theorem pm_di_inv {g : Int32 → Int32 → Int32} (h : pm_di g pc lv st w = some q) : ∃ x y r, st = .int y :: .int x :: r ∧ ¬ y = 0 ∧ q = (pc, lv, .int (g x y) :: r, w) := by
  unfold pm_di at h
  split at h
  · next y x r =>
    by_cases hy : y = 0
    · rw [if_pos hy] at h
      cases h
    · rw [if_neg hy] at h
      exact ⟨x, y, r, rfl, hy, (Option.some.inj h).symm⟩
  · cases h
theorem pm_ll_inv {g : Int64 → Int64 → Int64} (h : pm_ll g pc lv st w = some q) : ∃ x y r, st = .long y :: .long x :: r ∧ q = (pc, lv, .long (g x y) :: r, w) := by
  unfold pm_ll at h
  split at h
  · next y x r => exact ⟨x, y, r, rfl, (Option.some.inj h).symm⟩
  · cases h
theorem pm_li_inv {g : Int64 → Int32 → Int64} (h : pm_li g pc lv st w = some q) : ∃ x y r, st = .int y :: .long x :: r ∧ q = (pc, lv, .long (g x y) :: r, w) := by
  unfold pm_li at h
  split at h
  · next y x r => exact ⟨x, y, r, rfl, (Option.some.inj h).symm⟩
  · cases h
end PMV
section PMM
variable {p : Program} {l : Launch} {e : Env} {R : Room} {s : State} {m : MethodId} {args : Array Value} {below : List Frame} {meth : Method} {c : Code} {Q : State → Prop} {cells slots : Nat}
variable {cc : ByteArray} {own : String} {D : va_G} {cl : List vw_C} {tc : Nat → ClassId} {F : pm_FT} {K : Nat → Option Value} {sz nL n pc : Nat} {hz : Option Nat} {w : Nat → va_E} {lv : List (Nat × Value)} {st : List Value}
set_option maxHeartbeats 4000000 in
theorem pm_i_ok (X : pm_X p s m args c cc own D cl tc F K) {i : Instr} (hd : decode cc pc = .ok (i, pm_ln i)) {q : pm_C} (h : pm_i F K tc sz n nL i pc lv st w = some q)
    (kk : pm_G p l e R s m args below meth c Q D cl sz nL hz n cells slots q.2.2.2 q.1 q.2.1 q.2.2.1) : pm_G p l e R s m args below meth c Q D cl sz nL hz n cells slots w pc lv st := by
  obtain ⟨hx, hb, ho, hK, hF, hKi, hKl⟩ := X
  cases i with
  | iconst k =>
    simp only [pm_i] at h
    cases h
    intro H locs ls hl hP hS hh
    exact lv_iconst hx hb hd rfl (kk H locs ls hl hP hS hh)
  | bipush k =>
    simp only [pm_i] at h
    cases h
    intro H locs ls hl hP hS hh
    exact lv_bipush hx hb hd rfl (kk H locs ls hl hP hS hh)
  | sipush k =>
    simp only [pm_i] at h
    cases h
    intro H locs ls hl hP hS hh
    exact lv_sipush hx hb hd rfl (kk H locs ls hl hP hS hh)
  | lconst k =>
    simp only [pm_i] at h
    cases h
    intro H locs ls hl hP hS hh
    exact lv_lconst hx hb hd rfl (kk H locs ls hl hP hS hh)
  | ldc k =>
    simp only [pm_i] at h
    split at h
    · next v hv =>
      cases h
      intro H locs ls hl hP hS hh
      exact lv_ldc hx hb ho (hKi _ _ hv) hd (kk H locs ls hl hP hS hh)
    · cases h
  | ldc2_w k =>
    simp only [pm_i] at h
    split at h
    · next v hv =>
      cases h
      intro H locs ls hl hP hS hh
      exact lv_ldc2 hx hb ho (hKl _ _ hv) hd (kk H locs ls hl hP hS hh)
    · cases h
  | iload_n k =>
    simp only [pm_i] at h
    obtain ⟨x, hx1, rfl⟩ := pm_ldi_inv h
    intro H locs ls hl hP hS hh
    exact lv_iload_n hx hb hd rfl (pm_lk_ok hl hx1) (kk H locs ls hl hP hS hh)
  | iload k =>
    simp only [pm_i] at h
    obtain ⟨x, hx1, rfl⟩ := pm_ldi_inv h
    intro H locs ls hl hP hS hh
    exact lv_iload hx hb hd (pm_lk_ok hl hx1) (kk H locs ls hl hP hS hh)
  | lload_n k =>
    simp only [pm_i] at h
    obtain ⟨x, hx1, rfl⟩ := pm_ldl_inv h
    intro H locs ls hl hP hS hh
    exact lv_lload_n hx hb hd rfl (pm_lk_ok hl hx1) (kk H locs ls hl hP hS hh)
  | lload k =>
    simp only [pm_i] at h
    obtain ⟨x, hx1, rfl⟩ := pm_ldl_inv h
    intro H locs ls hl hP hS hh
    exact lv_lload hx hb hd (pm_lk_ok hl hx1) (kk H locs ls hl hP hS hh)
  | aload_n k =>
    simp only [pm_i] at h
    obtain ⟨x, hx1, rfl⟩ := pm_lda_inv h
    intro H locs ls hl hP hS hh
    exact lv_aload_n hx hb hd rfl (pm_lk_ok hl hx1) (kk H locs ls hl hP hS hh)
  | aload k =>
    simp only [pm_i] at h
    obtain ⟨x, hx1, rfl⟩ := pm_lda_inv h
    intro H locs ls hl hP hS hh
    exact lv_aload hx hb hd (pm_lk_ok hl hx1) (kk H locs ls hl hP hS hh)
  | istore_n k =>
    simp only [pm_i] at h
    obtain ⟨x, r, rfl, hi, rfl⟩ := pm_sti_inv h
    intro H locs ls hl hP hS hh
    exact lv_istore_n hx hb hd rfl hl hi (by rw [pm_f1_eq]) (fun ls' hl' => kk H locs ls' hl' hP hS hh)
  | istore k =>
    simp only [pm_i] at h
    obtain ⟨x, r, rfl, hi, rfl⟩ := pm_sti_inv h
    intro H locs ls hl hP hS hh
    exact lv_istore hx hb hd hl hi (by rw [pm_f1_eq]) (fun ls' hl' => kk H locs ls' hl' hP hS hh)
  | lstore_n k =>
    simp only [pm_i] at h
    obtain ⟨x, r, rfl, hi, rfl⟩ := pm_stl_inv h
    intro H locs ls hl hP hS hh
    exact lv_lstore_n hx hb hd rfl hl hi (by rw [pm_f2_eq]) (fun ls' hl' => kk H locs ls' hl' hP hS hh)
  | lstore k =>
    simp only [pm_i] at h
    obtain ⟨x, r, rfl, hi, rfl⟩ := pm_stl_inv h
    intro H locs ls hl hP hS hh
    exact lv_lstore hx hb hd hl hi (by rw [pm_f2_eq]) (fun ls' hl' => kk H locs ls' hl' hP hS hh)
  | astore_n k =>
    simp only [pm_i] at h
    obtain ⟨x, r, rfl, hi, rfl⟩ := pm_sta_inv h
    intro H locs ls hl hP hS hh
    exact lv_astore_n hx hb hd rfl hl hi (by rw [pm_f1_eq]) (fun ls' hl' => kk H locs ls' hl' hP hS hh)
  | astore k =>
    simp only [pm_i] at h
    obtain ⟨x, r, rfl, hi, rfl⟩ := pm_sta_inv h
    intro H locs ls hl hP hS hh
    exact lv_astore hx hb hd hl hi (by rw [pm_f1_eq]) (fun ls' hl' => kk H locs ls' hl' hP hS hh)
  | iinc k d =>
    simp only [pm_i] at h
    split at h
    · next x hx1 =>
      by_cases hi : k < nL
      · rw [if_pos hi] at h
        cases h
        intro H locs ls hl hP hS hh
        obtain ⟨j, hj⟩ := List.getElem?_of_mem (pm_lk_mem hx1)
        exact lv_iinc hx hb hd hl hj rfl hi (by rw [pm_f1_eq]) (fun ls' hl' => kk H locs ls' hl' hP hS hh)
      · rw [if_neg hi] at h
        cases h
    · cases h
  | iadd =>
    simp only [pm_i] at h
    obtain ⟨x, y, r, rfl, rfl⟩ := pm_ii_inv h
    intro H locs ls hl hP hS hh
    exact lv_iadd hx hb hd (kk H locs ls hl hP hS hh)
  | isub =>
    simp only [pm_i] at h
    obtain ⟨x, y, r, rfl, rfl⟩ := pm_ii_inv h
    intro H locs ls hl hP hS hh
    exact lv_isub hx hb hd (kk H locs ls hl hP hS hh)
  | imul =>
    simp only [pm_i] at h
    obtain ⟨x, y, r, rfl, rfl⟩ := pm_ii_inv h
    intro H locs ls hl hP hS hh
    exact lv_imul hx hb hd (kk H locs ls hl hP hS hh)
  | iand =>
    simp only [pm_i] at h
    obtain ⟨x, y, r, rfl, rfl⟩ := pm_ii_inv h
    intro H locs ls hl hP hS hh
    exact lv_iand hx hb hd (kk H locs ls hl hP hS hh)
  | ior =>
    simp only [pm_i] at h
    obtain ⟨x, y, r, rfl, rfl⟩ := pm_ii_inv h
    intro H locs ls hl hP hS hh
    exact lv_ior hx hb hd (kk H locs ls hl hP hS hh)
  | ixor =>
    simp only [pm_i] at h
    obtain ⟨x, y, r, rfl, rfl⟩ := pm_ii_inv h
    intro H locs ls hl hP hS hh
    exact lv_ixor hx hb hd (kk H locs ls hl hP hS hh)
  | ishl =>
    simp only [pm_i] at h
    obtain ⟨x, y, r, rfl, rfl⟩ := pm_ii_inv h
    intro H locs ls hl hP hS hh
    exact lv_ishl hx hb hd (kk H locs ls hl hP hS hh)
  | ishr =>
    simp only [pm_i] at h
    obtain ⟨x, y, r, rfl, rfl⟩ := pm_ii_inv h
    intro H locs ls hl hP hS hh
    exact lv_ishr hx hb hd (kk H locs ls hl hP hS hh)
  | iushr =>
    simp only [pm_i] at h
    obtain ⟨x, y, r, rfl, rfl⟩ := pm_ii_inv h
    intro H locs ls hl hP hS hh
    exact lv_iushr hx hb hd rfl (kk H locs ls hl hP hS hh)
  | idiv =>
    simp only [pm_i] at h
    obtain ⟨x, y, r, rfl, hy, rfl⟩ := pm_di_inv h
    intro H locs ls hl hP hS hh
    exact lv_idiv hx hb hd hy (kk H locs ls hl hP hS hh)
  | irem =>
    simp only [pm_i] at h
    obtain ⟨x, y, r, rfl, hy, rfl⟩ := pm_di_inv h
    intro H locs ls hl hP hS hh
    exact lv_irem hx hb hd hy (kk H locs ls hl hP hS hh)
  | ladd =>
    simp only [pm_i] at h
    obtain ⟨x, y, r, rfl, rfl⟩ := pm_ll_inv h
    intro H locs ls hl hP hS hh
    exact lv_ladd hx hb hd (kk H locs ls hl hP hS hh)
  | lsub =>
    simp only [pm_i] at h
    obtain ⟨x, y, r, rfl, rfl⟩ := pm_ll_inv h
    intro H locs ls hl hP hS hh
    exact lv_lsub hx hb hd (kk H locs ls hl hP hS hh)
  | lmul =>
    simp only [pm_i] at h
    obtain ⟨x, y, r, rfl, rfl⟩ := pm_ll_inv h
    intro H locs ls hl hP hS hh
    exact lv_lmul hx hb hd (kk H locs ls hl hP hS hh)
  | land =>
    simp only [pm_i] at h
    obtain ⟨x, y, r, rfl, rfl⟩ := pm_ll_inv h
    intro H locs ls hl hP hS hh
    exact lv_land hx hb hd (kk H locs ls hl hP hS hh)
  | lor =>
    simp only [pm_i] at h
    obtain ⟨x, y, r, rfl, rfl⟩ := pm_ll_inv h
    intro H locs ls hl hP hS hh
    exact lv_lor hx hb hd (kk H locs ls hl hP hS hh)
  | lxor =>
    simp only [pm_i] at h
    obtain ⟨x, y, r, rfl, rfl⟩ := pm_ll_inv h
    intro H locs ls hl hP hS hh
    exact lv_lxor hx hb hd (kk H locs ls hl hP hS hh)
  | lshl =>
    simp only [pm_i] at h
    obtain ⟨x, y, r, rfl, rfl⟩ := pm_li_inv h
    intro H locs ls hl hP hS hh
    exact lv_lshl hx hb hd rfl (kk H locs ls hl hP hS hh)
  | lushr =>
    simp only [pm_i] at h
    obtain ⟨x, y, r, rfl, rfl⟩ := pm_li_inv h
    intro H locs ls hl hP hS hh
    exact lv_lushr hx hb hd rfl (kk H locs ls hl hP hS hh)
  | ineg =>
    simp only [pm_i] at h
    split at h
    · cases h
      intro H locs ls hl hP hS hh
      exact lv_ineg hx hb hd (kk H locs ls hl hP hS hh)
    · cases h
  | lcmp =>
    simp only [pm_i] at h
    split at h
    · cases h
      intro H locs ls hl hP hS hh
      exact W.lcmp hx hb hd (kk H locs ls hl hP hS hh)
    · cases h
  | i2l =>
    simp only [pm_i] at h
    split at h
    · cases h
      intro H locs ls hl hP hS hh
      exact lv_i2l hx hb hd rfl (kk H locs ls hl hP hS hh)
    · cases h
  | l2i =>
    simp only [pm_i] at h
    split at h
    · cases h
      intro H locs ls hl hP hS hh
      exact lv_l2i hx hb hd rfl (kk H locs ls hl hP hS hh)
    · cases h
  | dup =>
    simp only [pm_i] at h
    split at h
    · next v r =>
      by_cases hv : v.category = 1
      · rw [if_pos hv] at h
        cases h
        intro H locs ls hl hP hS hh
        exact lv_dup hx hb hd hv (kk H locs ls hl hP hS hh)
      · rw [if_neg hv] at h
        cases h
    · cases h
  | pop =>
    simp only [pm_i] at h
    split at h
    · next v r =>
      by_cases hv : v.category = 1
      · rw [if_pos hv] at h
        cases h
        intro H locs ls hl hP hS hh
        exact lv_pop hx hb hd hv (kk H locs ls hl hP hS hh)
      · rw [if_neg hv] at h
        cases h
    · cases h
  | dup_x1 =>
    simp only [pm_i] at h
    split at h
    · next v u r =>
      by_cases hv : v.category = 1 ∧ u.category = 1
      · rw [if_pos hv] at h
        cases h
        intro H locs ls hl hP hS hh
        exact lv_dup_x1 hx hb hd hv.1 hv.2 (kk H locs ls hl hP hS hh)
      · rw [if_neg hv] at h
        cases h
    · cases h
  | dup2 =>
    simp only [pm_i] at h
    split at h
    · next v u r =>
      by_cases hv : v.category = 1 ∧ u.category = 1
      · rw [if_pos hv] at h
        cases h
        intro H locs ls hl hP hS hh
        exact lv_dup2_11 hx hb hd hv.1 hv.2 (kk H locs ls hl hP hS hh)
      · rw [if_neg hv] at h
        cases h
    · cases h
  | goto off =>
    simp only [pm_i] at h
    by_cases h0 : 0 ≤ (pc : Int) + off
    · rw [if_pos h0] at h
      cases h
      intro H locs ls hl hP hS hh
      exact lv_goto hx hb hd (Int.toNat_of_nonneg h0).symm (kk H locs ls hl hP hS hh)
    · rw [if_neg h0] at h
      cases h
  | ifCond k off =>
    simp only [pm_i] at h
    split at h
    · next x r =>
      by_cases h0 : 0 ≤ (pc : Int) + off
      · rw [if_pos h0] at h
        cases h
        have ht := (Int.toNat_of_nonneg h0).symm
        intro H locs ls hl hP hS hh
        cases k
        · refine lv_if_eq hx hb hd ht (fun hc => ?_) (fun hc => ?_)
          · have h9 : pm_cz .eq x = true := by
              simp only [pm_cz, decide_eq_true_eq]
              exact hc
            have h8 := kk H locs ls hl hP hS hh
            dsimp only at h8
            rw [if_pos h9] at h8
            exact h8
          · have h9 : ¬ pm_cz .eq x = true := by
              simp only [pm_cz, decide_eq_true_eq]
              exact hc
            have h8 := kk H locs ls hl hP hS hh
            dsimp only at h8
            rw [if_neg h9] at h8
            exact h8
        · refine lv_if_ne hx hb hd ht (fun hc => ?_) (fun hc => ?_)
          · have h9 : pm_cz .ne x = true := by
              simp only [pm_cz, decide_eq_true_eq]
              exact hc
            have h8 := kk H locs ls hl hP hS hh
            dsimp only at h8
            rw [if_pos h9] at h8
            exact h8
          · have h9 : ¬ pm_cz .ne x = true := by
              simp only [pm_cz, decide_eq_true_eq]
              exact fun z => z hc
            have h8 := kk H locs ls hl hP hS hh
            dsimp only at h8
            rw [if_neg h9] at h8
            exact h8
        · refine lv_if_lt hx hb hd ht (fun hc => ?_) (fun hc => ?_)
          · have h9 : pm_cz .lt x = true := by
              simp only [pm_cz, decide_eq_true_eq]
              exact hc
            have h8 := kk H locs ls hl hP hS hh
            dsimp only at h8
            rw [if_pos h9] at h8
            exact h8
          · have h9 : ¬ pm_cz .lt x = true := by
              simp only [pm_cz, decide_eq_true_eq]
              exact hc
            have h8 := kk H locs ls hl hP hS hh
            dsimp only at h8
            rw [if_neg h9] at h8
            exact h8
        · refine lv_if_ge hx hb hd ht (fun hc => ?_) (fun hc => ?_)
          · have h9 : pm_cz .ge x = true := by
              simp only [pm_cz, decide_eq_true_eq]
              exact hc
            have h8 := kk H locs ls hl hP hS hh
            dsimp only at h8
            rw [if_pos h9] at h8
            exact h8
          · have h9 : ¬ pm_cz .ge x = true := by
              simp only [pm_cz, decide_eq_true_eq]
              exact hc
            have h8 := kk H locs ls hl hP hS hh
            dsimp only at h8
            rw [if_neg h9] at h8
            exact h8
        · refine lv_if_gt hx hb hd ht (fun hc => ?_) (fun hc => ?_)
          · have h9 : pm_cz .gt x = true := by
              simp only [pm_cz, decide_eq_true_eq]
              exact hc
            have h8 := kk H locs ls hl hP hS hh
            dsimp only at h8
            rw [if_pos h9] at h8
            exact h8
          · have h9 : ¬ pm_cz .gt x = true := by
              simp only [pm_cz, decide_eq_true_eq]
              exact hc
            have h8 := kk H locs ls hl hP hS hh
            dsimp only at h8
            rw [if_neg h9] at h8
            exact h8
        · refine lv_if_le hx hb hd ht (fun hc => ?_) (fun hc => ?_)
          · have h9 : pm_cz .le x = true := by
              simp only [pm_cz, decide_eq_true_eq]
              exact hc
            have h8 := kk H locs ls hl hP hS hh
            dsimp only at h8
            rw [if_pos h9] at h8
            exact h8
          · have h9 : ¬ pm_cz .le x = true := by
              simp only [pm_cz, decide_eq_true_eq]
              exact hc
            have h8 := kk H locs ls hl hP hS hh
            dsimp only at h8
            rw [if_neg h9] at h8
            exact h8
      · rw [if_neg h0] at h
        cases h
    · cases h
  | if_icmp k off =>
    simp only [pm_i] at h
    split at h
    · next y x r =>
      by_cases h0 : 0 ≤ (pc : Int) + off
      · rw [if_pos h0] at h
        cases h
        have ht := (Int.toNat_of_nonneg h0).symm
        intro H locs ls hl hP hS hh
        cases k
        · refine lv_icmp_eq hx hb hd ht (fun hc => ?_) (fun hc => ?_)
          · have h9 : pm_cc .eq x y = true := by
              simp only [pm_cc, decide_eq_true_eq]
              exact hc
            have h8 := kk H locs ls hl hP hS hh
            dsimp only at h8
            rw [if_pos h9] at h8
            exact h8
          · have h9 : ¬ pm_cc .eq x y = true := by
              simp only [pm_cc, decide_eq_true_eq]
              exact hc
            have h8 := kk H locs ls hl hP hS hh
            dsimp only at h8
            rw [if_neg h9] at h8
            exact h8
        · refine lv_icmp_ne hx hb hd ht (fun hc => ?_) (fun hc => ?_)
          · have h9 : pm_cc .ne x y = true := by
              simp only [pm_cc, decide_eq_true_eq]
              exact hc
            have h8 := kk H locs ls hl hP hS hh
            dsimp only at h8
            rw [if_pos h9] at h8
            exact h8
          · have h9 : ¬ pm_cc .ne x y = true := by
              simp only [pm_cc, decide_eq_true_eq]
              exact fun z => z hc
            have h8 := kk H locs ls hl hP hS hh
            dsimp only at h8
            rw [if_neg h9] at h8
            exact h8
        · refine lv_icmp_lt hx hb hd ht (fun hc => ?_) (fun hc => ?_)
          · have h9 : pm_cc .lt x y = true := by
              simp only [pm_cc, decide_eq_true_eq]
              exact hc
            have h8 := kk H locs ls hl hP hS hh
            dsimp only at h8
            rw [if_pos h9] at h8
            exact h8
          · have h9 : ¬ pm_cc .lt x y = true := by
              simp only [pm_cc, decide_eq_true_eq]
              exact hc
            have h8 := kk H locs ls hl hP hS hh
            dsimp only at h8
            rw [if_neg h9] at h8
            exact h8
        · refine lv_icmp_ge hx hb hd ht (fun hc => ?_) (fun hc => ?_)
          · have h9 : pm_cc .ge x y = true := by
              simp only [pm_cc, decide_eq_true_eq]
              exact hc
            have h8 := kk H locs ls hl hP hS hh
            dsimp only at h8
            rw [if_pos h9] at h8
            exact h8
          · have h9 : ¬ pm_cc .ge x y = true := by
              simp only [pm_cc, decide_eq_true_eq]
              exact hc
            have h8 := kk H locs ls hl hP hS hh
            dsimp only at h8
            rw [if_neg h9] at h8
            exact h8
        · refine lv_icmp_gt hx hb hd ht (fun hc => ?_) (fun hc => ?_)
          · have h9 : pm_cc .gt x y = true := by
              simp only [pm_cc, decide_eq_true_eq]
              exact hc
            have h8 := kk H locs ls hl hP hS hh
            dsimp only at h8
            rw [if_pos h9] at h8
            exact h8
          · have h9 : ¬ pm_cc .gt x y = true := by
              simp only [pm_cc, decide_eq_true_eq]
              exact hc
            have h8 := kk H locs ls hl hP hS hh
            dsimp only at h8
            rw [if_neg h9] at h8
            exact h8
        · refine lv_icmp_le hx hb hd ht (fun hc => ?_) (fun hc => ?_)
          · have h9 : pm_cc .le x y = true := by
              simp only [pm_cc, decide_eq_true_eq]
              exact hc
            have h8 := kk H locs ls hl hP hS hh
            dsimp only at h8
            rw [if_pos h9] at h8
            exact h8
          · have h9 : ¬ pm_cc .le x y = true := by
              simp only [pm_cc, decide_eq_true_eq]
              exact hc
            have h8 := kk H locs ls hl hP hS hh
            dsimp only at h8
            rw [if_neg h9] at h8
            exact h8
      · rw [if_neg h0] at h
        cases h
    · cases h
  | iaload =>
    simp only [pm_i] at h
    split at h
    · next j a r =>
      obtain ⟨N, f, hat, hj, rfl⟩ := pm_ial_inv h
      obtain ⟨k, rfl, hk, hw, -⟩ := pm_at_inv hat
      intro H locs ls hl hP hS hh
      exact va_iald hx hb hK hP k 0 (by rw [pm_L_get hk, hw]) rfl hj hd (kk H locs ls hl hP hS hh)
    · cases h
  | baload =>
    simp only [pm_i] at h
    split at h
    · next j a r =>
      obtain ⟨N, f, hat, hj, rfl⟩ := pm_ial_inv h
      obtain ⟨k, rfl, hk, hw, -⟩ := pm_at_inv hat
      intro H locs ls hl hP hS hh
      exact va_zald hx hb hK hP k 2 (by rw [pm_L_get hk, hw]) rfl hj hd (kk H locs ls hl hP hS hh)
    · cases h
  | laload =>
    simp only [pm_i] at h
    split at h
    · next j a r =>
      obtain ⟨N, f, hat, hj, rfl⟩ := pm_lal_inv h
      obtain ⟨k, rfl, hk, hw, -⟩ := pm_at_inv hat
      intro H locs ls hl hP hS hh
      exact va_lald hx hb hK hP k 1 (by rw [pm_L_get hk, hw]) rfl hj hd (kk H locs ls hl hP hS hh)
    · cases h
  | aaload =>
    simp only [pm_i] at h
    split at h
    · next j a r =>
      obtain ⟨cA, N, f, hc, hat, hj, rfl⟩ := pm_aal_inv h
      obtain ⟨k, rfl, hk, hw, -⟩ := pm_at_inv hat
      intro H locs ls hl hP hS hh
      rcases hc with hc | hc
      · subst hc
        exact va_aldq hx hb hK hP k 3 (by rw [pm_L_get hk, hw]) rfl hj hd (kk H locs ls hl hP hS hh)
      · subst hc
        exact va_aldq hx hb hK hP k 4 (by rw [pm_L_get hk, hw]) rfl hj hd (kk H locs ls hl hP hS hh)
    · cases h
  | iastore =>
    simp only [pm_i] at h
    split at h
    · next x j a r =>
      obtain ⟨N, f, hat, hj, rfl⟩ := pm_ias_inv h
      obtain ⟨k, rfl, hk, hw, he⟩ := pm_at_inv hat
      rw [he] at kk
      exact pm_iast hx hb hK hk hw hj hd kk
    · cases h
  | bastore =>
    simp only [pm_i] at h
    split at h
    · next x j a r =>
      obtain ⟨N, f, hat, hj, rfl⟩ := pm_ias_inv h
      obtain ⟨k, rfl, hk, hw, he⟩ := pm_at_inv hat
      rw [he] at kk
      exact pm_zast hx hb hK hk hw hj hd kk
    · cases h
  | lastore =>
    simp only [pm_i] at h
    split at h
    · next x j a r =>
      obtain ⟨N, f, hat, hj, rfl⟩ := pm_las_inv h
      obtain ⟨k, rfl, hk, hw, he⟩ := pm_at_inv hat
      rw [he] at kk
      exact pm_last hx hb hK hk hw hj hd kk
    · cases h
  | arraylength =>
    simp only [pm_i] at h
    split at h
    · next a r =>
      obtain ⟨cA, x, hc, hat, rfl⟩ := pm_len_inv h
      obtain ⟨k, rfl, hk, hw, -⟩ := pm_at_inv hat
      intro H locs ls hl hP hS hh
      rcases hc with hc | hc | hc
      · subst hc
        exact va_alen hx hb hK hP k 0 (by rw [pm_L_get hk, hw]) rfl rfl hd (kk H locs ls hl hP hS hh)
      · subst hc
        exact va_alen hx hb hK hP k 1 (by rw [pm_L_get hk, hw]) rfl rfl hd (kk H locs ls hl hP hS hh)
      · subst hc
        exact va_alen hx hb hK hP k 2 (by rw [pm_L_get hk, hw]) rfl rfl hd (kk H locs ls hl hP hS hh)
    · cases h
  | getfield k0 =>
    simp only [pm_i] at h
    split at h
    · next a r =>
      obtain ⟨ci, i, ty, fin, fs, u, hf, hat, hu, rfl⟩ := pm_gf_inv h
      obtain ⟨k, rfl, hk, hw, -⟩ := pm_at_inv hat
      exact pm_get hx hb ho hK (hF _ _ _ _ _ hf) hk hw hu hd kk
    · cases h
  | putfield k0 =>
    simp only [pm_i] at h
    split at h
    · next v a r =>
      obtain ⟨ci, i, ty, fs, hf, hat, h1, h2, h3, rfl⟩ := pm_pf_inv h
      obtain ⟨k, rfl, hk, hw, he⟩ := pm_at_inv hat
      rw [he] at kk
      exact pm_put hx hb ho hK (hF _ _ _ _ _ hf) hk hw h1 h2 h3 hd kk
    · cases h
  | _ => simp [pm_i] at h
theorem pm_v_ok (X : pm_X p s m args c cc own D cl tc F K) : ∀ (k pc : Nat) (lv : List (Nat × Value)) (st : List Value) (w : Nat → va_E) {pc' : Nat} {lv' : List (Nat × Value)} {st' : List Value} {w' : Nat → va_E}, pm_v cc F K tc sz n nL k pc lv st w = some (pc', lv', st', w') →
    pm_G p l e R s m args below meth c Q D cl sz nL hz n cells slots w' pc' lv' st' → pm_G p l e R s m args below meth c Q D cl sz nL hz n cells slots w pc lv st := by
  intro k
  induction k with
  | zero =>
    intro pc lv st w pc' lv' st' w' h kk
    cases h
    exact kk
  | succ k ih =>
    intro pc lv st w pc' lv' st' w' h kk
    unfold pm_v at h
    split at h
    · next pc1 lv1 st1 w1 h1 =>
      cases hdc : decode cc pc with
      | error z =>
        rw [hdc] at h1
        cases h1
      | ok z =>
        obtain ⟨i, len⟩ := z
        rw [hdc] at h1
        unfold pm_d at h1
        by_cases hlen : len = pm_ln i
        · subst hlen
          simp only [if_true] at h1
          exact pm_i_ok X hdc h1 (ih pc1 lv1 st1 w1 h kk)
        · simp only [if_neg hlen] at h1
          cases h1
    · cases h
end PMM
end
section
section PMR
variable {cc : ByteArray} {F : pm_FT} {K : Nat → Option Value} {tc : Nat → ClassId} {sz n nL k pc i : Nat} {lv : List (Nat × Value)} {st r : List Value} {w : Nat → va_E}
theorem pv_0 : pm_v cc F K tc sz n nL 0 pc lv st w = some (pc, lv, st, w) := rfl
theorem pv_s : pm_v cc F K tc sz n nL (k + 1) pc lv st w = (pm_d F K tc sz n nL (decode cc pc) pc lv st w).bind (fun q => pm_v cc F K tc sz n nL k q.1 q.2.1 q.2.2.1 q.2.2.2) := by
  show (match pm_d F K tc sz n nL (decode cc pc) pc lv st w with
    | some (pc', lv', st', w') => pm_v cc F K tc sz n nL k pc' lv' st' w'
    | none => none) = _
  cases pm_d F K tc sz n nL (decode cc pc) pc lv st w <;> rfl
theorem pd_iconst {z : Int} : pm_d F K tc sz n nL (.ok (.iconst z, 1)) pc lv (st) w = some (pc + 1, lv, .int (Int32.ofInt z) :: st, w) := rfl
theorem pd_bipush {z : Int} : pm_d F K tc sz n nL (.ok (.bipush z, 2)) pc lv (st) w = some (pc + 2, lv, .int (Int8.ofInt z).toInt32 :: st, w) := rfl
theorem pd_sipush {z : Int} : pm_d F K tc sz n nL (.ok (.sipush z, 3)) pc lv (st) w = some (pc + 3, lv, .int (Int16.ofInt z).toInt32 :: st, w) := rfl
theorem pd_lconst_0 : pm_d F K tc sz n nL (.ok (.lconst 0, 1)) pc lv (st) w = some (pc + 1, lv, .long 0 :: st, w) := rfl
theorem pd_lconst_1 : pm_d F K tc sz n nL (.ok (.lconst 1, 1)) pc lv (st) w = some (pc + 1, lv, .long 1 :: st, w) := rfl
theorem pd_ldc : pm_d F K tc sz n nL (.ok (.ldc i, 2)) pc lv (st) w = (match K i with | some (.int v) => some (pc + 2, lv, .int v :: st, w) | _ => none) := rfl
theorem pd_ldc2 : pm_d F K tc sz n nL (.ok (.ldc2_w i, 3)) pc lv (st) w = (match K i with | some (.long v) => some (pc + 3, lv, .long v :: st, w) | _ => none) := rfl
theorem pd_iload_0 : pm_d F K tc sz n nL (.ok (.iload_n 0, 1)) pc lv (st) w = pm_ldi 0 (pc + 1) lv st w := rfl
theorem pd_iload_1 : pm_d F K tc sz n nL (.ok (.iload_n 1, 1)) pc lv (st) w = pm_ldi 1 (pc + 1) lv st w := rfl
theorem pd_iload_2 : pm_d F K tc sz n nL (.ok (.iload_n 2, 1)) pc lv (st) w = pm_ldi 2 (pc + 1) lv st w := rfl
theorem pd_iload_3 : pm_d F K tc sz n nL (.ok (.iload_n 3, 1)) pc lv (st) w = pm_ldi 3 (pc + 1) lv st w := rfl
theorem pd_iload : pm_d F K tc sz n nL (.ok (.iload i, 2)) pc lv (st) w = pm_ldi i (pc + 2) lv st w := rfl
theorem pd_lload_0 : pm_d F K tc sz n nL (.ok (.lload_n 0, 1)) pc lv (st) w = pm_ldl 0 (pc + 1) lv st w := rfl
theorem pd_lload_1 : pm_d F K tc sz n nL (.ok (.lload_n 1, 1)) pc lv (st) w = pm_ldl 1 (pc + 1) lv st w := rfl
theorem pd_lload_2 : pm_d F K tc sz n nL (.ok (.lload_n 2, 1)) pc lv (st) w = pm_ldl 2 (pc + 1) lv st w := rfl
theorem pd_lload_3 : pm_d F K tc sz n nL (.ok (.lload_n 3, 1)) pc lv (st) w = pm_ldl 3 (pc + 1) lv st w := rfl
theorem pd_lload : pm_d F K tc sz n nL (.ok (.lload i, 2)) pc lv (st) w = pm_ldl i (pc + 2) lv st w := rfl
theorem pd_aload_0 : pm_d F K tc sz n nL (.ok (.aload_n 0, 1)) pc lv (st) w = pm_lda 0 (pc + 1) lv st w := rfl
theorem pd_aload_1 : pm_d F K tc sz n nL (.ok (.aload_n 1, 1)) pc lv (st) w = pm_lda 1 (pc + 1) lv st w := rfl
theorem pd_aload_2 : pm_d F K tc sz n nL (.ok (.aload_n 2, 1)) pc lv (st) w = pm_lda 2 (pc + 1) lv st w := rfl
theorem pd_aload_3 : pm_d F K tc sz n nL (.ok (.aload_n 3, 1)) pc lv (st) w = pm_lda 3 (pc + 1) lv st w := rfl
theorem pd_aload : pm_d F K tc sz n nL (.ok (.aload i, 2)) pc lv (st) w = pm_lda i (pc + 2) lv st w := rfl
theorem pd_istore_0 : pm_d F K tc sz n nL (.ok (.istore_n 0, 1)) pc lv (st) w = pm_sti nL 0 (pc + 1) lv st w := rfl
theorem pd_istore_1 : pm_d F K tc sz n nL (.ok (.istore_n 1, 1)) pc lv (st) w = pm_sti nL 1 (pc + 1) lv st w := rfl
theorem pd_istore_2 : pm_d F K tc sz n nL (.ok (.istore_n 2, 1)) pc lv (st) w = pm_sti nL 2 (pc + 1) lv st w := rfl
theorem pd_istore_3 : pm_d F K tc sz n nL (.ok (.istore_n 3, 1)) pc lv (st) w = pm_sti nL 3 (pc + 1) lv st w := rfl
theorem pd_istore : pm_d F K tc sz n nL (.ok (.istore i, 2)) pc lv (st) w = pm_sti nL i (pc + 2) lv st w := rfl
theorem pd_lstore_0 : pm_d F K tc sz n nL (.ok (.lstore_n 0, 1)) pc lv (st) w = pm_stl nL 0 (pc + 1) lv st w := rfl
theorem pd_lstore_1 : pm_d F K tc sz n nL (.ok (.lstore_n 1, 1)) pc lv (st) w = pm_stl nL 1 (pc + 1) lv st w := rfl
theorem pd_lstore_2 : pm_d F K tc sz n nL (.ok (.lstore_n 2, 1)) pc lv (st) w = pm_stl nL 2 (pc + 1) lv st w := rfl
theorem pd_lstore_3 : pm_d F K tc sz n nL (.ok (.lstore_n 3, 1)) pc lv (st) w = pm_stl nL 3 (pc + 1) lv st w := rfl
theorem pd_lstore : pm_d F K tc sz n nL (.ok (.lstore i, 2)) pc lv (st) w = pm_stl nL i (pc + 2) lv st w := rfl
theorem pd_astore_0 : pm_d F K tc sz n nL (.ok (.astore_n 0, 1)) pc lv (st) w = pm_sta nL 0 (pc + 1) lv st w := rfl
theorem pd_astore_1 : pm_d F K tc sz n nL (.ok (.astore_n 1, 1)) pc lv (st) w = pm_sta nL 1 (pc + 1) lv st w := rfl
theorem pd_astore_2 : pm_d F K tc sz n nL (.ok (.astore_n 2, 1)) pc lv (st) w = pm_sta nL 2 (pc + 1) lv st w := rfl
theorem pd_astore_3 : pm_d F K tc sz n nL (.ok (.astore_n 3, 1)) pc lv (st) w = pm_sta nL 3 (pc + 1) lv st w := rfl
theorem pd_astore : pm_d F K tc sz n nL (.ok (.astore i, 2)) pc lv (st) w = pm_sta nL i (pc + 2) lv st w := rfl
theorem pd_iinc {d : Int} : pm_d F K tc sz n nL (.ok (.iinc i d, 3)) pc lv (st) w = (match pm_lk lv i with | some (.int x) => if i < nL then some (pc + 3, (i, .int (x + Int32.ofInt d)) :: pm_f1 i lv, st, w) else none | _ => none) := rfl
theorem pd_iadd {x y : Int32} : pm_d F K tc sz n nL (.ok (.iadd, 1)) pc lv (.int y :: .int x :: r) w = some (pc + 1, lv, .int (x + y) :: r, w) := rfl
theorem pd_isub {x y : Int32} : pm_d F K tc sz n nL (.ok (.isub, 1)) pc lv (.int y :: .int x :: r) w = some (pc + 1, lv, .int (x - y) :: r, w) := rfl
theorem pd_imul {x y : Int32} : pm_d F K tc sz n nL (.ok (.imul, 1)) pc lv (.int y :: .int x :: r) w = some (pc + 1, lv, .int (x * y) :: r, w) := rfl
theorem pd_iand {x y : Int32} : pm_d F K tc sz n nL (.ok (.iand, 1)) pc lv (.int y :: .int x :: r) w = some (pc + 1, lv, .int (x &&& y) :: r, w) := rfl
theorem pd_ior {x y : Int32} : pm_d F K tc sz n nL (.ok (.ior, 1)) pc lv (.int y :: .int x :: r) w = some (pc + 1, lv, .int (x ||| y) :: r, w) := rfl
theorem pd_ixor {x y : Int32} : pm_d F K tc sz n nL (.ok (.ixor, 1)) pc lv (.int y :: .int x :: r) w = some (pc + 1, lv, .int (x ^^^ y) :: r, w) := rfl
theorem pd_ishl {x y : Int32} : pm_d F K tc sz n nL (.ok (.ishl, 1)) pc lv (.int y :: .int x :: r) w = some (pc + 1, lv, .int (jv_shl x y) :: r, w) := rfl
theorem pd_ishr {x y : Int32} : pm_d F K tc sz n nL (.ok (.ishr, 1)) pc lv (.int y :: .int x :: r) w = some (pc + 1, lv, .int (jv_shr x y) :: r, w) := rfl
theorem pd_iushr {x y : Int32} : pm_d F K tc sz n nL (.ok (.iushr, 1)) pc lv (.int y :: .int x :: r) w = some (pc + 1, lv, .int (jv_ushr x y) :: r, w) := rfl
theorem pd_idiv {x y : Int32} : pm_d F K tc sz n nL (.ok (.idiv, 1)) pc lv (.int y :: .int x :: r) w = (if y = 0 then none else some (pc + 1, lv, .int (x / y) :: r, w)) := rfl
theorem pd_irem {x y : Int32} : pm_d F K tc sz n nL (.ok (.irem, 1)) pc lv (.int y :: .int x :: r) w = (if y = 0 then none else some (pc + 1, lv, .int (jv_rem x y) :: r, w)) := rfl
theorem pd_ineg {x : Int32} : pm_d F K tc sz n nL (.ok (.ineg, 1)) pc lv (.int x :: r) w = some (pc + 1, lv, .int (-x) :: r, w) := rfl
theorem pd_ladd {x y : Int64} : pm_d F K tc sz n nL (.ok (.ladd, 1)) pc lv (.long y :: .long x :: r) w = some (pc + 1, lv, .long (x + y) :: r, w) := rfl
theorem pd_lsub {x y : Int64} : pm_d F K tc sz n nL (.ok (.lsub, 1)) pc lv (.long y :: .long x :: r) w = some (pc + 1, lv, .long (x - y) :: r, w) := rfl
theorem pd_lmul {x y : Int64} : pm_d F K tc sz n nL (.ok (.lmul, 1)) pc lv (.long y :: .long x :: r) w = some (pc + 1, lv, .long (x * y) :: r, w) := rfl
theorem pd_land {x y : Int64} : pm_d F K tc sz n nL (.ok (.land, 1)) pc lv (.long y :: .long x :: r) w = some (pc + 1, lv, .long (x &&& y) :: r, w) := rfl
theorem pd_lor {x y : Int64} : pm_d F K tc sz n nL (.ok (.lor, 1)) pc lv (.long y :: .long x :: r) w = some (pc + 1, lv, .long (x ||| y) :: r, w) := rfl
theorem pd_lxor {x y : Int64} : pm_d F K tc sz n nL (.ok (.lxor, 1)) pc lv (.long y :: .long x :: r) w = some (pc + 1, lv, .long (x ^^^ y) :: r, w) := rfl
theorem pd_lshl {x : Int64} {y : Int32} : pm_d F K tc sz n nL (.ok (.lshl, 1)) pc lv (.int y :: .long x :: r) w = some (pc + 1, lv, .long (jl_shl x y) :: r, w) := rfl
theorem pd_lushr {x : Int64} {y : Int32} : pm_d F K tc sz n nL (.ok (.lushr, 1)) pc lv (.int y :: .long x :: r) w = some (pc + 1, lv, .long (jl_ushr x y) :: r, w) := rfl
theorem pd_lcmp {x y : Int64} : pm_d F K tc sz n nL (.ok (.lcmp, 1)) pc lv (.long y :: .long x :: r) w = some (pc + 1, lv, .int (lg_cmp x y) :: r, w) := rfl
theorem pd_i2l {x : Int32} : pm_d F K tc sz n nL (.ok (.i2l, 1)) pc lv (.int x :: r) w = some (pc + 1, lv, .long x.toInt64 :: r, w) := rfl
theorem pd_l2i {x : Int64} : pm_d F K tc sz n nL (.ok (.l2i, 1)) pc lv (.long x :: r) w = some (pc + 1, lv, .int x.toInt32 :: r, w) := rfl
theorem pd_dup_int {x : Int32} : pm_d F K tc sz n nL (.ok (.dup, 1)) pc lv (.int x :: r) w = some (pc + 1, lv, .int x :: .int x :: r, w) := rfl
theorem pd_pop_int {x : Int32} : pm_d F K tc sz n nL (.ok (.pop, 1)) pc lv (.int x :: r) w = some (pc + 1, lv, r, w) := rfl
theorem pd_dup_ref {x : Nat} : pm_d F K tc sz n nL (.ok (.dup, 1)) pc lv (.ref x :: r) w = some (pc + 1, lv, .ref x :: .ref x :: r, w) := rfl
theorem pd_pop_ref {x : Nat} : pm_d F K tc sz n nL (.ok (.pop, 1)) pc lv (.ref x :: r) w = some (pc + 1, lv, r, w) := rfl
theorem pd_dup_x1_ir {x : Int32} {y : Nat} : pm_d F K tc sz n nL (.ok (.dup_x1, 1)) pc lv (.int x :: .ref y :: r) w = some (pc + 1, lv, .int x :: .ref y :: .int x :: r, w) := rfl
theorem pd_dup_x1_ii {x y : Int32} : pm_d F K tc sz n nL (.ok (.dup_x1, 1)) pc lv (.int x :: .int y :: r) w = some (pc + 1, lv, .int x :: .int y :: .int x :: r, w) := rfl
theorem pd_dup2_ir {x : Int32} {y : Nat} : pm_d F K tc sz n nL (.ok (.dup2, 1)) pc lv (.int x :: .ref y :: r) w = some (pc + 1, lv, .int x :: .ref y :: .int x :: .ref y :: r, w) := rfl
theorem pd_dup2_ii {x y : Int32} : pm_d F K tc sz n nL (.ok (.dup2, 1)) pc lv (.int x :: .int y :: r) w = some (pc + 1, lv, .int x :: .int y :: .int x :: .int y :: r, w) := rfl
theorem pd_goto {z : Int} : pm_d F K tc sz n nL (.ok (.goto z, 3)) pc lv (st) w = (if 0 ≤ (pc : Int) + z then some (((pc : Int) + z).toNat, lv, st, w) else none) := rfl
theorem pd_if_eq {z : Int} {x : Int32} : pm_d F K tc sz n nL (.ok (.ifCond .eq z, 3)) pc lv (.int x :: r) w = (if 0 ≤ (pc : Int) + z then some ((if x = 0 then ((pc : Int) + z).toNat else pc + 3), lv, r, w) else none) := by simp [pm_d, pm_i, pm_ln, pm_cz]
theorem pd_if_ne {z : Int} {x : Int32} : pm_d F K tc sz n nL (.ok (.ifCond .ne z, 3)) pc lv (.int x :: r) w = (if 0 ≤ (pc : Int) + z then some ((if ¬ x = 0 then ((pc : Int) + z).toNat else pc + 3), lv, r, w) else none) := by simp [pm_d, pm_i, pm_ln, pm_cz]
theorem pd_if_lt {z : Int} {x : Int32} : pm_d F K tc sz n nL (.ok (.ifCond .lt z, 3)) pc lv (.int x :: r) w = (if 0 ≤ (pc : Int) + z then some ((if x < 0 then ((pc : Int) + z).toNat else pc + 3), lv, r, w) else none) := by simp [pm_d, pm_i, pm_ln, pm_cz]
theorem pd_if_ge {z : Int} {x : Int32} : pm_d F K tc sz n nL (.ok (.ifCond .ge z, 3)) pc lv (.int x :: r) w = (if 0 ≤ (pc : Int) + z then some ((if 0 ≤ x then ((pc : Int) + z).toNat else pc + 3), lv, r, w) else none) := by simp [pm_d, pm_i, pm_ln, pm_cz]
theorem pd_if_gt {z : Int} {x : Int32} : pm_d F K tc sz n nL (.ok (.ifCond .gt z, 3)) pc lv (.int x :: r) w = (if 0 ≤ (pc : Int) + z then some ((if 0 < x then ((pc : Int) + z).toNat else pc + 3), lv, r, w) else none) := by simp [pm_d, pm_i, pm_ln, pm_cz]
theorem pd_if_le {z : Int} {x : Int32} : pm_d F K tc sz n nL (.ok (.ifCond .le z, 3)) pc lv (.int x :: r) w = (if 0 ≤ (pc : Int) + z then some ((if x ≤ 0 then ((pc : Int) + z).toNat else pc + 3), lv, r, w) else none) := by simp [pm_d, pm_i, pm_ln, pm_cz]
theorem pd_icmp_eq {z : Int} {x y : Int32} : pm_d F K tc sz n nL (.ok (.if_icmp .eq z, 3)) pc lv (.int y :: .int x :: r) w = (if 0 ≤ (pc : Int) + z then some ((if x = y then ((pc : Int) + z).toNat else pc + 3), lv, r, w) else none) := by simp [pm_d, pm_i, pm_ln, pm_cc]
theorem pd_icmp_ne {z : Int} {x y : Int32} : pm_d F K tc sz n nL (.ok (.if_icmp .ne z, 3)) pc lv (.int y :: .int x :: r) w = (if 0 ≤ (pc : Int) + z then some ((if ¬ x = y then ((pc : Int) + z).toNat else pc + 3), lv, r, w) else none) := by simp [pm_d, pm_i, pm_ln, pm_cc]
theorem pd_icmp_lt {z : Int} {x y : Int32} : pm_d F K tc sz n nL (.ok (.if_icmp .lt z, 3)) pc lv (.int y :: .int x :: r) w = (if 0 ≤ (pc : Int) + z then some ((if x < y then ((pc : Int) + z).toNat else pc + 3), lv, r, w) else none) := by simp [pm_d, pm_i, pm_ln, pm_cc]
theorem pd_icmp_ge {z : Int} {x y : Int32} : pm_d F K tc sz n nL (.ok (.if_icmp .ge z, 3)) pc lv (.int y :: .int x :: r) w = (if 0 ≤ (pc : Int) + z then some ((if y ≤ x then ((pc : Int) + z).toNat else pc + 3), lv, r, w) else none) := by simp [pm_d, pm_i, pm_ln, pm_cc]
theorem pd_icmp_gt {z : Int} {x y : Int32} : pm_d F K tc sz n nL (.ok (.if_icmp .gt z, 3)) pc lv (.int y :: .int x :: r) w = (if 0 ≤ (pc : Int) + z then some ((if y < x then ((pc : Int) + z).toNat else pc + 3), lv, r, w) else none) := by simp [pm_d, pm_i, pm_ln, pm_cc]
theorem pd_icmp_le {z : Int} {x y : Int32} : pm_d F K tc sz n nL (.ok (.if_icmp .le z, 3)) pc lv (.int y :: .int x :: r) w = (if 0 ≤ (pc : Int) + z then some ((if x ≤ y then ((pc : Int) + z).toNat else pc + 3), lv, r, w) else none) := by simp [pm_d, pm_i, pm_ln, pm_cc]
theorem pd_iaload {j : Int32} {a : Nat} : pm_d F K tc sz n nL (.ok (.iaload, 1)) pc lv (.int j :: .ref a :: r) w = pm_ial (tc 0) (pm_at sz n w a) j (pc + 1) lv r w := rfl
theorem pd_baload {j : Int32} {a : Nat} : pm_d F K tc sz n nL (.ok (.baload, 1)) pc lv (.int j :: .ref a :: r) w = pm_ial (tc 2) (pm_at sz n w a) j (pc + 1) lv r w := rfl
theorem pd_laload {j : Int32} {a : Nat} : pm_d F K tc sz n nL (.ok (.laload, 1)) pc lv (.int j :: .ref a :: r) w = pm_lal (tc 1) (pm_at sz n w a) j (pc + 1) lv r w := rfl
theorem pd_aaload {j : Int32} {a : Nat} : pm_d F K tc sz n nL (.ok (.aaload, 1)) pc lv (.int j :: .ref a :: r) w = pm_aal (tc 3) (tc 4) (pm_at sz n w a) j (pc + 1) lv r w := rfl
theorem pd_iastore {j : Int32} {a : Nat} {x : Int32} : pm_d F K tc sz n nL (.ok (.iastore, 1)) pc lv (.int x :: .int j :: .ref a :: r) w = pm_ias (tc 0) (pm_at sz n w a) (a - sz) j x (pc + 1) lv r w := rfl
theorem pd_bastore {j : Int32} {a : Nat} {x : Int32} : pm_d F K tc sz n nL (.ok (.bastore, 1)) pc lv (.int x :: .int j :: .ref a :: r) w = pm_ias (tc 2) (pm_at sz n w a) (a - sz) j (vp_nar .boolean x) (pc + 1) lv r w := rfl
theorem pd_lastore {j : Int32} {a : Nat} {x : Int64} : pm_d F K tc sz n nL (.ok (.lastore, 1)) pc lv (.long x :: .int j :: .ref a :: r) w = pm_las (tc 1) (pm_at sz n w a) (a - sz) j x (pc + 1) lv r w := rfl
theorem pd_alen {a : Nat} : pm_d F K tc sz n nL (.ok (.arraylength, 1)) pc lv (.ref a :: r) w = pm_len tc (pm_at sz n w a) (pc + 1) lv r w := rfl
theorem pd_getfield {a : Nat} : pm_d F K tc sz n nL (.ok (.getfield i, 3)) pc lv (.ref a :: r) w = pm_gf (F i) (pm_at sz n w a) (pc + 3) lv r w := rfl
theorem pd_putfield {a : Nat} {v : Value} : pm_d F K tc sz n nL (.ok (.putfield i, 3)) pc lv (v :: .ref a :: r) w = pm_pf (F i) (pm_at sz n w a) (a - sz) v (pc + 3) lv r w := rfl
theorem ph_ial {j x : Int32} {N : Nat} {c0 c1 : ClassId} {f : Nat → Int32} : pm_ial c0 (some (.inl (c0, N, .inl f))) j pc lv r w = (pm_ix j N).map (fun i => (pc, lv, .int (f i) :: r, w)) := if_pos rfl
theorem ph_lal {j x : Int32} {N : Nat} {c0 c1 : ClassId} {f : Nat → Int64} : pm_lal c0 (some (.inl (c0, N, .inr (.inl f)))) j pc lv r w = (pm_ix j N).map (fun i => (pc, lv, .long (f i) :: r, w)) := if_pos rfl
theorem ph_aal0 {j x : Int32} {N : Nat} {c0 c1 : ClassId} {f : Nat → Option Nat} : pm_aal c0 c1 (some (.inl (c0, N, .inr (.inr (.inr (.inr f)))))) j pc lv r w = (pm_ix j N).map (fun i => (pc, lv, va_rf (f i) :: r, w)) := if_pos (Or.inl rfl)
theorem ph_aal1 {j x : Int32} {N : Nat} {c0 c1 : ClassId} {f : Nat → Option Nat} : pm_aal c0 c1 (some (.inl (c1, N, .inr (.inr (.inr (.inr f)))))) j pc lv r w = (pm_ix j N).map (fun i => (pc, lv, va_rf (f i) :: r, w)) := if_pos (Or.inr rfl)
theorem ph_ias {j x : Int32} {N : Nat} {c0 c1 : ClassId} {f : Nat → Int32} : pm_ias c0 (some (.inl (c0, N, .inl f))) k j x pc lv r w = (pm_ix j N).map (fun i => (pc, lv, r, va_up w k (.inl (c0, N, .inl (upd f i x))))) := if_pos rfl
theorem ph_las {j : Int32} {x : Int64} {N : Nat} {c0 : ClassId} {f : Nat → Int64} : pm_las c0 (some (.inl (c0, N, .inr (.inl f)))) k j x pc lv r w = (pm_ix j N).map (fun i => (pc, lv, r, va_up w k (.inl (c0, N, .inr (.inl (vp_updL f i x)))))) := if_pos rfl
theorem ph_len0 {y : vp_A} : pm_len tc (some (.inl (tc 0, y))) pc lv r w = some (pc, lv, .int (Int32.ofNat y.1) :: r, w) := if_pos (by simp)
theorem ph_len1 {y : vp_A} : pm_len tc (some (.inl (tc 1, y))) pc lv r w = some (pc, lv, .int (Int32.ofNat y.1) :: r, w) := if_pos (by simp)
theorem ph_len2 {y : vp_A} : pm_len tc (some (.inl (tc 2, y))) pc lv r w = some (pc, lv, .int (Int32.ofNat y.1) :: r, w) := if_pos (by simp)
theorem ph_gf {ci i : Nat} {ty : FieldType} {fin : Bool} {fs : List Value} : pm_gf (some (ci, i, ty, fin)) (some (.inr (ci, fs))) pc lv r w = (fs[i]?).map (fun v => (pc, lv, v :: r, w)) := if_pos rfl
theorem ph_pfi {ci i : Nat} {x : Int32} {fs : List Value} : pm_pf (some (ci, i, .int, false)) (some (.inr (ci, fs))) k (.int x) pc lv r w = if i < fs.length then some (pc, lv, r, va_up w k (.inr (ci, fs.set i (.int x)))) else none := by simp [pm_pf, narrow, fits]
theorem ph_pfl {ci i : Nat} {x : Int64} {fs : List Value} : pm_pf (some (ci, i, .long, false)) (some (.inr (ci, fs))) k (.long x) pc lv r w = if i < fs.length then some (pc, lv, r, va_up w k (.inr (ci, fs.set i (.long x)))) else none := by simp [pm_pf, narrow, fits]
theorem ph_pfz0 {ci i : Nat} {fs : List Value} : pm_pf (some (ci, i, .boolean, false)) (some (.inr (ci, fs))) k (.int (nI 0)) pc lv r w = if i < fs.length then some (pc, lv, r, va_up w k (.inr (ci, fs.set i (.int (nI 0))))) else none := by
  have h1 : narrow .boolean (.int (nI 0)) = .int (nI 0) := by decide
  have h2 : fits .boolean (.int (nI 0)) = true := by decide
  simp [pm_pf, h1, h2]
theorem ph_pfz1 {ci i : Nat} {fs : List Value} : pm_pf (some (ci, i, .boolean, false)) (some (.inr (ci, fs))) k (.int (nI 1)) pc lv r w = if i < fs.length then some (pc, lv, r, va_up w k (.inr (ci, fs.set i (.int (nI 1))))) else none := by
  have h1 : narrow .boolean (.int (nI 1)) = .int (nI 1) := by decide
  have h2 : fits .boolean (.int (nI 1)) = true := by decide
  simp [pm_pf, h1, h2]
theorem ph_nz0 : vp_nar .boolean (nI 0) = nI 0 := by decide
theorem ph_nz1 : vp_nar .boolean (nI 1) = nI 1 := by decide
theorem pm_cm1 : Int32.ofInt (-1) = -1 := by decide
theorem pm_c0 : Int32.ofInt 0 = nI 0 := by decide
theorem pm_c1 : Int32.ofInt 1 = nI 1 := by decide
theorem pm_c2 : Int32.ofInt 2 = nI 2 := by decide
theorem pm_c3 : Int32.ofInt 3 = nI 3 := by decide
theorem pm_c4 : Int32.ofInt 4 = nI 4 := by decide
theorem pm_c5 : Int32.ofInt 5 = nI 5 := by decide
theorem pm_b6 : (Int8.ofInt 6).toInt32 = nI 6 := by decide
theorem pm_b7 : (Int8.ofInt 7).toInt32 = nI 7 := by decide
theorem pm_b8 : (Int8.ofInt 8).toInt32 = nI 8 := by decide
theorem pm_b9 : (Int8.ofInt 9).toInt32 = nI 9 := by decide
theorem pm_b10 : (Int8.ofInt 10).toInt32 = nI 10 := by decide
theorem pm_b11 : (Int8.ofInt 11).toInt32 = nI 11 := by decide
theorem pm_b12 : (Int8.ofInt 12).toInt32 = nI 12 := by decide
theorem pm_b14 : (Int8.ofInt 14).toInt32 = nI 14 := by decide
theorem pm_b15 : (Int8.ofInt 15).toInt32 = nI 15 := by decide
theorem pm_b16 : (Int8.ofInt 16).toInt32 = nI 16 := by decide
theorem pm_b20 : (Int8.ofInt 20).toInt32 = nI 20 := by decide
theorem pm_b24 : (Int8.ofInt 24).toInt32 = nI 24 := by decide
theorem pm_b25 : (Int8.ofInt 25).toInt32 = nI 25 := by decide
theorem pm_b28 : (Int8.ofInt 28).toInt32 = nI 28 := by decide
theorem pm_b31 : (Int8.ofInt 31).toInt32 = nI 31 := by decide
theorem pm_b32 : (Int8.ofInt 32).toInt32 = nI 32 := by decide
theorem pm_b48 : (Int8.ofInt 48).toInt32 = nI 48 := by decide
theorem pm_b56 : (Int8.ofInt 56).toInt32 = nI 56 := by decide
theorem pm_b60 : (Int8.ofInt 60).toInt32 = nI 60 := by decide
theorem pm_b63 : (Int8.ofInt 63).toInt32 = nI 63 := by decide
theorem pm_b64 : (Int8.ofInt 64).toInt32 = nI 64 := by decide
theorem pm_b67 : (Int8.ofInt 67).toInt32 = nI 67 := by decide
theorem pm_b68 : (Int8.ofInt 68).toInt32 = nI 68 := by decide
theorem pm_b89 : (Int8.ofInt 89).toInt32 = nI 89 := by decide
theorem pm_b90 : (Int8.ofInt 90).toInt32 = nI 90 := by decide
theorem pm_b95 : (Int8.ofInt 95).toInt32 = nI 95 := by decide
theorem pm_b100 : (Int8.ofInt 100).toInt32 = nI 100 := by decide
theorem pm_b120 : (Int8.ofInt 120).toInt32 = nI 120 := by decide
theorem pm_b127 : (Int8.ofInt 127).toInt32 = nI 127 := by decide
theorem pm_h128 : (Int16.ofInt 128).toInt32 = nI 128 := by decide
theorem pm_h150 : (Int16.ofInt 150).toInt32 = nI 150 := by decide
theorem pm_h168 : (Int16.ofInt 168).toInt32 = nI 168 := by decide
theorem pm_h255 : (Int16.ofInt 255).toInt32 = nI 255 := by decide
theorem pm_h256 : (Int16.ofInt 256).toInt32 = nI 256 := by decide
theorem pm_h360 : (Int16.ofInt 360).toInt32 = nI 360 := by decide
theorem pm_h369 : (Int16.ofInt 369).toInt32 = nI 369 := by decide
theorem pm_h450 : (Int16.ofInt 450).toInt32 = nI 450 := by decide
theorem pm_h4096 : (Int16.ofInt 4096).toInt32 = nI 4096 := by decide
theorem pm_h8192 : (Int16.ofInt 8192).toInt32 = nI 8192 := by decide
theorem pm_h32767 : (Int16.ofInt 32767).toInt32 = nI 32767 := by decide
theorem pm_h4643 : (Int16.ofInt 4643).toInt32 = nI 4643 := by decide
theorem pm_h13363 : (Int16.ofInt 13363).toInt32 = nI 13363 := by decide
theorem pm_h20579 : (Int16.ofInt 20579).toInt32 = nI 20579 := by decide
theorem pm_h25843 : (Int16.ofInt 25843).toInt32 = nI 25843 := by decide
theorem pm_h29227 : (Int16.ofInt 29227).toInt32 = nI 29227 := by decide
theorem pm_h31145 : (Int16.ofInt 31145).toInt32 = nI 31145 := by decide
theorem pm_h32103 : (Int16.ofInt 32103).toInt32 = nI 32103 := by decide
theorem pm_h32525 : (Int16.ofInt 32525).toInt32 = nI 32525 := by decide
theorem pm_h32689 : (Int16.ofInt 32689).toInt32 = nI 32689 := by decide
theorem pm_h32745 : (Int16.ofInt 32745).toInt32 = nI 32745 := by decide
theorem pm_h32762 : (Int16.ofInt 32762).toInt32 = nI 32762 := by decide
theorem pm_h32766 : (Int16.ofInt 32766).toInt32 = nI 32766 := by decide
theorem pm_o {m : Nat} : Int32.ofNat m = nI m := rfl
end PMR
end
section
section PMQ
def pm_stb (sz : Nat) (St : State → Prop) : Prop := ∀ U V : State, U.WarmedH V.vm → U.heap.size ≤ V.heap.size → (∀ q : Nat, q < U.heap.size → ¬ sz ≤ q → V.heap[q]? = U.heap[q]?) → St U → St V
def pm_P (D : va_G) (cl : List vw_C) (tc : Nat → ClassId) (sz : Nat) (St : State → Prop) (As : List Value) (hz : Option Nat) (n : Nat) (w : Nat → va_E) : Array Value → State → Prop :=
  va_Pc As (fun U => va_P D cl (pm_L sz n w) U.heap ∧ va_K D cl (pm_T tc) U ∧ sz ≤ U.heap.size ∧ (∀ k, hz = some k → U.heap.size = k) ∧ St U)
def pm_Q (D : va_G) (cl : List vw_C) (sz : Nat) (hz : Option Nat) (n : Nat) (post : Option Value → (Nat → va_E) → Prop) : Array Value → State → Outcome → State → Prop := fun _ st oc t =>
  (∃ (v : Option Value) (w : Nat → va_E), oc = .returned v ∧ post v w ∧ va_P D cl (pm_L sz n w) t.heap ∧ ∀ k, hz = some k → t.heap.size = k) ∧ va_F (fun q => sz ≤ q) st t
def pm_M (l : Launch) (y : MethodName) (ws : List Cond) (rm : Room) (D : va_G) (cl : List vw_C) (tc : Nat → ClassId) (sz : Nat) (St : State → Prop) (As : List Value) (hz : Option Nat) (n : Nat) (w : Nat → va_E) (hz' : Option Nat) (n' : Nat) (post : Option Value → (Nat → va_E) → Prop) : Prop :=
  Met l y ws rm (pm_P D cl tc sz St As hz n w) (pm_Q D cl sz hz' n' post) rm.cells rm.slots (fun q => sz ≤ q)
theorem pm_blind {D : va_G} {cl : List vw_C} {tc : Nat → ClassId} {sz : Nat} {St : State → Prop} (hst : pm_stb sz St) {As : List Value} {hz : Option Nat} {n : Nat} {w : Nat → va_E} : FrameBlind (pm_P D cl tc sz St As hz n w) := by
  intro a U g mk h
  obtain ⟨h1, h2, h3, h4, h5, h6⟩ := h
  exact ⟨h1, h2, va_K.moved (u := U) (U := U.calling g mk a) (Vm.Alike.refl U.vm) h3, h4, h5, hst U (U.calling g mk a) (State.WarmedH.refl U) (Nat.le_refl _) (fun _ _ _ => rfl) h6⟩
variable {p : Program} {l : Launch} {e : Env} {R : Room} {s : State} {m : MethodId} {args : Array Value} {below : List Frame} {meth : Method} {c : Code} {Q : State → Prop} {cells slots : Nat}
variable {cc : ByteArray} {own : String} {D : va_G} {cl : List vw_C} {tc : Nat → ClassId} {sz nL n pc : Nat} {hz : Option Nat} {w : Nat → va_E} {lv : List (Nat × Value)} {st : List Value} {St : State → Prop}
theorem pm_ofG {y : MethodName} {ws ws' : List Cond} {rm : Room} {maxL : Nat} {ret : Option FieldType} {As : List Value} {hz' : Option Nat} {n' : Nat} {post : Option Value → (Nat → va_E) → Prop} (hy : plainName y.cls = true) (hw : ws = Cond.code y cc maxL ret :: ws') (hA : (lg_sl As).length ≤ maxL)
    (body : ∀ p e s m args below meth c, CallFix p m c cc maxL s args ws y.cls → meth.sig.returnType = ret → meth.locks = false → (s.methodNamed? y = some m ∧ s.vm.method? m = some meth) → va_K D cl (pm_T tc) s → sz ≤ s.heap.size → St s →
      pm_G p l e rm s m args below meth c (MQ below (pm_Q D cl sz hz' n' post) args s rm.cells rm.slots (fun q => sz ≤ q)) D cl sz maxL hz n 0 0 w 0 (lv_args 0 As) []) :
    pm_M l y ws rm D cl tc sz St As hz n w hz' n' post := by
  refine Met.ofW hy hw ?_
  intro p e s m args below meth c s₁ B hml hv
  obtain ⟨rfl, hP, hK, hsz, hh, hst⟩ := hv
  rw [lg_entry_eq]
  exact body p e s m _ below meth c ⟨B.exec, B.bytes, hml, findClass_of_methodNamed B.named, atoms_spec (ws := ws) B.pre⟩ B.returns B.notSynchronized ⟨B.named, B.method⟩ hK hsz hst s.heap [] _ (lv_entry As hA) hP va_S.rf hh
theorem pm_iret {post : Option Value → (Nat → va_E) → Prop} {mc ms : Nat} {v : Int32} (hx : p.tables.exec = Jvm.exec) (hb : c.code = cc) (hr : meth.sig.returnType = some .int) (hlocks : meth.locks = false) (hd : decode cc pc = .ok (.ireturn, 1)) (hp : post (some (.int v)) w) (hc : cells ≤ mc) (hs : slots ≤ ms) :
    pm_G p l e R s m args below meth c (MQ below (pm_Q D cl sz hz n post) args s mc ms (fun q => sz ≤ q)) D cl sz nL hz n cells slots w pc lv [.int v] := by
  intro H locs ls hl hP hS hh
  refine W.widen hc hs ?_
  exact W.iret hx hb hr (fun t ht hW => ⟨⟨some (.int v), w, rfl, hp, by rw [ht]; exact hP, fun k hk => by rw [ht]; exact hh k hk⟩, hS.F ht⟩) hS.2.2 hd hlocks
theorem pm_zret {post : Option Value → (Nat → va_E) → Prop} {mc ms : Nat} {v : Int32} (hx : p.tables.exec = Jvm.exec) (hb : c.code = cc) (hr : meth.sig.returnType = some .boolean) (hn : narrow .boolean (.int v) = .int v) (hlocks : meth.locks = false) (hd : decode cc pc = .ok (.ireturn, 1)) (hp : post (some (.int v)) w) (hc : cells ≤ mc) (hs : slots ≤ ms) :
    pm_G p l e R s m args below meth c (MQ below (pm_Q D cl sz hz n post) args s mc ms (fun q => sz ≤ q)) D cl sz nL hz n cells slots w pc lv [.int v] := by
  intro H locs ls hl hP hS hh
  refine W.widen hc hs ?_
  exact W.zret hx hb hr hn (fun t ht hW => ⟨⟨some (.int v), w, rfl, hp, by rw [ht]; exact hP, fun k hk => by rw [ht]; exact hh k hk⟩, hS.F ht⟩) hS.2.2 hd hlocks
theorem pm_lret {post : Option Value → (Nat → va_E) → Prop} {mc ms : Nat} {v : Int64} (hx : p.tables.exec = Jvm.exec) (hb : c.code = cc) (hr : meth.sig.returnType = some .long) (hlocks : meth.locks = false) (hd : decode cc pc = .ok (.lreturn, 1)) (hp : post (some (.long v)) w) (hc : cells ≤ mc) (hs : slots ≤ ms) :
    pm_G p l e R s m args below meth c (MQ below (pm_Q D cl sz hz n post) args s mc ms (fun q => sz ≤ q)) D cl sz nL hz n cells slots w pc lv [.long v] := by
  intro H locs ls hl hP hS hh
  refine W.widen hc hs ?_
  exact W.lret hx hb hr (fun t ht hW => ⟨⟨some (.long v), w, rfl, hp, by rw [ht]; exact hP, fun k hk => by rw [ht]; exact hh k hk⟩, hS.F ht⟩) hS.2.2 hd hlocks
theorem pm_aret {post : Option Value → (Nat → va_E) → Prop} {mc ms a : Nat} {C : String} (hx : p.tables.exec = Jvm.exec) (hb : c.code = cc) (hr : meth.sig.returnType = some (.object C)) (hlocks : meth.locks = false) (hd : decode cc pc = .ok (.areturn, 1)) (hp : post (some (.ref a)) w) (hc : cells ≤ mc) (hs : slots ≤ ms) :
    pm_G p l e R s m args below meth c (MQ below (pm_Q D cl sz hz n post) args s mc ms (fun q => sz ≤ q)) D cl sz nL hz n cells slots w pc lv [.ref a] := by
  intro H locs ls hl hP hS hh
  refine W.widen hc hs ?_
  exact W.aret hx hb hr (Or.inl ⟨_, rfl⟩) (Or.inr ⟨_, rfl⟩) (fun t ht hW => ⟨⟨some (.ref a), w, rfl, hp, by rw [ht]; exact hP, fun k hk => by rw [ht]; exact hh k hk⟩, hS.F ht⟩) hS.2.2 hd hlocks
theorem pm_vret {post : Option Value → (Nat → va_E) → Prop} {mc ms : Nat} (hx : p.tables.exec = Jvm.exec) (hb : c.code = cc) (hr : meth.sig.returnType = none) (hlocks : meth.locks = false) (hd : decode cc pc = .ok (.return_, 1)) (hp : post none w) (hc : cells ≤ mc) (hs : slots ≤ ms) :
    pm_G p l e R s m args below meth c (MQ below (pm_Q D cl sz hz n post) args s mc ms (fun q => sz ≤ q)) D cl sz nL hz n cells slots w pc lv [] := by
  intro H locs ls hl hP hS hh
  refine W.widen hc hs ?_
  exact W.vret hx hb hr (fun t ht hW => ⟨⟨none, w, rfl, hp, by rw [ht]; exact hP, fun k hk => by rw [ht]; exact hh k hk⟩, hS.F ht⟩) hS.2.2 hd hlocks
theorem pm_G.sub {lv' : List (Nat × Value)} (h : ∀ q ∈ lv', q ∈ lv) (k : pm_G p l e R s m args below meth c Q D cl sz nL hz n cells slots w pc lv' st) : pm_G p l e R s m args below meth c Q D cl sz nL hz n cells slots w pc lv st :=
  fun H locs ls hl hP hS hh => k H locs ls ⟨hl.1, hl.2.1, fun q hq => hl.2.2 q (h q hq)⟩ hP hS hh
theorem pm_G.wide {k1 k2 : Nat} (h1 : cells ≤ k1) (h2 : slots ≤ k2) (k : pm_G p l e R s m args below meth c Q D cl sz nL hz n k1 k2 w pc lv st) : pm_G p l e R s m args below meth c Q D cl sz nL hz n cells slots w pc lv st :=
  fun H locs ls hl hP hS hh => W.widen h1 h2 (k H locs ls hl hP hS hh)
theorem pm_call {hz' : Option Nat} {n' mc ms : Nat} {post : Option Value → (Nat → va_E) → Prop} {a : Array Value} {rest : List Value}
    (hr : ∀ (H : Heap) (locs : List Loc) (ls : Array Slot), ls.size = nL → va_P D cl (pm_L sz n w) H → va_S (fun q => sz ≤ q) s.heap H locs → (∀ k, hz = some k → H.size = k) → va_Run p l e R s m args below meth c H locs cells slots mc ms (F0 m pc ls st) rest (pm_Q D cl sz hz' n' post a) (fun q => sz ≤ q))
    (kk : ∀ (v : Option Value) (w' : Nat → va_E), post v w' → pm_G p l e R s m args below meth c Q D cl sz nL hz' n' (cells + mc) (slots + ms) w' (pc + 3) lv (v.toList ++ rest)) : pm_G p l e R s m args below meth c Q D cl sz nL hz n cells slots w pc lv st := by
  intro H locs ls hl hP hS hh T hT X
  obtain ⟨v, st₀, t, T', L, h0, X', hL, e1, e2, ⟨⟨v', w', hv, hp, hP1, hz1⟩, hzF, hk⟩, stp⟩ := hr H locs ls hl.1 hP hS hh T hT X
  cases hv
  rw [h0] at hzF hk
  obtain ⟨t2, a1, b1⟩ := kk v w' hp T'.heap (locs ++ L) ls hl (by rw [e1]; exact hP1)
    ⟨Nat.le_trans hS.1 (by rw [e1]; exact hzF), fun q h1 h2 => by rw [e1, hk q (Nat.lt_of_lt_of_le h1 hS.1) h2]; exact hS.2.1 q h1 h2, fun q hq => by
      rcases List.mem_append.mp hq with h | h
      · exact hS.2.2 q h
      · exact hL q h⟩ (fun k hk => by rw [e1]; exact hz1 k hk) T' rfl X'
  exact ⟨t2, stp t2 a1, b1⟩
theorem pm_pre (hst : pm_stb sz St) (hK : va_K D cl (pm_T tc) s) (hsz : sz ≤ s.heap.size) (hS0 : St s) {H : Heap} {locs : List Loc} (hP : va_P D cl (pm_L sz n w) H) (hS : va_S (fun q => sz ≤ q) s.heap H locs) (hh : ∀ k, hz = some k → H.size = k) {As : List Value} :
    ∀ U : State, U.heap = H → s.WarmedH U.vm → pm_P D cl tc sz St As hz n w As.toArray U := by
  intro U hU hW
  subst hU
  exact ⟨rfl, hP, va_K.moved hW.alike hK, Nat.le_trans hsz hS.1, hh, hst s U hW hS.1 (fun q h1 h2 => hS.2.1 q h1 h2) hS0⟩
end PMQ
end
section
section NM
theorem gm_ok : True := trivial
def gw_ : List Cond := lw_tbl.filter goodWord
theorem gw_good : ∀ w ∈ gw_, goodWord w = true := fun _ h => (List.mem_filter.mp h).2
theorem gm_ (i : Nat) {w : Cond} (h : lw_tbl[i]? = some w) (hg : goodWord w = true) : w ∈ gw_ := List.mem_filter.mpr ⟨List.mem_of_getElem? h, hg⟩
theorem gi_ {c1 c2 : Cond} (h : c2 ∈ gw_) : GoodIn (c1 :: gw_) (c2 :: gw_) := by
  intro w hw
  rcases List.mem_cons.mp hw with rfl | hw
  · exact ⟨List.mem_cons_of_mem _ h, good_of_word (gw_good _ h)⟩
  · exact ⟨List.mem_cons_of_mem _ hw, good_of_word (gw_good _ hw)⟩
def nw_ : List Cond := [(Jvm.Cond.methodLinkNest "LatticeWraps" (23 : Nat) ({ cls := "LatticeWraps$Desk", name := "<init>", desc := "()V" } : Jvm.MethodName) "LatticeWraps"), (Jvm.Cond.methodLinkNest "LatticeWraps$Desk" (11 : Nat) ({ cls := "LatticeWraps$Shaker", name := "<init>", desc := "()V" } : Jvm.MethodName) "LatticeWraps"), (Jvm.Cond.fieldLinkNest "LatticeWraps" (34 : Nat) "LatticeWraps$Desk" "shaker" "LLatticeWraps$Shaker;" "LatticeWraps"), (Jvm.Cond.fieldLinkNest "LatticeWraps" (103 : Nat) "LatticeWraps$Desk" "opened" "LLatticeWraps$Matrix;" "LatticeWraps"), (Jvm.Cond.methodLinkNest "LatticeWraps" (28 : Nat) ({ cls := "LatticeWraps$Key", name := "<init>", desc := "()V" } : Jvm.MethodName) "LatticeWraps"), (Jvm.Cond.fieldLinkNest "LatticeWraps" (46 : Nat) "LatticeWraps$Key" "full" "Z" "LatticeWraps"), (Jvm.Cond.fieldLinkNest "LatticeWraps$Desk" (128 : Nat) "LatticeWraps$Key" "s" "J" "LatticeWraps"), (Jvm.Cond.fieldLinkNest "LatticeWraps$Desk" (49 : Nat) "LatticeWraps$Key" "mark" "J" "LatticeWraps"), (Jvm.Cond.fieldLinkNest "LatticeWraps" (42 : Nat) "LatticeWraps$Key" "mark" "J" "LatticeWraps"), (Jvm.Cond.fieldLinkNest "LatticeWraps$Desk" (70 : Nat) "LatticeWraps$Key" "a" "LLatticeWraps$Matrix;" "LatticeWraps"), (Jvm.Cond.fieldLinkNest "LatticeWraps$Desk" (111 : Nat) "LatticeWraps$Key" "small" "LLatticeWraps$Matrix;" "LatticeWraps"), (Jvm.Cond.fieldLinkNest "LatticeWraps$Desk" (77 : Nat) "LatticeWraps$Key" "b" "LLatticeWraps$Matrix;" "LatticeWraps"), (Jvm.Cond.fieldLinkNest "LatticeWraps" (83 : Nat) "LatticeWraps$Key" "publicRow" "[I" "LatticeWraps"), (Jvm.Cond.methodLinkNest "LatticeWraps" (29 : Nat) ({ cls := "LatticeWraps$Wrap", name := "<init>", desc := "()V" } : Jvm.MethodName) "LatticeWraps"), (Jvm.Cond.fieldLinkNest "LatticeWraps" (62 : Nat) "LatticeWraps$Wrap" "full" "Z" "LatticeWraps"), (Jvm.Cond.fieldLinkNest "LatticeWraps" (54 : Nat) "LatticeWraps$Wrap" "row" "[I" "LatticeWraps"), (Jvm.Cond.fieldLinkNest "LatticeWraps$Shaker" (39 : Nat) "LatticeWraps" "ROUND_BITS" "[J" "LatticeWraps"), (Jvm.Cond.fieldLinkNest "LatticeWraps$Shaker" (74 : Nat) "LatticeWraps" "LANE_GOES_TO" "[I" "LatticeWraps"), (Jvm.Cond.fieldLinkNest "LatticeWraps$Shaker" (78 : Nat) "LatticeWraps" "LANE_TURNS" "[I" "LatticeWraps"), (Jvm.Cond.fieldLinkNest "LatticeWraps$Matrix" (31 : Nat) "LatticeWraps" "SAMPLE_BOUNDS" "[I" "LatticeWraps")]
def R_D : String := "LatticeWraps$Desk"
def T_D : u_T := fun k => match k with
  | 0 => ("LatticeWraps$Desk", "shaker", "LLatticeWraps$Shaker;", true)
  | 1 => ("LatticeWraps$Desk", "small", "LLatticeWraps$Matrix;", true)
  | 2 => ("LatticeWraps$Desk", "errorOfX", "LLatticeWraps$Matrix;", true)
  | 3 => ("LatticeWraps$Desk", "errorOfY", "LLatticeWraps$Matrix;", true)
  | 4 => ("LatticeWraps$Desk", "x", "LLatticeWraps$Matrix;", true)
  | 5 => ("LatticeWraps$Desk", "y", "LLatticeWraps$Matrix;", true)
  | 6 => ("LatticeWraps$Desk", "opened", "LLatticeWraps$Matrix;", true)
  | _ => ("LatticeWraps$Desk", "again", "[I", true)
def t_D : Nat → FieldType := fun k => match k with
  | 0 => .object "LatticeWraps$Shaker"
  | 1 => .object "LatticeWraps$Matrix"
  | 2 => .object "LatticeWraps$Matrix"
  | 3 => .object "LatticeWraps$Matrix"
  | 4 => .object "LatticeWraps$Matrix"
  | 5 => .object "LatticeWraps$Matrix"
  | 6 => .object "LatticeWraps$Matrix"
  | _ => .array .int
set_option maxRecDepth 100000 in
theorem n_D : ∀ a, a < 8 → ∀ b, b < 8 → a ≠ b → (T_D a).2.1 ≠ (T_D b).2.1 := by decide +kernel
set_option maxRecDepth 100000 in
theorem t_D_ok : ∀ k, k < 8 → parseFieldDescriptor (T_D k).2.2.1 = some (t_D k) := by decide +kernel
set_option maxRecDepth 100000 in
theorem u_D_in : ∀ w ∈ u_ws R_D T_D 8, w ∈ gw_ := by decide +kernel
def R_K : String := "LatticeWraps$Key"
def T_K : u_T := fun k => match k with
  | 0 => ("LatticeWraps$Key", "full", "Z", false)
  | 1 => ("LatticeWraps$Key", "s", "J", false)
  | 2 => ("LatticeWraps$Key", "mark", "J", false)
  | 3 => ("LatticeWraps$Key", "a", "LLatticeWraps$Matrix;", true)
  | 4 => ("LatticeWraps$Key", "small", "LLatticeWraps$Matrix;", true)
  | 5 => ("LatticeWraps$Key", "error", "LLatticeWraps$Matrix;", true)
  | 6 => ("LatticeWraps$Key", "b", "LLatticeWraps$Matrix;", true)
  | _ => ("LatticeWraps$Key", "publicRow", "[I", true)
def t_K : Nat → FieldType := fun k => match k with
  | 0 => .boolean
  | 1 => .long
  | 2 => .long
  | 3 => .object "LatticeWraps$Matrix"
  | 4 => .object "LatticeWraps$Matrix"
  | 5 => .object "LatticeWraps$Matrix"
  | 6 => .object "LatticeWraps$Matrix"
  | _ => .array .int
set_option maxRecDepth 100000 in
theorem n_K : ∀ a, a < 8 → ∀ b, b < 8 → a ≠ b → (T_K a).2.1 ≠ (T_K b).2.1 := by decide +kernel
set_option maxRecDepth 100000 in
theorem t_K_ok : ∀ k, k < 8 → parseFieldDescriptor (T_K k).2.2.1 = some (t_K k) := by decide +kernel
set_option maxRecDepth 100000 in
theorem u_K_in : ∀ w ∈ u_ws R_K T_K 8, w ∈ gw_ := by decide +kernel
def R_M : String := "LatticeWraps$Matrix"
def T_M : u_T := fun k => match k with
  | 0 => ("LatticeWraps$Matrix", "rows", "I", true)
  | 1 => ("LatticeWraps$Matrix", "columns", "I", true)
  | _ => ("LatticeWraps$Matrix", "entries", "[I", true)
def t_M : Nat → FieldType := fun k => match k with
  | 0 => .int
  | 1 => .int
  | _ => .array .int
set_option maxRecDepth 100000 in
theorem n_M : ∀ a, a < 3 → ∀ b, b < 3 → a ≠ b → (T_M a).2.1 ≠ (T_M b).2.1 := by decide +kernel
set_option maxRecDepth 100000 in
theorem t_M_ok : ∀ k, k < 3 → parseFieldDescriptor (T_M k).2.2.1 = some (t_M k) := by decide +kernel
set_option maxRecDepth 100000 in
theorem u_M_in : ∀ w ∈ u_ws R_M T_M 3, w ∈ gw_ := by decide +kernel
def R_S : String := "LatticeWraps$Shaker"
def T_S : u_T := fun k => match k with
  | 0 => ("LatticeWraps$Shaker", "lanes", "[J", true)
  | 1 => ("LatticeWraps$Shaker", "moved", "[J", true)
  | 2 => ("LatticeWraps$Shaker", "columns", "[J", true)
  | _ => ("LatticeWraps$Shaker", "length", "I", false)
def t_S : Nat → FieldType := fun k => match k with
  | 0 => .array .long
  | 1 => .array .long
  | 2 => .array .long
  | _ => .int
set_option maxRecDepth 100000 in
theorem n_S : ∀ a, a < 4 → ∀ b, b < 4 → a ≠ b → (T_S a).2.1 ≠ (T_S b).2.1 := by decide +kernel
set_option maxRecDepth 100000 in
theorem t_S_ok : ∀ k, k < 4 → parseFieldDescriptor (T_S k).2.2.1 = some (t_S k) := by decide +kernel
set_option maxRecDepth 100000 in
theorem u_S_in : ∀ w ∈ u_ws R_S T_S 4, w ∈ gw_ := by decide +kernel
def R_W : String := "LatticeWraps$Wrap"
def T_W : u_T := fun k => match k with
  | 0 => ("LatticeWraps$Wrap", "full", "Z", false)
  | _ => ("LatticeWraps$Wrap", "row", "[I", true)
def t_W : Nat → FieldType := fun k => match k with
  | 0 => .boolean
  | _ => .array .int
set_option maxRecDepth 100000 in
theorem n_W : ∀ a, a < 2 → ∀ b, b < 2 → a ≠ b → (T_W a).2.1 ≠ (T_W b).2.1 := by decide +kernel
set_option maxRecDepth 100000 in
theorem t_W_ok : ∀ k, k < 2 → parseFieldDescriptor (T_W k).2.2.1 = some (t_W k) := by decide +kernel
set_option maxRecDepth 100000 in
theorem u_W_in : ∀ w ∈ u_ws R_W T_W 2, w ∈ gw_ := by decide +kernel
def R_L : String := "LatticeWraps"
def T_L : u_T := fun k => match k with
  | 0 => ("LatticeWraps", "keys", "[LLatticeWraps$Key;", true)
  | 1 => ("LatticeWraps", "wraps", "[LLatticeWraps$Wrap;", true)
  | _ => ("LatticeWraps", "desk", "LLatticeWraps$Desk;", true)
def t_L : Nat → FieldType := fun k => match k with
  | 0 => .array (.object "LatticeWraps$Key")
  | 1 => .array (.object "LatticeWraps$Wrap")
  | _ => .object "LatticeWraps$Desk"
set_option maxRecDepth 100000 in
theorem n_L : ∀ a, a < 3 → ∀ b, b < 3 → a ≠ b → (T_L a).2.1 ≠ (T_L b).2.1 := by decide +kernel
set_option maxRecDepth 100000 in
theorem t_L_ok : ∀ k, k < 3 → parseFieldDescriptor (T_L k).2.2.1 = some (t_L k) := by decide +kernel
set_option maxRecDepth 100000 in
theorem u_L_in : ∀ w ∈ u_ws R_L T_L 3, w ∈ gw_ := by decide +kernel
def R_R : String := "LatticeWrapsModel"
def T_R : u_T := fun k => match k with
  | 0 => ("LatticeWrapsModel", "code", "I", false)
  | 1 => ("LatticeWrapsModel", "turns", "[I", true)
  | 2 => ("LatticeWrapsModel", "flips", "[Z", true)
  | 3 => ("LatticeWrapsModel", "lane", "[J", true)
  | 4 => ("LatticeWrapsModel", "moved", "[J", true)
  | 5 => ("LatticeWrapsModel", "column", "[J", true)
  | 6 => ("LatticeWrapsModel", "rowSize", "I", false)
  | 7 => ("LatticeWrapsModel", "row", "[I", true)
  | 8 => ("LatticeWrapsModel", "out", "[I", true)
  | 9 => ("LatticeWrapsModel", "made", "[Z", true)
  | 10 => ("LatticeWrapsModel", "seeds", "[J", true)
  | 11 => ("LatticeWrapsModel", "secrets", "[J", true)
  | 12 => ("LatticeWrapsModel", "marks", "[J", true)
  | 13 => ("LatticeWrapsModel", "a", "[I", true)
  | 14 => ("LatticeWrapsModel", "s", "[I", true)
  | 15 => ("LatticeWrapsModel", "b", "[I", true)
  | 16 => ("LatticeWrapsModel", "e", "[I", true)
  | 17 => ("LatticeWrapsModel", "wrapped", "[Z", true)
  | 18 => ("LatticeWrapsModel", "wraps", "[I", true)
  | 19 => ("LatticeWrapsModel", "small", "[I", true)
  | 20 => ("LatticeWrapsModel", "x", "[I", true)
  | _ => ("LatticeWrapsModel", "y", "[I", true)
def t_R : Nat → FieldType := fun k => match k with
  | 0 => .int
  | 1 => .array .int
  | 2 => .array .boolean
  | 3 => .array .long
  | 4 => .array .long
  | 5 => .array .long
  | 6 => .int
  | 7 => .array .int
  | 8 => .array .int
  | 9 => .array .boolean
  | 10 => .array .long
  | 11 => .array .long
  | 12 => .array .long
  | 13 => .array .int
  | 14 => .array .int
  | 15 => .array .int
  | 16 => .array .int
  | 17 => .array .boolean
  | 18 => .array .int
  | 19 => .array .int
  | 20 => .array .int
  | _ => .array .int
set_option maxRecDepth 100000 in
theorem n_R : ∀ a, a < 22 → ∀ b, b < 22 → a ≠ b → (T_R a).2.1 ≠ (T_R b).2.1 := by decide +kernel
set_option maxRecDepth 100000 in
theorem t_R_ok : ∀ k, k < 22 → parseFieldDescriptor (T_R k).2.2.1 = some (t_R k) := by decide +kernel
set_option maxRecDepth 100000 in
theorem u_R_in : ∀ w ∈ u_ws R_R T_R 22, w ∈ gw_ := by decide +kernel
def R_Q : String := "LatticeWrapsLaw"
abbrev cl_ : List vw_C := [(R_D, T_D, 8), (R_K, T_K, 8), (R_M, T_M, 3), (R_S, T_S, 4), (R_W, T_W, 2), (R_L, T_L, 3), (R_R, T_R, 22)]
abbrev c_L_init : ByteArray := prog_1_method_1_code
def y_L_init : MethodName := ⟨R_L, "<init>", "()V"⟩
abbrev k_L_init : Cond := .code y_L_init c_L_init 2 none
abbrev c_D_init : ByteArray := prog_2_method_1_code
def y_D_init : MethodName := ⟨R_D, "<init>", "()V"⟩
abbrev k_D_init : Cond := .code y_D_init c_D_init 1 none
abbrev c_S_init : ByteArray := prog_5_method_1_code
def y_S_init : MethodName := ⟨R_S, "<init>", "()V"⟩
abbrev k_S_init : Cond := .code y_S_init c_S_init 1 none
abbrev c_M_init : ByteArray := prog_4_method_1_code
def y_M_init : MethodName := ⟨R_M, "<init>", "(II)V"⟩
abbrev k_M_init : Cond := .code y_M_init c_M_init 3 none
abbrev c_K_init : ByteArray := prog_3_method_1_code
def y_K_init : MethodName := ⟨R_K, "<init>", "()V"⟩
abbrev k_K_init : Cond := .code y_K_init c_K_init 1 none
abbrev c_W_init : ByteArray := prog_6_method_1_code
def y_W_init : MethodName := ⟨R_W, "<init>", "()V"⟩
abbrev k_W_init : Cond := .code y_W_init c_W_init 1 none
abbrev c_Q_make : ByteArray := method_3_code
def y_Q_make : MethodName := ⟨R_Q, "make", "(LLatticeWraps;IJJJ[J)I"⟩
abbrev k_Q_make : Cond := .codeWith y_Q_make c_Q_make 10 (some .int) [((0 : Nat), (14 : Nat), (17 : Nat), (13 : Nat))]
abbrev c_L_make : ByteArray := prog_1_method_2_code
def y_L_make : MethodName := ⟨R_L, "make", "(IJJJ)J"⟩
abbrev k_L_make : Cond := .code y_L_make c_L_make 8 (some .long)
abbrev c_L_refuseNoPlace : ByteArray := prog_1_method_16_code
def y_L_refuseNoPlace : MethodName := ⟨R_L, "refuseNoPlace", "(I)V"⟩
abbrev k_L_refuseNoPlace : Cond := .code y_L_refuseNoPlace c_L_refuseNoPlace 1 none
abbrev c_K_fillFrom : ByteArray := prog_3_method_2_code
def y_K_fillFrom : MethodName := ⟨R_K, "fillFrom", "(JJJLLatticeWraps$Shaker;)V"⟩
abbrev k_K_fillFrom : Cond := .code y_K_fillFrom c_K_fillFrom 11 none
abbrev c_S_ofLong : ByteArray := prog_5_method_9_code
def y_S_ofLong : MethodName := ⟨R_S, "ofLong", "(J)J"⟩
abbrev k_S_ofLong : Cond := .code y_S_ofLong c_S_ofLong 3 (some .long)
abbrev c_S_begin : ByteArray := prog_5_method_2_code
def y_S_begin : MethodName := ⟨R_S, "begin", "()V"⟩
abbrev k_S_begin : Cond := .code y_S_begin c_S_begin 1 none
abbrev c_A_fill : ByteArray := prog_16_method_101_code
def y_A_fill : MethodName := ⟨"java/util/Arrays", "fill", "([JJ)V"⟩
abbrev k_A_fill : Cond := .code y_A_fill c_A_fill 5 none
abbrev c_S_putBytes : ByteArray := prog_5_method_4_code
def y_S_putBytes : MethodName := ⟨R_S, "putBytes", "(JI)V"⟩
abbrev k_S_putBytes : Cond := .code y_S_putBytes c_S_putBytes 5 none
abbrev c_S_putByte : ByteArray := prog_5_method_3_code
def y_S_putByte : MethodName := ⟨R_S, "putByte", "(I)V"⟩
abbrev k_S_putByte : Cond := .code y_S_putByte c_S_putByte 2 none
abbrev c_S_finish : ByteArray := prog_5_method_6_code
def y_S_finish : MethodName := ⟨R_S, "finish", "()V"⟩
abbrev k_S_finish : Cond := .code y_S_finish c_S_finish 2 none
abbrev c_S_mixColumns : ByteArray := prog_5_method_12_code
def y_S_mixColumns : MethodName := ⟨R_S, "mixColumns", "()V"⟩
abbrev k_S_mixColumns : Cond := .code y_S_mixColumns c_S_mixColumns 5 none
abbrev c_S_turned : ByteArray := prog_5_method_15_code
def y_S_turned : MethodName := ⟨R_S, "turned", "(JI)J"⟩
abbrev k_S_turned : Cond := .code y_S_turned c_S_turned 3 (some .long)
abbrev c_S_moveLanes : ByteArray := prog_5_method_13_code
def y_S_moveLanes : MethodName := ⟨R_S, "moveLanes", "()V"⟩
abbrev k_S_moveLanes : Cond := .code y_S_moveLanes c_S_moveLanes 2 none
abbrev c_S_mixRows : ByteArray := prog_5_method_14_code
def y_S_mixRows : MethodName := ⟨R_S, "mixRows", "()V"⟩
abbrev k_S_mixRows : Cond := .code y_S_mixRows c_S_mixRows 7 none
abbrev c_S_longAt : ByteArray := prog_5_method_7_code
def y_S_longAt : MethodName := ⟨R_S, "longAt", "(I)J"⟩
abbrev k_S_longAt : Cond := .code y_S_longAt c_S_longAt 2 (some .long)
abbrev c_K_fillA : ByteArray := prog_3_method_3_code
def y_K_fillA : MethodName := ⟨R_K, "fillA", "(JLLatticeWraps$Shaker;)V"⟩
abbrev k_K_fillA : Cond := .code y_K_fillA c_K_fillA 6 none
abbrev c_S_pairAt : ByteArray := prog_5_method_8_code
def y_S_pairAt : MethodName := ⟨R_S, "pairAt", "(I)I"⟩
abbrev k_S_pairAt : Cond := .code y_S_pairAt c_S_pairAt 2 (some .int)
abbrev c_M_put : ByteArray := prog_4_method_4_code
def y_M_put : MethodName := ⟨R_M, "put", "(III)V"⟩
abbrev k_M_put : Cond := .code y_M_put c_M_put 4 none
abbrev c_S_ofByteAndLong : ByteArray := prog_5_method_10_code
def y_S_ofByteAndLong : MethodName := ⟨R_S, "ofByteAndLong", "(IJ)V"⟩
abbrev k_S_ofByteAndLong : Cond := .code y_S_ofByteAndLong c_S_ofByteAndLong 4 none
abbrev c_M_takeSamples : ByteArray := prog_4_method_5_code
def y_M_takeSamples : MethodName := ⟨R_M, "takeSamples", "(LLatticeWraps$Shaker;I)V"⟩
abbrev k_M_takeSamples : Cond := .code y_M_takeSamples c_M_takeSamples 4 none
abbrev c_M_sampleOf : ByteArray := prog_4_method_6_code
def y_M_sampleOf : MethodName := ⟨R_M, "sampleOf", "(I)I"⟩
abbrev k_M_sampleOf : Cond := .code y_M_sampleOf c_M_sampleOf 3 (some .int)
abbrev c_M_takeSumWithProduct : ByteArray := prog_4_method_7_code
def y_M_takeSumWithProduct : MethodName := ⟨R_M, "takeSumWithProduct", "(LLatticeWraps$Matrix;ILLatticeWraps$Matrix;LLatticeWraps$Matrix;)V"⟩
abbrev k_M_takeSumWithProduct : Cond := .code y_M_takeSumWithProduct c_M_takeSumWithProduct 9 none
abbrev c_M_at : ByteArray := prog_4_method_3_code
def y_M_at : MethodName := ⟨R_M, "at", "(II)I"⟩
abbrev k_M_at : Cond := .code y_M_at c_M_at 3 (some .int)
abbrev c_M_packInto : ByteArray := prog_4_method_8_code
def y_M_packInto : MethodName := ⟨R_M, "packInto", "([II)V"⟩
abbrev k_M_packInto : Cond := .code y_M_packInto c_M_packInto 7 none
abbrev c_S_putRow : ByteArray := prog_5_method_5_code
def y_S_putRow : MethodName := ⟨R_S, "putRow", "([I)V"⟩
abbrev k_S_putRow : Cond := .code y_S_putRow c_S_putRow 3 none
abbrev c_Q_wrap : ByteArray := method_4_code
def y_Q_wrap : MethodName := ⟨R_Q, "wrap", "(LLatticeWraps;III[J)I"⟩
abbrev k_Q_wrap : Cond := .codeWith y_Q_wrap c_Q_wrap 6 (some .int) [((0 : Nat), (11 : Nat), (14 : Nat), (13 : Nat)), ((0 : Nat), (11 : Nat), (18 : Nat), (19 : Nat))]
abbrev c_L_wrap : ByteArray := prog_1_method_3_code
def y_L_wrap : MethodName := ⟨R_L, "wrap", "(III)J"⟩
abbrev k_L_wrap : Cond := .code y_L_wrap c_L_wrap 6 (some .long)
abbrev c_L_refuseEmpty : ByteArray := prog_1_method_19_code
def y_L_refuseEmpty : MethodName := ⟨R_L, "refuseEmpty", "(Z)V"⟩
abbrev k_L_refuseEmpty : Cond := .code y_L_refuseEmpty c_L_refuseEmpty 1 none
abbrev c_D_seal : ByteArray := prog_2_method_2_code
def y_D_seal : MethodName := ⟨R_D, "seal", "(ILLatticeWraps$Key;[I)J"⟩
abbrev k_D_seal : Cond := .code y_D_seal c_D_seal 8 (some .long)
abbrev c_D_takeNoise : ByteArray := prog_2_method_3_code
def y_D_takeNoise : MethodName := ⟨R_D, "takeNoise", "(J)V"⟩
abbrev k_D_takeNoise : Cond := .code y_D_takeNoise c_D_takeNoise 3 none
abbrev c_D_addCode : ByteArray := prog_2_method_4_code
def y_D_addCode : MethodName := ⟨R_D, "addCode", "(I)V"⟩
abbrev k_D_addCode : Cond := .code y_D_addCode c_D_addCode 5 none
abbrev c_S_ofRowAndLong : ByteArray := prog_5_method_11_code
def y_S_ofRowAndLong : MethodName := ⟨R_S, "ofRowAndLong", "([IJ)J"⟩
abbrev k_S_ofRowAndLong : Cond := .code y_S_ofRowAndLong c_S_ofRowAndLong 4 (some .long)
abbrev c_Q_unwrap : ByteArray := method_5_code
def y_Q_unwrap : MethodName := ⟨R_Q, "unwrap", "(LLatticeWraps;II[J)I"⟩
abbrev k_Q_unwrap : Cond := .codeWith y_Q_unwrap c_Q_unwrap 5 (some .int) [((0 : Nat), (9 : Nat), (12 : Nat), (13 : Nat)), ((0 : Nat), (9 : Nat), (16 : Nat), (19 : Nat))]
abbrev c_L_unwrap : ByteArray := prog_1_method_4_code
def y_L_unwrap : MethodName := ⟨R_L, "unwrap", "(II)J"⟩
abbrev k_L_unwrap : Cond := .code y_L_unwrap c_L_unwrap 3 (some .long)
abbrev c_L_refuseUnreadable : ByteArray := prog_1_method_14_code
def y_L_refuseUnreadable : MethodName := ⟨R_L, "refuseUnreadable", "(II)V"⟩
abbrev k_L_refuseUnreadable : Cond := .code y_L_refuseUnreadable c_L_refuseUnreadable 3 none
abbrev c_D_unseal : ByteArray := prog_2_method_8_code
def y_D_unseal : MethodName := ⟨R_D, "unseal", "([ILLatticeWraps$Key;)J"⟩
abbrev k_D_unseal : Cond := .code y_D_unseal c_D_unseal 5 (some .long)
abbrev c_D_open : ByteArray := prog_2_method_5_code
def y_D_open : MethodName := ⟨R_D, "open", "([ILLatticeWraps$Key;)V"⟩
abbrev k_D_open : Cond := .code y_D_open c_D_open 3 none
abbrev c_M_unpackFrom : ByteArray := prog_4_method_9_code
def y_M_unpackFrom : MethodName := ⟨R_M, "unpackFrom", "([II)V"⟩
abbrev k_M_unpackFrom : Cond := .code y_M_unpackFrom c_M_unpackFrom 7 none
abbrev c_D_openedMessage : ByteArray := prog_2_method_6_code
def y_D_openedMessage : MethodName := ⟨R_D, "openedMessage", "()I"⟩
abbrev k_D_openedMessage : Cond := .code y_D_openedMessage c_D_openedMessage 5 (some .int)
abbrev c_D_isAgain : ByteArray := prog_2_method_9_code
def y_D_isAgain : MethodName := ⟨R_D, "isAgain", "([I)Z"⟩
abbrev k_D_isAgain : Cond := .code y_D_isAgain c_D_isAgain 4 (some .boolean)
abbrev c_Q_change : ByteArray := method_6_code
def y_Q_change : MethodName := ⟨R_Q, "change", "(LLatticeWraps;III[J)I"⟩
abbrev k_Q_change : Cond := .codeWith y_Q_change c_Q_change 6 (some .int) [((0 : Nat), (12 : Nat), (15 : Nat), (13 : Nat)), ((0 : Nat), (12 : Nat), (19 : Nat), (19 : Nat)), ((0 : Nat), (12 : Nat), (23 : Nat), (29 : Nat))]
abbrev c_L_change : ByteArray := prog_1_method_5_code
def y_L_change : MethodName := ⟨R_L, "change", "(III)I"⟩
abbrev k_L_change : Cond := .code y_L_change c_L_change 4 (some .int)
abbrev c_L_refuseNoWrapByte : ByteArray := prog_1_method_15_code
def y_L_refuseNoWrapByte : MethodName := ⟨R_L, "refuseNoWrapByte", "(II)V"⟩
abbrev k_L_refuseNoWrapByte : Cond := .code y_L_refuseNoWrapByte c_L_refuseNoWrapByte 3 none
abbrev c_L_refuseOutside : ByteArray := prog_1_method_20_code
def y_L_refuseOutside : MethodName := ⟨R_L, "refuseOutside", "(Z)V"⟩
abbrev k_L_refuseOutside : Cond := .code y_L_refuseOutside c_L_refuseOutside 1 none
abbrev c_Q_copy : ByteArray := method_7_code
def y_Q_copy : MethodName := ⟨R_Q, "copy", "(LLatticeWraps;II)I"⟩
abbrev k_Q_copy : Cond := .codeWith y_Q_copy c_Q_copy 4 (some .int) [((0 : Nat), (6 : Nat), (9 : Nat), (13 : Nat)), ((0 : Nat), (6 : Nat), (12 : Nat), (19 : Nat))]
abbrev c_L_copy : ByteArray := prog_1_method_6_code
def y_L_copy : MethodName := ⟨R_L, "copy", "(II)V"⟩
abbrev k_L_copy : Cond := .code y_L_copy c_L_copy 3 none
abbrev c_Q_forget : ByteArray := method_8_code
def y_Q_forget : MethodName := ⟨R_Q, "forget", "(LLatticeWraps;ZI[J)I"⟩
abbrev k_Q_forget : Cond := .codeWith y_Q_forget c_Q_forget 5 (some .int) [((0 : Nat), (17 : Nat), (20 : Nat), (13 : Nat))]
abbrev c_L_forget : ByteArray := prog_1_method_7_code
def y_L_forget : MethodName := ⟨R_L, "forget", "(ZI)Z"⟩
abbrev k_L_forget : Cond := .code y_L_forget c_L_forget 4 (some .boolean)
abbrev c_Q_wrapByte : ByteArray := method_9_code
def y_Q_wrapByte : MethodName := ⟨R_Q, "wrapByte", "(LLatticeWraps;II[J)I"⟩
abbrev k_Q_wrapByte : Cond := .codeWith y_Q_wrapByte c_Q_wrapByte 5 (some .int) [((0 : Nat), (10 : Nat), (13 : Nat), (13 : Nat)), ((0 : Nat), (10 : Nat), (17 : Nat), (19 : Nat)), ((0 : Nat), (10 : Nat), (21 : Nat), (29 : Nat))]
abbrev c_L_wrapByte : ByteArray := prog_1_method_8_code
def y_L_wrapByte : MethodName := ⟨R_L, "wrapByte", "(II)I"⟩
abbrev k_L_wrapByte : Cond := .code y_L_wrapByte c_L_wrapByte 3 (some .int)
abbrev c_Q_publicByte : ByteArray := method_10_code
def y_Q_publicByte : MethodName := ⟨R_Q, "publicByte", "(LLatticeWraps;II[J)I"⟩
abbrev k_Q_publicByte : Cond := .codeWith y_Q_publicByte c_Q_publicByte 5 (some .int) [((0 : Nat), (10 : Nat), (13 : Nat), (13 : Nat)), ((0 : Nat), (10 : Nat), (17 : Nat), (19 : Nat)), ((0 : Nat), (10 : Nat), (21 : Nat), (29 : Nat))]
abbrev c_L_publicByte : ByteArray := prog_1_method_9_code
def y_L_publicByte : MethodName := ⟨R_L, "publicByte", "(II)I"⟩
abbrev k_L_publicByte : Cond := .code y_L_publicByte c_L_publicByte 3 (some .int)
abbrev c_Q_entry : ByteArray := method_11_code
def y_Q_entry : MethodName := ⟨R_Q, "entry", "(LLatticeWraps;IIII[J)I"⟩
abbrev k_Q_entry : Cond := .codeWith y_Q_entry c_Q_entry 7 (some .int) [((0 : Nat), (14 : Nat), (17 : Nat), (13 : Nat)), ((0 : Nat), (14 : Nat), (21 : Nat), (19 : Nat)), ((0 : Nat), (14 : Nat), (25 : Nat), (29 : Nat))]
abbrev c_L_entry : ByteArray := prog_1_method_10_code
def y_L_entry : MethodName := ⟨R_L, "entry", "(IIII)I"⟩
abbrev k_L_entry : Cond := .code y_L_entry c_L_entry 6 (some .int)
abbrev c_L_refuseNoMatrix : ByteArray := prog_1_method_17_code
def y_L_refuseNoMatrix : MethodName := ⟨R_L, "refuseNoMatrix", "(I)V"⟩
abbrev k_L_refuseNoMatrix : Cond := .code y_L_refuseNoMatrix c_L_refuseNoMatrix 1 none
abbrev c_K_matrix : ByteArray := prog_3_method_4_code
def y_K_matrix : MethodName := ⟨R_K, "matrix", "(I)LLatticeWraps$Matrix;"⟩
abbrev k_K_matrix : Cond := .code y_K_matrix c_K_matrix 2 (some (.object "LatticeWraps$Matrix"))
abbrev c_M_has : ByteArray := prog_4_method_2_code
def y_M_has : MethodName := ⟨R_M, "has", "(II)Z"⟩
abbrev k_M_has : Cond := .code y_M_has c_M_has 3 (some .boolean)
abbrev c_Q_noise : ByteArray := method_12_code
def y_Q_noise : MethodName := ⟨R_Q, "noise", "(LLatticeWraps;IIII[J)I"⟩
abbrev k_Q_noise : Cond := .codeWith y_Q_noise c_Q_noise 7 (some .int) [((0 : Nat), (14 : Nat), (17 : Nat), (13 : Nat)), ((0 : Nat), (14 : Nat), (21 : Nat), (19 : Nat)), ((0 : Nat), (14 : Nat), (25 : Nat), (29 : Nat))]
abbrev c_L_noise : ByteArray := prog_1_method_11_code
def y_L_noise : MethodName := ⟨R_L, "noise", "(IIII)I"⟩
abbrev k_L_noise : Cond := .code y_L_noise c_L_noise 5 (some .int)
abbrev c_D_openedNoise : ByteArray := prog_2_method_7_code
def y_D_openedNoise : MethodName := ⟨R_D, "openedNoise", "(II)I"⟩
abbrev k_D_openedNoise : Cond := .code y_D_openedNoise c_D_openedNoise 3 (some .int)
abbrev c_Q_read : ByteArray := method_13_code
def y_Q_read : MethodName := ⟨R_Q, "read", "(LLatticeWraps;II[J)I"⟩
abbrev k_Q_read : Cond := .codeWith y_Q_read c_Q_read 5 (some .int) [((0 : Nat), (10 : Nat), (13 : Nat), (13 : Nat)), ((0 : Nat), (10 : Nat), (17 : Nat), (19 : Nat))]
abbrev c_L_read : ByteArray := prog_1_method_12_code
def y_L_read : MethodName := ⟨R_L, "read", "(II)I"⟩
abbrev k_L_read : Cond := .code y_L_read c_L_read 3 (some .int)
abbrev c_Q_shake : ByteArray := method_14_code
def y_Q_shake : MethodName := ⟨R_Q, "shake", "(LLatticeWraps;IJ[J)I"⟩
abbrev k_Q_shake : Cond := .codeWith y_Q_shake c_Q_shake 6 (some .int) [((0 : Nat), (10 : Nat), (13 : Nat), (13 : Nat))]
abbrev c_L_shake : ByteArray := prog_1_method_13_code
def y_L_shake : MethodName := ⟨R_L, "shake", "(IJ)J"⟩
abbrev k_L_shake : Cond := .code y_L_shake c_L_shake 4 (some .long)
abbrev c_L_refuseNoLength : ByteArray := prog_1_method_18_code
def y_L_refuseNoLength : MethodName := ⟨R_L, "refuseNoLength", "(I)V"⟩
abbrev k_L_refuseNoLength : Cond := .code y_L_refuseNoLength c_L_refuseNoLength 1 none
abbrev c_R_init : ByteArray := prog_8_method_1_code
def y_R_init : MethodName := ⟨R_R, "<init>", "()V"⟩
abbrev k_R_init : Cond := .code y_R_init c_R_init 5 none
abbrev c_R_thrown : ByteArray := prog_8_method_2_code
def y_R_thrown : MethodName := ⟨R_R, "thrown", "()I"⟩
abbrev k_R_thrown : Cond := .code y_R_thrown c_R_thrown 1 (some .int)
abbrev c_R_make : ByteArray := prog_8_method_16_code
def y_R_make : MethodName := ⟨R_R, "make", "(IJJJ)J"⟩
abbrev k_R_make : Cond := .code y_R_make c_R_make 11 (some .long)
abbrev c_R_isPlace : ByteArray := prog_8_method_15_code
def y_R_isPlace : MethodName := ⟨R_R, "isPlace", "(I)Z"⟩
abbrev k_R_isPlace : Cond := .code y_R_isPlace c_R_isPlace 1 (some .boolean)
abbrev c_R_addBytes : ByteArray := prog_8_method_5_code
def y_R_addBytes : MethodName := ⟨R_R, "addBytes", "(JI)V"⟩
abbrev k_R_addBytes : Cond := .code y_R_addBytes c_R_addBytes 5 none
abbrev c_R_shakeRow : ByteArray := prog_8_method_7_code
def y_R_shakeRow : MethodName := ⟨R_R, "shakeRow", "(I)V"⟩
abbrev k_R_shakeRow : Cond := .code y_R_shakeRow c_R_shakeRow 3 none
abbrev c_R_round : ByteArray := prog_8_method_4_code
def y_R_round : MethodName := ⟨R_R, "round", "(I)V"⟩
abbrev k_R_round : Cond := .code y_R_round c_R_round 7 none
abbrev c_R_rot : ByteArray := prog_8_method_3_code
def y_R_rot : MethodName := ⟨R_R, "rot", "(JI)J"⟩
abbrev k_R_rot : Cond := .code y_R_rot c_R_rot 3 (some .long)
abbrev c_R_longAt : ByteArray := prog_8_method_8_code
def y_R_longAt : MethodName := ⟨R_R, "longAt", "(I)J"⟩
abbrev k_R_longAt : Cond := .code y_R_longAt c_R_longAt 5 (some .long)
abbrev c_R_sampleAt : ByteArray := prog_8_method_11_code
def y_R_sampleAt : MethodName := ⟨R_R, "sampleAt", "(I)I"⟩
abbrev k_R_sampleAt : Cond := .code y_R_sampleAt c_R_sampleAt 5 (some .int)
abbrev c_R_pairAt : ByteArray := prog_8_method_9_code
def y_R_pairAt : MethodName := ⟨R_R, "pairAt", "(I)I"⟩
abbrev k_R_pairAt : Cond := .code y_R_pairAt c_R_pairAt 2 (some .int)
abbrev c_R_step : ByteArray := prog_8_method_10_code
def y_R_step : MethodName := ⟨R_R, "step", "(I)I"⟩
abbrev k_R_step : Cond := .code y_R_step c_R_step 1 (some .int)
abbrev c_R_expand : ByteArray := prog_8_method_14_code
def y_R_expand : MethodName := ⟨R_R, "expand", "(I)V"⟩
abbrev k_R_expand : Cond := .code y_R_expand c_R_expand 4 none
abbrev c_R_addPublic : ByteArray := prog_8_method_12_code
def y_R_addPublic : MethodName := ⟨R_R, "addPublic", "(I)V"⟩
abbrev k_R_addPublic : Cond := .code y_R_addPublic c_R_addPublic 3 none
abbrev c_R_packedByte : ByteArray := prog_8_method_13_code
def y_R_packedByte : MethodName := ⟨R_R, "packedByte", "([III)I"⟩
abbrev k_R_packedByte : Cond := .code y_R_packedByte c_R_packedByte 5 (some .int)
abbrev c_R_wrap : ByteArray := prog_8_method_21_code
def y_R_wrap : MethodName := ⟨R_R, "wrap", "(III)J"⟩
abbrev k_R_wrap : Cond := .code y_R_wrap c_R_wrap 4 (some .long)
abbrev c_R_wrapInto : ByteArray := prog_8_method_17_code
def y_R_wrapInto : MethodName := ⟨R_R, "wrapInto", "(III)J"⟩
abbrev k_R_wrapInto : Cond := .code y_R_wrapInto c_R_wrapInto 11 (some .long)
abbrev c_R_addWrap : ByteArray := prog_8_method_6_code
def y_R_addWrap : MethodName := ⟨R_R, "addWrap", "(I)V"⟩
abbrev k_R_addWrap : Cond := .code y_R_addWrap c_R_addWrap 3 none
abbrev c_R_unwrap : ByteArray := prog_8_method_23_code
def y_R_unwrap : MethodName := ⟨R_R, "unwrap", "(II)J"⟩
abbrev k_R_unwrap : Cond := .code y_R_unwrap c_R_unwrap 7 (some .long)
abbrev c_R_refusal : ByteArray := prog_8_method_22_code
def y_R_refusal : MethodName := ⟨R_R, "refusal", "(II)I"⟩
abbrev k_R_refusal : Cond := .code y_R_refusal c_R_refusal 3 (some .int)
abbrev c_R_readFrom : ByteArray := prog_8_method_20_code
def y_R_readFrom : MethodName := ⟨R_R, "readFrom", "(II)I"⟩
abbrev k_R_readFrom : Cond := .code y_R_readFrom c_R_readFrom 5 (some .int)
abbrev c_R_shifted : ByteArray := prog_8_method_19_code
def y_R_shifted : MethodName := ⟨R_R, "shifted", "(IIII)I"⟩
abbrev k_R_shifted : Cond := .code y_R_shifted c_R_shifted 7 (some .int)
abbrev c_R_wrapEntry : ByteArray := prog_8_method_18_code
def y_R_wrapEntry : MethodName := ⟨R_R, "wrapEntry", "(II)I"⟩
abbrev k_R_wrapEntry : Cond := .code y_R_wrapEntry c_R_wrapEntry 5 (some .int)
abbrev c_R_change : ByteArray := prog_8_method_25_code
def y_R_change : MethodName := ⟨R_R, "change", "(III)I"⟩
abbrev k_R_change : Cond := .code y_R_change c_R_change 4 (some .int)
abbrev c_R_byteRefusal : ByteArray := prog_8_method_24_code
def y_R_byteRefusal : MethodName := ⟨R_R, "byteRefusal", "(II)I"⟩
abbrev k_R_byteRefusal : Cond := .code y_R_byteRefusal c_R_byteRefusal 3 (some .int)
abbrev c_R_copy : ByteArray := prog_8_method_26_code
def y_R_copy : MethodName := ⟨R_R, "copy", "(II)V"⟩
abbrev k_R_copy : Cond := .code y_R_copy c_R_copy 4 none
abbrev c_R_forget : ByteArray := prog_8_method_27_code
def y_R_forget : MethodName := ⟨R_R, "forget", "(ZI)Z"⟩
abbrev k_R_forget : Cond := .code y_R_forget c_R_forget 4 (some .boolean)
abbrev c_R_wrapByte : ByteArray := prog_8_method_28_code
def y_R_wrapByte : MethodName := ⟨R_R, "wrapByte", "(II)I"⟩
abbrev k_R_wrapByte : Cond := .code y_R_wrapByte c_R_wrapByte 3 (some .int)
abbrev c_R_publicByte : ByteArray := prog_8_method_29_code
def y_R_publicByte : MethodName := ⟨R_R, "publicByte", "(II)I"⟩
abbrev k_R_publicByte : Cond := .code y_R_publicByte c_R_publicByte 3 (some .int)
abbrev c_R_entry : ByteArray := prog_8_method_30_code
def y_R_entry : MethodName := ⟨R_R, "entry", "(IIII)I"⟩
abbrev k_R_entry : Cond := .code y_R_entry c_R_entry 6 (some .int)
abbrev c_R_noise : ByteArray := prog_8_method_31_code
def y_R_noise : MethodName := ⟨R_R, "noise", "(IIII)I"⟩
abbrev k_R_noise : Cond := .code y_R_noise c_R_noise 5 (some .int)
abbrev c_R_read : ByteArray := prog_8_method_32_code
def y_R_read : MethodName := ⟨R_R, "read", "(II)I"⟩
abbrev k_R_read : Cond := .code y_R_read c_R_read 3 (some .int)
abbrev c_R_shake : ByteArray := prog_8_method_33_code
def y_R_shake : MethodName := ⟨R_R, "shake", "(IJ)J"⟩
abbrev k_R_shake : Cond := .code y_R_shake c_R_shake 4 (some .long)
end NM
end
section
section NB
def cv_ (C : String) (y : MethodName) (b : ByteArray) (maxL : Nat) (ret : Option FieldType) (na : Nat) : Prop := Cond.instanceMethod y ∈ gw_ ∧ Cond.selects C y y ∈ gw_ ∧ Cond.initialized y.cls ∈ gw_ ∧ Cond.code y b maxL ret ∈ gw_ ∧ y.cls ≠ "java/lang/invoke/MethodHandle" ∧ y.cls ≠ "java/lang/invoke/VarHandle" ∧ (parseMethodDescriptor y.desc).map (fun d => d.parameters.length) = some na
def cs_ (y : MethodName) (b : ByteArray) (maxL : Nat) (ret : Option FieldType) (na : Nat) : Prop := Cond.static y ∈ gw_ ∧ Cond.initialized y.cls ∈ gw_ ∧ Cond.code y b maxL ret ∈ gw_ ∧ y.cls ≠ "java/lang/invoke/MethodHandle" ∧ y.cls ≠ "java/lang/invoke/VarHandle" ∧ (parseMethodDescriptor y.desc).map (fun d => d.parameters.length) = some na
def ci_ (y : MethodName) (b : ByteArray) (maxL : Nat) (na : Nat) : Prop := y.name = "<init>" ∧ Cond.instanceMethod y ∈ gw_ ∧ Cond.initialized y.cls ∈ gw_ ∧ Cond.code y b maxL none ∈ gw_ ∧ y.cls ≠ "java/lang/invoke/MethodHandle" ∧ y.cls ≠ "java/lang/invoke/VarHandle" ∧ (parseMethodDescriptor y.desc).map (fun d => d.parameters.length) = some na
theorem b_L_init : ci_ y_L_init c_L_init 2 0 := ⟨rfl, gm_ 44 (by decide +kernel) (by decide +kernel), gm_ 26 (by decide +kernel) (by decide +kernel), gm_ 45 (by decide +kernel) (by decide +kernel), by decide +kernel, by decide +kernel, by decide +kernel⟩
theorem b_D_init : ci_ y_D_init c_D_init 1 0 := ⟨rfl, gm_ 56 (by decide +kernel) (by decide +kernel), gm_ 27 (by decide +kernel) (by decide +kernel), gm_ 57 (by decide +kernel) (by decide +kernel), by decide +kernel, by decide +kernel, by decide +kernel⟩
theorem b_S_init : ci_ y_S_init c_S_init 1 0 := ⟨rfl, gm_ 62 (by decide +kernel) (by decide +kernel), gm_ 28 (by decide +kernel) (by decide +kernel), gm_ 63 (by decide +kernel) (by decide +kernel), by decide +kernel, by decide +kernel, by decide +kernel⟩
theorem b_M_init : ci_ y_M_init c_M_init 3 2 := ⟨rfl, gm_ 82 (by decide +kernel) (by decide +kernel), gm_ 29 (by decide +kernel) (by decide +kernel), gm_ 83 (by decide +kernel) (by decide +kernel), by decide +kernel, by decide +kernel, by decide +kernel⟩
theorem b_K_init : ci_ y_K_init c_K_init 1 0 := ⟨rfl, gm_ 125 (by decide +kernel) (by decide +kernel), gm_ 30 (by decide +kernel) (by decide +kernel), gm_ 126 (by decide +kernel) (by decide +kernel), by decide +kernel, by decide +kernel, by decide +kernel⟩
theorem b_W_init : ci_ y_W_init c_W_init 1 0 := ⟨rfl, gm_ 165 (by decide +kernel) (by decide +kernel), gm_ 31 (by decide +kernel) (by decide +kernel), gm_ 166 (by decide +kernel) (by decide +kernel), by decide +kernel, by decide +kernel, by decide +kernel⟩
theorem b_L_make : cv_ R_L y_L_make c_L_make 8 (some .long) 4 := ⟨gm_ 192 (by decide +kernel) (by decide +kernel), gm_ 193 (by decide +kernel) (by decide +kernel), gm_ 26 (by decide +kernel) (by decide +kernel), gm_ 194 (by decide +kernel) (by decide +kernel), by decide +kernel, by decide +kernel, by decide +kernel⟩
theorem b_L_refuseNoPlace : cs_ y_L_refuseNoPlace c_L_refuseNoPlace 1 none 1 := ⟨gm_ 196 (by decide +kernel) (by decide +kernel), gm_ 26 (by decide +kernel) (by decide +kernel), gm_ 197 (by decide +kernel) (by decide +kernel), by decide +kernel, by decide +kernel, by decide +kernel⟩
theorem b_K_fillFrom : cv_ R_K y_K_fillFrom c_K_fillFrom 11 none 4 := ⟨gm_ 267 (by decide +kernel) (by decide +kernel), gm_ 268 (by decide +kernel) (by decide +kernel), gm_ 30 (by decide +kernel) (by decide +kernel), gm_ 269 (by decide +kernel) (by decide +kernel), by decide +kernel, by decide +kernel, by decide +kernel⟩
theorem b_S_ofLong : cv_ R_S y_S_ofLong c_S_ofLong 3 (some .long) 1 := ⟨gm_ 271 (by decide +kernel) (by decide +kernel), gm_ 272 (by decide +kernel) (by decide +kernel), gm_ 28 (by decide +kernel) (by decide +kernel), gm_ 273 (by decide +kernel) (by decide +kernel), by decide +kernel, by decide +kernel, by decide +kernel⟩
theorem b_S_begin : cv_ R_S y_S_begin c_S_begin 1 none 0 := ⟨gm_ 275 (by decide +kernel) (by decide +kernel), gm_ 276 (by decide +kernel) (by decide +kernel), gm_ 28 (by decide +kernel) (by decide +kernel), gm_ 277 (by decide +kernel) (by decide +kernel), by decide +kernel, by decide +kernel, by decide +kernel⟩
theorem b_A_fill : cs_ y_A_fill c_A_fill 5 none 2 := ⟨gm_ 279 (by decide +kernel) (by decide +kernel), gm_ 37 (by decide +kernel) (by decide +kernel), gm_ 280 (by decide +kernel) (by decide +kernel), by decide +kernel, by decide +kernel, by decide +kernel⟩
theorem b_S_putBytes : cv_ R_S y_S_putBytes c_S_putBytes 5 none 2 := ⟨gm_ 282 (by decide +kernel) (by decide +kernel), gm_ 283 (by decide +kernel) (by decide +kernel), gm_ 28 (by decide +kernel) (by decide +kernel), gm_ 284 (by decide +kernel) (by decide +kernel), by decide +kernel, by decide +kernel, by decide +kernel⟩
theorem b_S_putByte : cv_ R_S y_S_putByte c_S_putByte 2 none 1 := ⟨gm_ 286 (by decide +kernel) (by decide +kernel), gm_ 287 (by decide +kernel) (by decide +kernel), gm_ 28 (by decide +kernel) (by decide +kernel), gm_ 288 (by decide +kernel) (by decide +kernel), by decide +kernel, by decide +kernel, by decide +kernel⟩
theorem b_S_finish : cv_ R_S y_S_finish c_S_finish 2 none 0 := ⟨gm_ 291 (by decide +kernel) (by decide +kernel), gm_ 292 (by decide +kernel) (by decide +kernel), gm_ 28 (by decide +kernel) (by decide +kernel), gm_ 293 (by decide +kernel) (by decide +kernel), by decide +kernel, by decide +kernel, by decide +kernel⟩
theorem b_S_mixColumns : cv_ R_S y_S_mixColumns c_S_mixColumns 5 none 0 := ⟨gm_ 299 (by decide +kernel) (by decide +kernel), gm_ 1 (by decide +kernel) (by decide +kernel), gm_ 28 (by decide +kernel) (by decide +kernel), gm_ 300 (by decide +kernel) (by decide +kernel), by decide +kernel, by decide +kernel, by decide +kernel⟩
theorem b_S_turned : cs_ y_S_turned c_S_turned 3 (some .long) 2 := ⟨gm_ 302 (by decide +kernel) (by decide +kernel), gm_ 28 (by decide +kernel) (by decide +kernel), gm_ 303 (by decide +kernel) (by decide +kernel), by decide +kernel, by decide +kernel, by decide +kernel⟩
theorem b_S_moveLanes : cv_ R_S y_S_moveLanes c_S_moveLanes 2 none 0 := ⟨gm_ 306 (by decide +kernel) (by decide +kernel), gm_ 2 (by decide +kernel) (by decide +kernel), gm_ 28 (by decide +kernel) (by decide +kernel), gm_ 307 (by decide +kernel) (by decide +kernel), by decide +kernel, by decide +kernel, by decide +kernel⟩
theorem b_S_mixRows : cv_ R_S y_S_mixRows c_S_mixRows 7 none 0 := ⟨gm_ 314 (by decide +kernel) (by decide +kernel), gm_ 3 (by decide +kernel) (by decide +kernel), gm_ 28 (by decide +kernel) (by decide +kernel), gm_ 315 (by decide +kernel) (by decide +kernel), by decide +kernel, by decide +kernel, by decide +kernel⟩
theorem b_S_longAt : cv_ R_S y_S_longAt c_S_longAt 2 (some .long) 1 := ⟨gm_ 318 (by decide +kernel) (by decide +kernel), gm_ 319 (by decide +kernel) (by decide +kernel), gm_ 28 (by decide +kernel) (by decide +kernel), gm_ 320 (by decide +kernel) (by decide +kernel), by decide +kernel, by decide +kernel, by decide +kernel⟩
theorem b_K_fillA : cv_ R_K y_K_fillA c_K_fillA 6 none 2 := ⟨gm_ 323 (by decide +kernel) (by decide +kernel), gm_ 4 (by decide +kernel) (by decide +kernel), gm_ 30 (by decide +kernel) (by decide +kernel), gm_ 324 (by decide +kernel) (by decide +kernel), by decide +kernel, by decide +kernel, by decide +kernel⟩
theorem b_S_pairAt : cv_ R_S y_S_pairAt c_S_pairAt 2 (some .int) 1 := ⟨gm_ 330 (by decide +kernel) (by decide +kernel), gm_ 331 (by decide +kernel) (by decide +kernel), gm_ 28 (by decide +kernel) (by decide +kernel), gm_ 332 (by decide +kernel) (by decide +kernel), by decide +kernel, by decide +kernel, by decide +kernel⟩
theorem b_M_put : cv_ R_M y_M_put c_M_put 4 none 3 := ⟨gm_ 335 (by decide +kernel) (by decide +kernel), gm_ 336 (by decide +kernel) (by decide +kernel), gm_ 29 (by decide +kernel) (by decide +kernel), gm_ 337 (by decide +kernel) (by decide +kernel), by decide +kernel, by decide +kernel, by decide +kernel⟩
theorem b_S_ofByteAndLong : cv_ R_S y_S_ofByteAndLong c_S_ofByteAndLong 4 none 2 := ⟨gm_ 339 (by decide +kernel) (by decide +kernel), gm_ 340 (by decide +kernel) (by decide +kernel), gm_ 28 (by decide +kernel) (by decide +kernel), gm_ 341 (by decide +kernel) (by decide +kernel), by decide +kernel, by decide +kernel, by decide +kernel⟩
theorem b_M_takeSamples : cv_ R_M y_M_takeSamples c_M_takeSamples 4 none 2 := ⟨gm_ 343 (by decide +kernel) (by decide +kernel), gm_ 344 (by decide +kernel) (by decide +kernel), gm_ 29 (by decide +kernel) (by decide +kernel), gm_ 345 (by decide +kernel) (by decide +kernel), by decide +kernel, by decide +kernel, by decide +kernel⟩
theorem b_M_sampleOf : cs_ y_M_sampleOf c_M_sampleOf 3 (some .int) 1 := ⟨gm_ 348 (by decide +kernel) (by decide +kernel), gm_ 29 (by decide +kernel) (by decide +kernel), gm_ 349 (by decide +kernel) (by decide +kernel), by decide +kernel, by decide +kernel, by decide +kernel⟩
theorem b_M_takeSumWithProduct : cv_ R_M y_M_takeSumWithProduct c_M_takeSumWithProduct 9 none 4 := ⟨gm_ 353 (by decide +kernel) (by decide +kernel), gm_ 354 (by decide +kernel) (by decide +kernel), gm_ 29 (by decide +kernel) (by decide +kernel), gm_ 355 (by decide +kernel) (by decide +kernel), by decide +kernel, by decide +kernel, by decide +kernel⟩
theorem b_M_at : cv_ R_M y_M_at c_M_at 3 (some .int) 2 := ⟨gm_ 357 (by decide +kernel) (by decide +kernel), gm_ 358 (by decide +kernel) (by decide +kernel), gm_ 29 (by decide +kernel) (by decide +kernel), gm_ 359 (by decide +kernel) (by decide +kernel), by decide +kernel, by decide +kernel, by decide +kernel⟩
theorem b_M_packInto : cv_ R_M y_M_packInto c_M_packInto 7 none 2 := ⟨gm_ 362 (by decide +kernel) (by decide +kernel), gm_ 363 (by decide +kernel) (by decide +kernel), gm_ 29 (by decide +kernel) (by decide +kernel), gm_ 364 (by decide +kernel) (by decide +kernel), by decide +kernel, by decide +kernel, by decide +kernel⟩
theorem b_S_putRow : cv_ R_S y_S_putRow c_S_putRow 3 none 1 := ⟨gm_ 366 (by decide +kernel) (by decide +kernel), gm_ 367 (by decide +kernel) (by decide +kernel), gm_ 28 (by decide +kernel) (by decide +kernel), gm_ 368 (by decide +kernel) (by decide +kernel), by decide +kernel, by decide +kernel, by decide +kernel⟩
theorem b_L_wrap : cv_ R_L y_L_wrap c_L_wrap 6 (some .long) 3 := ⟨gm_ 375 (by decide +kernel) (by decide +kernel), gm_ 376 (by decide +kernel) (by decide +kernel), gm_ 26 (by decide +kernel) (by decide +kernel), gm_ 377 (by decide +kernel) (by decide +kernel), by decide +kernel, by decide +kernel, by decide +kernel⟩
theorem b_L_refuseEmpty : cs_ y_L_refuseEmpty c_L_refuseEmpty 1 none 1 := ⟨gm_ 379 (by decide +kernel) (by decide +kernel), gm_ 26 (by decide +kernel) (by decide +kernel), gm_ 380 (by decide +kernel) (by decide +kernel), by decide +kernel, by decide +kernel, by decide +kernel⟩
theorem b_D_seal : cv_ R_D y_D_seal c_D_seal 8 (some .long) 3 := ⟨gm_ 398 (by decide +kernel) (by decide +kernel), gm_ 399 (by decide +kernel) (by decide +kernel), gm_ 27 (by decide +kernel) (by decide +kernel), gm_ 400 (by decide +kernel) (by decide +kernel), by decide +kernel, by decide +kernel, by decide +kernel⟩
theorem b_D_takeNoise : cv_ R_D y_D_takeNoise c_D_takeNoise 3 none 1 := ⟨gm_ 407 (by decide +kernel) (by decide +kernel), gm_ 5 (by decide +kernel) (by decide +kernel), gm_ 27 (by decide +kernel) (by decide +kernel), gm_ 408 (by decide +kernel) (by decide +kernel), by decide +kernel, by decide +kernel, by decide +kernel⟩
theorem b_D_addCode : cv_ R_D y_D_addCode c_D_addCode 5 none 1 := ⟨gm_ 414 (by decide +kernel) (by decide +kernel), gm_ 6 (by decide +kernel) (by decide +kernel), gm_ 27 (by decide +kernel) (by decide +kernel), gm_ 415 (by decide +kernel) (by decide +kernel), by decide +kernel, by decide +kernel, by decide +kernel⟩
theorem b_S_ofRowAndLong : cv_ R_S y_S_ofRowAndLong c_S_ofRowAndLong 4 (some .long) 2 := ⟨gm_ 420 (by decide +kernel) (by decide +kernel), gm_ 421 (by decide +kernel) (by decide +kernel), gm_ 28 (by decide +kernel) (by decide +kernel), gm_ 422 (by decide +kernel) (by decide +kernel), by decide +kernel, by decide +kernel, by decide +kernel⟩
theorem b_L_unwrap : cv_ R_L y_L_unwrap c_L_unwrap 3 (some .long) 2 := ⟨gm_ 428 (by decide +kernel) (by decide +kernel), gm_ 429 (by decide +kernel) (by decide +kernel), gm_ 26 (by decide +kernel) (by decide +kernel), gm_ 430 (by decide +kernel) (by decide +kernel), by decide +kernel, by decide +kernel, by decide +kernel⟩
theorem b_L_refuseUnreadable : cv_ R_L y_L_refuseUnreadable c_L_refuseUnreadable 3 none 2 := ⟨gm_ 433 (by decide +kernel) (by decide +kernel), gm_ 7 (by decide +kernel) (by decide +kernel), gm_ 26 (by decide +kernel) (by decide +kernel), gm_ 434 (by decide +kernel) (by decide +kernel), by decide +kernel, by decide +kernel, by decide +kernel⟩
theorem b_D_unseal : cv_ R_D y_D_unseal c_D_unseal 5 (some .long) 2 := ⟨gm_ 436 (by decide +kernel) (by decide +kernel), gm_ 437 (by decide +kernel) (by decide +kernel), gm_ 27 (by decide +kernel) (by decide +kernel), gm_ 438 (by decide +kernel) (by decide +kernel), by decide +kernel, by decide +kernel, by decide +kernel⟩
theorem b_D_open : cv_ R_D y_D_open c_D_open 3 none 2 := ⟨gm_ 440 (by decide +kernel) (by decide +kernel), gm_ 441 (by decide +kernel) (by decide +kernel), gm_ 27 (by decide +kernel) (by decide +kernel), gm_ 442 (by decide +kernel) (by decide +kernel), by decide +kernel, by decide +kernel, by decide +kernel⟩
theorem b_M_unpackFrom : cv_ R_M y_M_unpackFrom c_M_unpackFrom 7 none 2 := ⟨gm_ 444 (by decide +kernel) (by decide +kernel), gm_ 445 (by decide +kernel) (by decide +kernel), gm_ 29 (by decide +kernel) (by decide +kernel), gm_ 446 (by decide +kernel) (by decide +kernel), by decide +kernel, by decide +kernel, by decide +kernel⟩
theorem b_D_openedMessage : cv_ R_D y_D_openedMessage c_D_openedMessage 5 (some .int) 0 := ⟨gm_ 448 (by decide +kernel) (by decide +kernel), gm_ 449 (by decide +kernel) (by decide +kernel), gm_ 27 (by decide +kernel) (by decide +kernel), gm_ 450 (by decide +kernel) (by decide +kernel), by decide +kernel, by decide +kernel, by decide +kernel⟩
theorem b_D_isAgain : cv_ R_D y_D_isAgain c_D_isAgain 4 (some .boolean) 1 := ⟨gm_ 454 (by decide +kernel) (by decide +kernel), gm_ 8 (by decide +kernel) (by decide +kernel), gm_ 27 (by decide +kernel) (by decide +kernel), gm_ 455 (by decide +kernel) (by decide +kernel), by decide +kernel, by decide +kernel, by decide +kernel⟩
theorem b_L_change : cv_ R_L y_L_change c_L_change 4 (some .int) 3 := ⟨gm_ 461 (by decide +kernel) (by decide +kernel), gm_ 462 (by decide +kernel) (by decide +kernel), gm_ 26 (by decide +kernel) (by decide +kernel), gm_ 463 (by decide +kernel) (by decide +kernel), by decide +kernel, by decide +kernel, by decide +kernel⟩
theorem b_L_refuseNoWrapByte : cv_ R_L y_L_refuseNoWrapByte c_L_refuseNoWrapByte 3 none 2 := ⟨gm_ 466 (by decide +kernel) (by decide +kernel), gm_ 9 (by decide +kernel) (by decide +kernel), gm_ 26 (by decide +kernel) (by decide +kernel), gm_ 467 (by decide +kernel) (by decide +kernel), by decide +kernel, by decide +kernel, by decide +kernel⟩
theorem b_L_refuseOutside : cs_ y_L_refuseOutside c_L_refuseOutside 1 none 1 := ⟨gm_ 469 (by decide +kernel) (by decide +kernel), gm_ 26 (by decide +kernel) (by decide +kernel), gm_ 470 (by decide +kernel) (by decide +kernel), by decide +kernel, by decide +kernel, by decide +kernel⟩
theorem b_L_copy : cv_ R_L y_L_copy c_L_copy 3 none 2 := ⟨gm_ 491 (by decide +kernel) (by decide +kernel), gm_ 492 (by decide +kernel) (by decide +kernel), gm_ 26 (by decide +kernel) (by decide +kernel), gm_ 493 (by decide +kernel) (by decide +kernel), by decide +kernel, by decide +kernel, by decide +kernel⟩
theorem b_L_forget : cv_ R_L y_L_forget c_L_forget 4 (some .boolean) 2 := ⟨gm_ 501 (by decide +kernel) (by decide +kernel), gm_ 502 (by decide +kernel) (by decide +kernel), gm_ 26 (by decide +kernel) (by decide +kernel), gm_ 503 (by decide +kernel) (by decide +kernel), by decide +kernel, by decide +kernel, by decide +kernel⟩
theorem b_L_wrapByte : cv_ R_L y_L_wrapByte c_L_wrapByte 3 (some .int) 2 := ⟨gm_ 508 (by decide +kernel) (by decide +kernel), gm_ 509 (by decide +kernel) (by decide +kernel), gm_ 26 (by decide +kernel) (by decide +kernel), gm_ 510 (by decide +kernel) (by decide +kernel), by decide +kernel, by decide +kernel, by decide +kernel⟩
theorem b_L_publicByte : cv_ R_L y_L_publicByte c_L_publicByte 3 (some .int) 2 := ⟨gm_ 515 (by decide +kernel) (by decide +kernel), gm_ 516 (by decide +kernel) (by decide +kernel), gm_ 26 (by decide +kernel) (by decide +kernel), gm_ 517 (by decide +kernel) (by decide +kernel), by decide +kernel, by decide +kernel, by decide +kernel⟩
theorem b_L_entry : cv_ R_L y_L_entry c_L_entry 6 (some .int) 4 := ⟨gm_ 522 (by decide +kernel) (by decide +kernel), gm_ 523 (by decide +kernel) (by decide +kernel), gm_ 26 (by decide +kernel) (by decide +kernel), gm_ 524 (by decide +kernel) (by decide +kernel), by decide +kernel, by decide +kernel, by decide +kernel⟩
theorem b_L_refuseNoMatrix : cs_ y_L_refuseNoMatrix c_L_refuseNoMatrix 1 none 1 := ⟨gm_ 526 (by decide +kernel) (by decide +kernel), gm_ 26 (by decide +kernel) (by decide +kernel), gm_ 527 (by decide +kernel) (by decide +kernel), by decide +kernel, by decide +kernel, by decide +kernel⟩
theorem b_K_matrix : cv_ R_K y_K_matrix c_K_matrix 2 (some (.object "LatticeWraps$Matrix")) 1 := ⟨gm_ 530 (by decide +kernel) (by decide +kernel), gm_ 531 (by decide +kernel) (by decide +kernel), gm_ 30 (by decide +kernel) (by decide +kernel), gm_ 532 (by decide +kernel) (by decide +kernel), by decide +kernel, by decide +kernel, by decide +kernel⟩
theorem b_M_has : cv_ R_M y_M_has c_M_has 3 (some .boolean) 2 := ⟨gm_ 534 (by decide +kernel) (by decide +kernel), gm_ 535 (by decide +kernel) (by decide +kernel), gm_ 29 (by decide +kernel) (by decide +kernel), gm_ 536 (by decide +kernel) (by decide +kernel), by decide +kernel, by decide +kernel, by decide +kernel⟩
theorem b_L_noise : cv_ R_L y_L_noise c_L_noise 5 (some .int) 4 := ⟨gm_ 542 (by decide +kernel) (by decide +kernel), gm_ 543 (by decide +kernel) (by decide +kernel), gm_ 26 (by decide +kernel) (by decide +kernel), gm_ 544 (by decide +kernel) (by decide +kernel), by decide +kernel, by decide +kernel, by decide +kernel⟩
theorem b_D_openedNoise : cv_ R_D y_D_openedNoise c_D_openedNoise 3 (some .int) 2 := ⟨gm_ 547 (by decide +kernel) (by decide +kernel), gm_ 548 (by decide +kernel) (by decide +kernel), gm_ 27 (by decide +kernel) (by decide +kernel), gm_ 549 (by decide +kernel) (by decide +kernel), by decide +kernel, by decide +kernel, by decide +kernel⟩
theorem b_L_read : cv_ R_L y_L_read c_L_read 3 (some .int) 2 := ⟨gm_ 554 (by decide +kernel) (by decide +kernel), gm_ 555 (by decide +kernel) (by decide +kernel), gm_ 26 (by decide +kernel) (by decide +kernel), gm_ 556 (by decide +kernel) (by decide +kernel), by decide +kernel, by decide +kernel, by decide +kernel⟩
theorem b_L_shake : cv_ R_L y_L_shake c_L_shake 4 (some .long) 2 := ⟨gm_ 562 (by decide +kernel) (by decide +kernel), gm_ 563 (by decide +kernel) (by decide +kernel), gm_ 26 (by decide +kernel) (by decide +kernel), gm_ 564 (by decide +kernel) (by decide +kernel), by decide +kernel, by decide +kernel, by decide +kernel⟩
theorem b_L_refuseNoLength : cs_ y_L_refuseNoLength c_L_refuseNoLength 1 none 1 := ⟨gm_ 566 (by decide +kernel) (by decide +kernel), gm_ 26 (by decide +kernel) (by decide +kernel), gm_ 567 (by decide +kernel) (by decide +kernel), by decide +kernel, by decide +kernel, by decide +kernel⟩
theorem b_R_init : ci_ y_R_init c_R_init 5 0 := ⟨rfl, gm_ 576 (by decide +kernel) (by decide +kernel), gm_ 32 (by decide +kernel) (by decide +kernel), gm_ 577 (by decide +kernel) (by decide +kernel), by decide +kernel, by decide +kernel, by decide +kernel⟩
theorem b_R_thrown : cv_ R_R y_R_thrown c_R_thrown 1 (some .int) 0 := ⟨gm_ 648 (by decide +kernel) (by decide +kernel), gm_ 649 (by decide +kernel) (by decide +kernel), gm_ 32 (by decide +kernel) (by decide +kernel), gm_ 650 (by decide +kernel) (by decide +kernel), by decide +kernel, by decide +kernel, by decide +kernel⟩
theorem b_R_make : cv_ R_R y_R_make c_R_make 11 (some .long) 4 := ⟨gm_ 652 (by decide +kernel) (by decide +kernel), gm_ 653 (by decide +kernel) (by decide +kernel), gm_ 32 (by decide +kernel) (by decide +kernel), gm_ 654 (by decide +kernel) (by decide +kernel), by decide +kernel, by decide +kernel, by decide +kernel⟩
theorem b_R_isPlace : cs_ y_R_isPlace c_R_isPlace 1 (some .boolean) 1 := ⟨gm_ 656 (by decide +kernel) (by decide +kernel), gm_ 32 (by decide +kernel) (by decide +kernel), gm_ 657 (by decide +kernel) (by decide +kernel), by decide +kernel, by decide +kernel, by decide +kernel⟩
theorem b_R_addBytes : cv_ R_R y_R_addBytes c_R_addBytes 5 none 2 := ⟨gm_ 660 (by decide +kernel) (by decide +kernel), gm_ 10 (by decide +kernel) (by decide +kernel), gm_ 32 (by decide +kernel) (by decide +kernel), gm_ 661 (by decide +kernel) (by decide +kernel), by decide +kernel, by decide +kernel, by decide +kernel⟩
theorem b_R_shakeRow : cv_ R_R y_R_shakeRow c_R_shakeRow 3 none 1 := ⟨gm_ 665 (by decide +kernel) (by decide +kernel), gm_ 11 (by decide +kernel) (by decide +kernel), gm_ 32 (by decide +kernel) (by decide +kernel), gm_ 666 (by decide +kernel) (by decide +kernel), by decide +kernel, by decide +kernel, by decide +kernel⟩
theorem b_R_round : cv_ R_R y_R_round c_R_round 7 none 1 := ⟨gm_ 670 (by decide +kernel) (by decide +kernel), gm_ 12 (by decide +kernel) (by decide +kernel), gm_ 32 (by decide +kernel) (by decide +kernel), gm_ 671 (by decide +kernel) (by decide +kernel), by decide +kernel, by decide +kernel, by decide +kernel⟩
theorem b_R_rot : cs_ y_R_rot c_R_rot 3 (some .long) 2 := ⟨gm_ 673 (by decide +kernel) (by decide +kernel), gm_ 32 (by decide +kernel) (by decide +kernel), gm_ 674 (by decide +kernel) (by decide +kernel), by decide +kernel, by decide +kernel, by decide +kernel⟩
theorem b_R_longAt : cv_ R_R y_R_longAt c_R_longAt 5 (some .long) 1 := ⟨gm_ 678 (by decide +kernel) (by decide +kernel), gm_ 13 (by decide +kernel) (by decide +kernel), gm_ 32 (by decide +kernel) (by decide +kernel), gm_ 679 (by decide +kernel) (by decide +kernel), by decide +kernel, by decide +kernel, by decide +kernel⟩
theorem b_R_sampleAt : cv_ R_R y_R_sampleAt c_R_sampleAt 5 (some .int) 1 := ⟨gm_ 683 (by decide +kernel) (by decide +kernel), gm_ 14 (by decide +kernel) (by decide +kernel), gm_ 32 (by decide +kernel) (by decide +kernel), gm_ 684 (by decide +kernel) (by decide +kernel), by decide +kernel, by decide +kernel, by decide +kernel⟩
theorem b_R_pairAt : cv_ R_R y_R_pairAt c_R_pairAt 2 (some .int) 1 := ⟨gm_ 687 (by decide +kernel) (by decide +kernel), gm_ 15 (by decide +kernel) (by decide +kernel), gm_ 32 (by decide +kernel) (by decide +kernel), gm_ 688 (by decide +kernel) (by decide +kernel), by decide +kernel, by decide +kernel, by decide +kernel⟩
theorem b_R_step : cs_ y_R_step c_R_step 1 (some .int) 1 := ⟨gm_ 690 (by decide +kernel) (by decide +kernel), gm_ 32 (by decide +kernel) (by decide +kernel), gm_ 691 (by decide +kernel) (by decide +kernel), by decide +kernel, by decide +kernel, by decide +kernel⟩
theorem b_R_expand : cv_ R_R y_R_expand c_R_expand 4 none 1 := ⟨gm_ 695 (by decide +kernel) (by decide +kernel), gm_ 16 (by decide +kernel) (by decide +kernel), gm_ 32 (by decide +kernel) (by decide +kernel), gm_ 696 (by decide +kernel) (by decide +kernel), by decide +kernel, by decide +kernel, by decide +kernel⟩
theorem b_R_addPublic : cv_ R_R y_R_addPublic c_R_addPublic 3 none 1 := ⟨gm_ 699 (by decide +kernel) (by decide +kernel), gm_ 17 (by decide +kernel) (by decide +kernel), gm_ 32 (by decide +kernel) (by decide +kernel), gm_ 700 (by decide +kernel) (by decide +kernel), by decide +kernel, by decide +kernel, by decide +kernel⟩
theorem b_R_packedByte : cs_ y_R_packedByte c_R_packedByte 5 (some .int) 3 := ⟨gm_ 702 (by decide +kernel) (by decide +kernel), gm_ 32 (by decide +kernel) (by decide +kernel), gm_ 703 (by decide +kernel) (by decide +kernel), by decide +kernel, by decide +kernel, by decide +kernel⟩
theorem b_R_wrap : cv_ R_R y_R_wrap c_R_wrap 4 (some .long) 3 := ⟨gm_ 705 (by decide +kernel) (by decide +kernel), gm_ 706 (by decide +kernel) (by decide +kernel), gm_ 32 (by decide +kernel) (by decide +kernel), gm_ 707 (by decide +kernel) (by decide +kernel), by decide +kernel, by decide +kernel, by decide +kernel⟩
theorem b_R_wrapInto : cv_ R_R y_R_wrapInto c_R_wrapInto 11 (some .long) 3 := ⟨gm_ 710 (by decide +kernel) (by decide +kernel), gm_ 18 (by decide +kernel) (by decide +kernel), gm_ 32 (by decide +kernel) (by decide +kernel), gm_ 711 (by decide +kernel) (by decide +kernel), by decide +kernel, by decide +kernel, by decide +kernel⟩
theorem b_R_addWrap : cv_ R_R y_R_addWrap c_R_addWrap 3 none 1 := ⟨gm_ 715 (by decide +kernel) (by decide +kernel), gm_ 19 (by decide +kernel) (by decide +kernel), gm_ 32 (by decide +kernel) (by decide +kernel), gm_ 716 (by decide +kernel) (by decide +kernel), by decide +kernel, by decide +kernel, by decide +kernel⟩
theorem b_R_unwrap : cv_ R_R y_R_unwrap c_R_unwrap 7 (some .long) 2 := ⟨gm_ 718 (by decide +kernel) (by decide +kernel), gm_ 719 (by decide +kernel) (by decide +kernel), gm_ 32 (by decide +kernel) (by decide +kernel), gm_ 720 (by decide +kernel) (by decide +kernel), by decide +kernel, by decide +kernel, by decide +kernel⟩
theorem b_R_refusal : cv_ R_R y_R_refusal c_R_refusal 3 (some .int) 2 := ⟨gm_ 723 (by decide +kernel) (by decide +kernel), gm_ 20 (by decide +kernel) (by decide +kernel), gm_ 32 (by decide +kernel) (by decide +kernel), gm_ 724 (by decide +kernel) (by decide +kernel), by decide +kernel, by decide +kernel, by decide +kernel⟩
theorem b_R_readFrom : cv_ R_R y_R_readFrom c_R_readFrom 5 (some .int) 2 := ⟨gm_ 727 (by decide +kernel) (by decide +kernel), gm_ 21 (by decide +kernel) (by decide +kernel), gm_ 32 (by decide +kernel) (by decide +kernel), gm_ 728 (by decide +kernel) (by decide +kernel), by decide +kernel, by decide +kernel, by decide +kernel⟩
theorem b_R_shifted : cv_ R_R y_R_shifted c_R_shifted 7 (some .int) 4 := ⟨gm_ 731 (by decide +kernel) (by decide +kernel), gm_ 22 (by decide +kernel) (by decide +kernel), gm_ 32 (by decide +kernel) (by decide +kernel), gm_ 732 (by decide +kernel) (by decide +kernel), by decide +kernel, by decide +kernel, by decide +kernel⟩
theorem b_R_wrapEntry : cv_ R_R y_R_wrapEntry c_R_wrapEntry 5 (some .int) 2 := ⟨gm_ 735 (by decide +kernel) (by decide +kernel), gm_ 23 (by decide +kernel) (by decide +kernel), gm_ 32 (by decide +kernel) (by decide +kernel), gm_ 736 (by decide +kernel) (by decide +kernel), by decide +kernel, by decide +kernel, by decide +kernel⟩
theorem b_R_change : cv_ R_R y_R_change c_R_change 4 (some .int) 3 := ⟨gm_ 738 (by decide +kernel) (by decide +kernel), gm_ 739 (by decide +kernel) (by decide +kernel), gm_ 32 (by decide +kernel) (by decide +kernel), gm_ 740 (by decide +kernel) (by decide +kernel), by decide +kernel, by decide +kernel, by decide +kernel⟩
theorem b_R_byteRefusal : cv_ R_R y_R_byteRefusal c_R_byteRefusal 3 (some .int) 2 := ⟨gm_ 743 (by decide +kernel) (by decide +kernel), gm_ 24 (by decide +kernel) (by decide +kernel), gm_ 32 (by decide +kernel) (by decide +kernel), gm_ 744 (by decide +kernel) (by decide +kernel), by decide +kernel, by decide +kernel, by decide +kernel⟩
theorem b_R_copy : cv_ R_R y_R_copy c_R_copy 4 none 2 := ⟨gm_ 746 (by decide +kernel) (by decide +kernel), gm_ 747 (by decide +kernel) (by decide +kernel), gm_ 32 (by decide +kernel) (by decide +kernel), gm_ 748 (by decide +kernel) (by decide +kernel), by decide +kernel, by decide +kernel, by decide +kernel⟩
theorem b_R_forget : cv_ R_R y_R_forget c_R_forget 4 (some .boolean) 2 := ⟨gm_ 750 (by decide +kernel) (by decide +kernel), gm_ 751 (by decide +kernel) (by decide +kernel), gm_ 32 (by decide +kernel) (by decide +kernel), gm_ 752 (by decide +kernel) (by decide +kernel), by decide +kernel, by decide +kernel, by decide +kernel⟩
theorem b_R_wrapByte : cv_ R_R y_R_wrapByte c_R_wrapByte 3 (some .int) 2 := ⟨gm_ 754 (by decide +kernel) (by decide +kernel), gm_ 755 (by decide +kernel) (by decide +kernel), gm_ 32 (by decide +kernel) (by decide +kernel), gm_ 756 (by decide +kernel) (by decide +kernel), by decide +kernel, by decide +kernel, by decide +kernel⟩
theorem b_R_publicByte : cv_ R_R y_R_publicByte c_R_publicByte 3 (some .int) 2 := ⟨gm_ 758 (by decide +kernel) (by decide +kernel), gm_ 759 (by decide +kernel) (by decide +kernel), gm_ 32 (by decide +kernel) (by decide +kernel), gm_ 760 (by decide +kernel) (by decide +kernel), by decide +kernel, by decide +kernel, by decide +kernel⟩
theorem b_R_entry : cv_ R_R y_R_entry c_R_entry 6 (some .int) 4 := ⟨gm_ 762 (by decide +kernel) (by decide +kernel), gm_ 763 (by decide +kernel) (by decide +kernel), gm_ 32 (by decide +kernel) (by decide +kernel), gm_ 764 (by decide +kernel) (by decide +kernel), by decide +kernel, by decide +kernel, by decide +kernel⟩
theorem b_R_noise : cv_ R_R y_R_noise c_R_noise 5 (some .int) 4 := ⟨gm_ 766 (by decide +kernel) (by decide +kernel), gm_ 767 (by decide +kernel) (by decide +kernel), gm_ 32 (by decide +kernel) (by decide +kernel), gm_ 768 (by decide +kernel) (by decide +kernel), by decide +kernel, by decide +kernel, by decide +kernel⟩
theorem b_R_read : cv_ R_R y_R_read c_R_read 3 (some .int) 2 := ⟨gm_ 770 (by decide +kernel) (by decide +kernel), gm_ 771 (by decide +kernel) (by decide +kernel), gm_ 32 (by decide +kernel) (by decide +kernel), gm_ 772 (by decide +kernel) (by decide +kernel), by decide +kernel, by decide +kernel, by decide +kernel⟩
theorem b_R_shake : cv_ R_R y_R_shake c_R_shake 4 (some .long) 2 := ⟨gm_ 774 (by decide +kernel) (by decide +kernel), gm_ 775 (by decide +kernel) (by decide +kernel), gm_ 32 (by decide +kernel) (by decide +kernel), gm_ 776 (by decide +kernel) (by decide +kernel), by decide +kernel, by decide +kernel, by decide +kernel⟩
theorem l_Q_60 : Cond.methodLink R_Q 60 y_L_init ∈ gw_ := gm_ 43 (by decide +kernel) (by decide +kernel)
theorem l_D_20 : Cond.methodLink R_D 20 y_M_init ∈ gw_ := gm_ 81 (by decide +kernel) (by decide +kernel)
theorem l_K_24 : Cond.methodLink R_K 24 y_M_init ∈ gw_ := gm_ 129 (by decide +kernel) (by decide +kernel)
theorem l_Q_66 : Cond.methodLink R_Q 66 y_Q_make ∈ gw_ := gm_ 187 (by decide +kernel) (by decide +kernel)
theorem l_Q_7 : Cond.methodLink R_Q 7 y_L_make ∈ gw_ := gm_ 191 (by decide +kernel) (by decide +kernel)
theorem l_L_30 : Cond.methodLink R_L 30 y_L_refuseNoPlace ∈ gw_ := gm_ 195 (by decide +kernel) (by decide +kernel)
theorem l_L_38 : Cond.methodLink R_L 38 y_K_fillFrom ∈ gw_ := gm_ 266 (by decide +kernel) (by decide +kernel)
theorem l_K_44 : Cond.methodLink R_K 44 y_S_ofLong ∈ gw_ := gm_ 270 (by decide +kernel) (by decide +kernel)
theorem l_S_52 : Cond.methodLink R_S 52 y_S_begin ∈ gw_ := gm_ 274 (by decide +kernel) (by decide +kernel)
theorem l_S_25 : Cond.methodLink R_S 25 y_A_fill ∈ gw_ := gm_ 278 (by decide +kernel) (by decide +kernel)
theorem l_S_55 : Cond.methodLink R_S 55 y_S_putBytes ∈ gw_ := gm_ 281 (by decide +kernel) (by decide +kernel)
theorem l_S_33 : Cond.methodLink R_S 33 y_S_putByte ∈ gw_ := gm_ 285 (by decide +kernel) (by decide +kernel)
theorem l_S_59 : Cond.methodLink R_S 59 y_S_finish ∈ gw_ := gm_ 290 (by decide +kernel) (by decide +kernel)
theorem l_S_42 : Cond.methodLink R_S 42 y_S_mixColumns ∈ gw_ := gm_ 297 (by decide +kernel) (by decide +kernel)
theorem l_S_70 : Cond.methodLink R_S 70 y_S_turned ∈ gw_ := gm_ 301 (by decide +kernel) (by decide +kernel)
theorem l_S_45 : Cond.methodLink R_S 45 y_S_moveLanes ∈ gw_ := gm_ 304 (by decide +kernel) (by decide +kernel)
theorem l_S_48 : Cond.methodLink R_S 48 y_S_mixRows ∈ gw_ := gm_ 312 (by decide +kernel) (by decide +kernel)
theorem l_S_62 : Cond.methodLink R_S 62 y_S_longAt ∈ gw_ := gm_ 317 (by decide +kernel) (by decide +kernel)
theorem l_K_50 : Cond.methodLink R_K 50 y_K_fillA ∈ gw_ := gm_ 321 (by decide +kernel) (by decide +kernel)
theorem l_K_70 : Cond.methodLink R_K 70 y_S_begin ∈ gw_ := gm_ 325 (by decide +kernel) (by decide +kernel)
theorem l_K_84 : Cond.methodLink R_K 84 y_S_putByte ∈ gw_ := gm_ 326 (by decide +kernel) (by decide +kernel)
theorem l_K_88 : Cond.methodLink R_K 88 y_S_putBytes ∈ gw_ := gm_ 327 (by decide +kernel) (by decide +kernel)
theorem l_K_77 : Cond.methodLink R_K 77 y_S_finish ∈ gw_ := gm_ 328 (by decide +kernel) (by decide +kernel)
theorem l_K_92 : Cond.methodLink R_K 92 y_S_pairAt ∈ gw_ := gm_ 329 (by decide +kernel) (by decide +kernel)
theorem l_K_96 : Cond.methodLink R_K 96 y_M_put ∈ gw_ := gm_ 334 (by decide +kernel) (by decide +kernel)
theorem l_K_54 : Cond.methodLink R_K 54 y_S_ofByteAndLong ∈ gw_ := gm_ 338 (by decide +kernel) (by decide +kernel)
theorem l_K_58 : Cond.methodLink R_K 58 y_M_takeSamples ∈ gw_ := gm_ 342 (by decide +kernel) (by decide +kernel)
theorem l_M_22 : Cond.methodLink R_M 22 y_S_pairAt ∈ gw_ := gm_ 346 (by decide +kernel) (by decide +kernel)
theorem l_M_28 : Cond.methodLink R_M 28 y_M_sampleOf ∈ gw_ := gm_ 347 (by decide +kernel) (by decide +kernel)
theorem l_K_62 : Cond.methodLink R_K 62 y_M_takeSumWithProduct ∈ gw_ := gm_ 352 (by decide +kernel) (by decide +kernel)
theorem l_M_34 : Cond.methodLink R_M 34 y_M_at ∈ gw_ := gm_ 356 (by decide +kernel) (by decide +kernel)
theorem l_M_38 : Cond.methodLink R_M 38 y_M_put ∈ gw_ := gm_ 360 (by decide +kernel) (by decide +kernel)
theorem l_K_66 : Cond.methodLink R_K 66 y_M_packInto ∈ gw_ := gm_ 361 (by decide +kernel) (by decide +kernel)
theorem l_K_73 : Cond.methodLink R_K 73 y_S_putRow ∈ gw_ := gm_ 365 (by decide +kernel) (by decide +kernel)
theorem l_K_80 : Cond.methodLink R_K 80 y_S_longAt ∈ gw_ := gm_ 369 (by decide +kernel) (by decide +kernel)
theorem l_Q_76 : Cond.methodLink R_Q 76 y_Q_wrap ∈ gw_ := gm_ 370 (by decide +kernel) (by decide +kernel)
theorem l_Q_15 : Cond.methodLink R_Q 15 y_L_wrap ∈ gw_ := gm_ 374 (by decide +kernel) (by decide +kernel)
theorem l_L_50 : Cond.methodLink R_L 50 y_L_refuseEmpty ∈ gw_ := gm_ 378 (by decide +kernel) (by decide +kernel)
theorem l_L_58 : Cond.methodLink R_L 58 y_D_seal ∈ gw_ := gm_ 397 (by decide +kernel) (by decide +kernel)
theorem l_D_46 : Cond.methodLink R_D 46 y_S_begin ∈ gw_ := gm_ 401 (by decide +kernel) (by decide +kernel)
theorem l_D_55 : Cond.methodLink R_D 55 y_S_putBytes ∈ gw_ := gm_ 402 (by decide +kernel) (by decide +kernel)
theorem l_D_59 : Cond.methodLink R_D 59 y_S_finish ∈ gw_ := gm_ 403 (by decide +kernel) (by decide +kernel)
theorem l_D_62 : Cond.methodLink R_D 62 y_S_longAt ∈ gw_ := gm_ 404 (by decide +kernel) (by decide +kernel)
theorem l_D_66 : Cond.methodLink R_D 66 y_D_takeNoise ∈ gw_ := gm_ 405 (by decide +kernel) (by decide +kernel)
theorem l_D_92 : Cond.methodLink R_D 92 y_S_ofByteAndLong ∈ gw_ := gm_ 409 (by decide +kernel) (by decide +kernel)
theorem l_D_96 : Cond.methodLink R_D 96 y_M_takeSamples ∈ gw_ := gm_ 410 (by decide +kernel) (by decide +kernel)
theorem l_D_73 : Cond.methodLink R_D 73 y_M_takeSumWithProduct ∈ gw_ := gm_ 411 (by decide +kernel) (by decide +kernel)
theorem l_D_80 : Cond.methodLink R_D 80 y_D_addCode ∈ gw_ := gm_ 412 (by decide +kernel) (by decide +kernel)
theorem l_D_100 : Cond.methodLink R_D 100 y_M_at ∈ gw_ := gm_ 416 (by decide +kernel) (by decide +kernel)
theorem l_D_104 : Cond.methodLink R_D 104 y_M_put ∈ gw_ := gm_ 417 (by decide +kernel) (by decide +kernel)
theorem l_D_84 : Cond.methodLink R_D 84 y_M_packInto ∈ gw_ := gm_ 418 (by decide +kernel) (by decide +kernel)
theorem l_D_88 : Cond.methodLink R_D 88 y_S_ofRowAndLong ∈ gw_ := gm_ 419 (by decide +kernel) (by decide +kernel)
theorem l_S_66 : Cond.methodLink R_S 66 y_S_putRow ∈ gw_ := gm_ 423 (by decide +kernel) (by decide +kernel)
theorem l_Q_80 : Cond.methodLink R_Q 80 y_Q_unwrap ∈ gw_ := gm_ 424 (by decide +kernel) (by decide +kernel)
theorem l_Q_21 : Cond.methodLink R_Q 21 y_L_unwrap ∈ gw_ := gm_ 427 (by decide +kernel) (by decide +kernel)
theorem l_L_63 : Cond.methodLink R_L 63 y_L_refuseUnreadable ∈ gw_ := gm_ 431 (by decide +kernel) (by decide +kernel)
theorem l_L_67 : Cond.methodLink R_L 67 y_D_unseal ∈ gw_ := gm_ 435 (by decide +kernel) (by decide +kernel)
theorem l_D_112 : Cond.methodLink R_D 112 y_D_open ∈ gw_ := gm_ 439 (by decide +kernel) (by decide +kernel)
theorem l_D_108 : Cond.methodLink R_D 108 y_M_unpackFrom ∈ gw_ := gm_ 443 (by decide +kernel) (by decide +kernel)
theorem l_D_116 : Cond.methodLink R_D 116 y_D_openedMessage ∈ gw_ := gm_ 447 (by decide +kernel) (by decide +kernel)
theorem l_D_120 : Cond.methodLink R_D 120 y_D_seal ∈ gw_ := gm_ 451 (by decide +kernel) (by decide +kernel)
theorem l_D_124 : Cond.methodLink R_D 124 y_D_isAgain ∈ gw_ := gm_ 452 (by decide +kernel) (by decide +kernel)
theorem l_Q_84 : Cond.methodLink R_Q 84 y_Q_change ∈ gw_ := gm_ 456 (by decide +kernel) (by decide +kernel)
theorem l_Q_25 : Cond.methodLink R_Q 25 y_L_change ∈ gw_ := gm_ 460 (by decide +kernel) (by decide +kernel)
theorem l_L_71 : Cond.methodLink R_L 71 y_L_refuseNoWrapByte ∈ gw_ := gm_ 464 (by decide +kernel) (by decide +kernel)
theorem l_L_80 : Cond.methodLink R_L 80 y_L_refuseOutside ∈ gw_ := gm_ 468 (by decide +kernel) (by decide +kernel)
theorem l_Q_87 : Cond.methodLink R_Q 87 y_Q_copy ∈ gw_ := gm_ 487 (by decide +kernel) (by decide +kernel)
theorem l_Q_31 : Cond.methodLink R_Q 31 y_L_copy ∈ gw_ := gm_ 490 (by decide +kernel) (by decide +kernel)
theorem l_Q_91 : Cond.methodLink R_Q 91 y_Q_forget ∈ gw_ := gm_ 497 (by decide +kernel) (by decide +kernel)
theorem l_Q_35 : Cond.methodLink R_Q 35 y_L_forget ∈ gw_ := gm_ 500 (by decide +kernel) (by decide +kernel)
theorem l_Q_95 : Cond.methodLink R_Q 95 y_Q_wrapByte ∈ gw_ := gm_ 504 (by decide +kernel) (by decide +kernel)
theorem l_Q_39 : Cond.methodLink R_Q 39 y_L_wrapByte ∈ gw_ := gm_ 507 (by decide +kernel) (by decide +kernel)
theorem l_Q_98 : Cond.methodLink R_Q 98 y_Q_publicByte ∈ gw_ := gm_ 511 (by decide +kernel) (by decide +kernel)
theorem l_Q_43 : Cond.methodLink R_Q 43 y_L_publicByte ∈ gw_ := gm_ 514 (by decide +kernel) (by decide +kernel)
theorem l_Q_101 : Cond.methodLink R_Q 101 y_Q_entry ∈ gw_ := gm_ 518 (by decide +kernel) (by decide +kernel)
theorem l_Q_46 : Cond.methodLink R_Q 46 y_L_entry ∈ gw_ := gm_ 521 (by decide +kernel) (by decide +kernel)
theorem l_L_86 : Cond.methodLink R_L 86 y_L_refuseNoMatrix ∈ gw_ := gm_ 525 (by decide +kernel) (by decide +kernel)
theorem l_L_89 : Cond.methodLink R_L 89 y_K_matrix ∈ gw_ := gm_ 529 (by decide +kernel) (by decide +kernel)
theorem l_L_93 : Cond.methodLink R_L 93 y_M_has ∈ gw_ := gm_ 533 (by decide +kernel) (by decide +kernel)
theorem l_L_99 : Cond.methodLink R_L 99 y_M_at ∈ gw_ := gm_ 537 (by decide +kernel) (by decide +kernel)
theorem l_Q_105 : Cond.methodLink R_Q 105 y_Q_noise ∈ gw_ := gm_ 538 (by decide +kernel) (by decide +kernel)
theorem l_Q_50 : Cond.methodLink R_Q 50 y_L_noise ∈ gw_ := gm_ 541 (by decide +kernel) (by decide +kernel)
theorem l_L_107 : Cond.methodLink R_L 107 y_D_open ∈ gw_ := gm_ 545 (by decide +kernel) (by decide +kernel)
theorem l_L_111 : Cond.methodLink R_L 111 y_D_openedNoise ∈ gw_ := gm_ 546 (by decide +kernel) (by decide +kernel)
theorem l_Q_108 : Cond.methodLink R_Q 108 y_Q_read ∈ gw_ := gm_ 550 (by decide +kernel) (by decide +kernel)
theorem l_Q_53 : Cond.methodLink R_Q 53 y_L_read ∈ gw_ := gm_ 553 (by decide +kernel) (by decide +kernel)
theorem l_L_114 : Cond.methodLink R_L 114 y_D_openedMessage ∈ gw_ := gm_ 557 (by decide +kernel) (by decide +kernel)
theorem l_Q_111 : Cond.methodLink R_Q 111 y_Q_shake ∈ gw_ := gm_ 558 (by decide +kernel) (by decide +kernel)
theorem l_Q_56 : Cond.methodLink R_Q 56 y_L_shake ∈ gw_ := gm_ 561 (by decide +kernel) (by decide +kernel)
theorem l_L_118 : Cond.methodLink R_L 118 y_L_refuseNoLength ∈ gw_ := gm_ 565 (by decide +kernel) (by decide +kernel)
theorem l_L_121 : Cond.methodLink R_L 121 y_S_begin ∈ gw_ := gm_ 569 (by decide +kernel) (by decide +kernel)
theorem l_L_126 : Cond.methodLink R_L 126 y_S_putBytes ∈ gw_ := gm_ 570 (by decide +kernel) (by decide +kernel)
theorem l_L_130 : Cond.methodLink R_L 130 y_S_finish ∈ gw_ := gm_ 571 (by decide +kernel) (by decide +kernel)
theorem l_L_133 : Cond.methodLink R_L 133 y_S_longAt ∈ gw_ := gm_ 572 (by decide +kernel) (by decide +kernel)
theorem l_Q_63 : Cond.methodLink R_Q 63 y_R_init ∈ gw_ := gm_ 575 (by decide +kernel) (by decide +kernel)
theorem l_Q_72 : Cond.methodLink R_Q 72 y_R_thrown ∈ gw_ := gm_ 647 (by decide +kernel) (by decide +kernel)
theorem l_Q_71 : Cond.methodLink R_Q 71 y_R_make ∈ gw_ := gm_ 651 (by decide +kernel) (by decide +kernel)
theorem l_R_112 : Cond.methodLink R_R 112 y_R_isPlace ∈ gw_ := gm_ 655 (by decide +kernel) (by decide +kernel)
theorem l_R_87 : Cond.methodLink R_R 87 y_R_addBytes ∈ gw_ := gm_ 658 (by decide +kernel) (by decide +kernel)
theorem l_R_109 : Cond.methodLink R_R 109 y_R_shakeRow ∈ gw_ := gm_ 663 (by decide +kernel) (by decide +kernel)
theorem l_R_93 : Cond.methodLink R_R 93 y_R_round ∈ gw_ := gm_ 668 (by decide +kernel) (by decide +kernel)
theorem l_R_76 : Cond.methodLink R_R 76 y_R_rot ∈ gw_ := gm_ 672 (by decide +kernel) (by decide +kernel)
theorem l_R_116 : Cond.methodLink R_R 116 y_R_longAt ∈ gw_ := gm_ 676 (by decide +kernel) (by decide +kernel)
theorem l_R_122 : Cond.methodLink R_R 122 y_R_sampleAt ∈ gw_ := gm_ 681 (by decide +kernel) (by decide +kernel)
theorem l_R_97 : Cond.methodLink R_R 97 y_R_pairAt ∈ gw_ := gm_ 685 (by decide +kernel) (by decide +kernel)
theorem l_R_101 : Cond.methodLink R_R 101 y_R_step ∈ gw_ := gm_ 689 (by decide +kernel) (by decide +kernel)
theorem l_R_125 : Cond.methodLink R_R 125 y_R_expand ∈ gw_ := gm_ 693 (by decide +kernel) (by decide +kernel)
theorem l_R_128 : Cond.methodLink R_R 128 y_R_addPublic ∈ gw_ := gm_ 697 (by decide +kernel) (by decide +kernel)
theorem l_R_105 : Cond.methodLink R_R 105 y_R_packedByte ∈ gw_ := gm_ 701 (by decide +kernel) (by decide +kernel)
theorem l_Q_79 : Cond.methodLink R_Q 79 y_R_wrap ∈ gw_ := gm_ 704 (by decide +kernel) (by decide +kernel)
theorem l_R_144 : Cond.methodLink R_R 144 y_R_wrapInto ∈ gw_ := gm_ 708 (by decide +kernel) (by decide +kernel)
theorem l_R_133 : Cond.methodLink R_R 133 y_R_addWrap ∈ gw_ := gm_ 713 (by decide +kernel) (by decide +kernel)
theorem l_Q_83 : Cond.methodLink R_Q 83 y_R_unwrap ∈ gw_ := gm_ 717 (by decide +kernel) (by decide +kernel)
theorem l_R_148 : Cond.methodLink R_R 148 y_R_refusal ∈ gw_ := gm_ 721 (by decide +kernel) (by decide +kernel)
theorem l_R_151 : Cond.methodLink R_R 151 y_R_readFrom ∈ gw_ := gm_ 725 (by decide +kernel) (by decide +kernel)
theorem l_R_140 : Cond.methodLink R_R 140 y_R_shifted ∈ gw_ := gm_ 729 (by decide +kernel) (by decide +kernel)
theorem l_R_136 : Cond.methodLink R_R 136 y_R_wrapEntry ∈ gw_ := gm_ 733 (by decide +kernel) (by decide +kernel)
theorem l_Q_86 : Cond.methodLink R_Q 86 y_R_change ∈ gw_ := gm_ 737 (by decide +kernel) (by decide +kernel)
theorem l_R_154 : Cond.methodLink R_R 154 y_R_byteRefusal ∈ gw_ := gm_ 741 (by decide +kernel) (by decide +kernel)
theorem l_Q_90 : Cond.methodLink R_Q 90 y_R_copy ∈ gw_ := gm_ 745 (by decide +kernel) (by decide +kernel)
theorem l_Q_94 : Cond.methodLink R_Q 94 y_R_forget ∈ gw_ := gm_ 749 (by decide +kernel) (by decide +kernel)
theorem l_Q_97 : Cond.methodLink R_Q 97 y_R_wrapByte ∈ gw_ := gm_ 753 (by decide +kernel) (by decide +kernel)
theorem l_Q_100 : Cond.methodLink R_Q 100 y_R_publicByte ∈ gw_ := gm_ 757 (by decide +kernel) (by decide +kernel)
theorem l_Q_104 : Cond.methodLink R_Q 104 y_R_entry ∈ gw_ := gm_ 761 (by decide +kernel) (by decide +kernel)
theorem l_Q_107 : Cond.methodLink R_Q 107 y_R_noise ∈ gw_ := gm_ 765 (by decide +kernel) (by decide +kernel)
theorem l_Q_110 : Cond.methodLink R_Q 110 y_R_read ∈ gw_ := gm_ 769 (by decide +kernel) (by decide +kernel)
theorem l_Q_114 : Cond.methodLink R_Q 114 y_R_shake ∈ gw_ := gm_ 773 (by decide +kernel) (by decide +kernel)
end NB
end
section
section NF
def F_D : pm_FT := fun k => match k with
  | 12 => some (0, 0, .object "LatticeWraps$Shaker", true)
  | 23 => some (0, 1, .object "LatticeWraps$Matrix", true)
  | 27 => some (0, 2, .object "LatticeWraps$Matrix", true)
  | 30 => some (0, 3, .object "LatticeWraps$Matrix", true)
  | 33 => some (0, 4, .object "LatticeWraps$Matrix", true)
  | 36 => some (0, 5, .object "LatticeWraps$Matrix", true)
  | 39 => some (0, 6, .object "LatticeWraps$Matrix", true)
  | 42 => some (0, 7, .array .int, true)
  | 49 => some (1, 2, .long, false)
  | 70 => some (1, 3, .object "LatticeWraps$Matrix", true)
  | 77 => some (1, 6, .object "LatticeWraps$Matrix", true)
  | 111 => some (1, 4, .object "LatticeWraps$Matrix", true)
  | 128 => some (1, 1, .long, false)
  | _ => none
def K_D : Nat → Option Value := fun k => match k with
  | _ => none
set_option maxHeartbeats 2000000 in
theorem F_D_ok {args : Array Value} {s : State} (hts : ∀ w ∈ gw_, w.before args s = true) (hN : ∀ w ∈ nw_, va_Nw w s) : ∀ k ci j ty fin, F_D k = some (ci, j, ty, fin) → pm_fok R_D cl_ args s k ci j ty fin := by
  intro k ci j ty fin h
  unfold F_D at h
  split at h
  · cases h
    exact ⟨R_D, T_D, 8, t_D, rfl, by decide, fun w hw => hts w (u_D_in w hw), t_D_ok, n_D, rfl, by decide +kernel, Or.inl ⟨_, hts _ (gm_ 96 (by decide +kernel) (by decide +kernel)), fun _ h => h⟩⟩
  · cases h
    exact ⟨R_D, T_D, 8, t_D, rfl, by decide, fun w hw => hts w (u_D_in w hw), t_D_ok, n_D, rfl, by decide +kernel, Or.inl ⟨_, hts _ (gm_ 98 (by decide +kernel) (by decide +kernel)), fun _ h => h⟩⟩
  · cases h
    exact ⟨R_D, T_D, 8, t_D, rfl, by decide, fun w hw => hts w (u_D_in w hw), t_D_ok, n_D, rfl, by decide +kernel, Or.inl ⟨_, hts _ (gm_ 99 (by decide +kernel) (by decide +kernel)), fun _ h => h⟩⟩
  · cases h
    exact ⟨R_D, T_D, 8, t_D, rfl, by decide, fun w hw => hts w (u_D_in w hw), t_D_ok, n_D, rfl, by decide +kernel, Or.inl ⟨_, hts _ (gm_ 100 (by decide +kernel) (by decide +kernel)), fun _ h => h⟩⟩
  · cases h
    exact ⟨R_D, T_D, 8, t_D, rfl, by decide, fun w hw => hts w (u_D_in w hw), t_D_ok, n_D, rfl, by decide +kernel, Or.inl ⟨_, hts _ (gm_ 101 (by decide +kernel) (by decide +kernel)), fun _ h => h⟩⟩
  · cases h
    exact ⟨R_D, T_D, 8, t_D, rfl, by decide, fun w hw => hts w (u_D_in w hw), t_D_ok, n_D, rfl, by decide +kernel, Or.inl ⟨_, hts _ (gm_ 102 (by decide +kernel) (by decide +kernel)), fun _ h => h⟩⟩
  · cases h
    exact ⟨R_D, T_D, 8, t_D, rfl, by decide, fun w hw => hts w (u_D_in w hw), t_D_ok, n_D, rfl, by decide +kernel, Or.inl ⟨_, hts _ (gm_ 103 (by decide +kernel) (by decide +kernel)), fun _ h => h⟩⟩
  · cases h
    exact ⟨R_D, T_D, 8, t_D, rfl, by decide, fun w hw => hts w (u_D_in w hw), t_D_ok, n_D, rfl, by decide +kernel, Or.inl ⟨_, hts _ (gm_ 105 (by decide +kernel) (by decide +kernel)), fun _ h => h⟩⟩
  · cases h
    exact ⟨R_K, T_K, 8, t_K, rfl, by decide, fun w hw => hts w (u_K_in w hw), t_K_ok, n_K, rfl, by decide +kernel, Or.inr ⟨_, "LatticeWraps", va_Nw.use rfl (hN _ (List.mem_of_getElem? (i := 7) (by decide +kernel))), fun _ h => h⟩⟩
  · cases h
    exact ⟨R_K, T_K, 8, t_K, rfl, by decide, fun w hw => hts w (u_K_in w hw), t_K_ok, n_K, rfl, by decide +kernel, Or.inr ⟨_, "LatticeWraps", va_Nw.use rfl (hN _ (List.mem_of_getElem? (i := 9) (by decide +kernel))), fun _ h => h⟩⟩
  · cases h
    exact ⟨R_K, T_K, 8, t_K, rfl, by decide, fun w hw => hts w (u_K_in w hw), t_K_ok, n_K, rfl, by decide +kernel, Or.inr ⟨_, "LatticeWraps", va_Nw.use rfl (hN _ (List.mem_of_getElem? (i := 11) (by decide +kernel))), fun _ h => h⟩⟩
  · cases h
    exact ⟨R_K, T_K, 8, t_K, rfl, by decide, fun w hw => hts w (u_K_in w hw), t_K_ok, n_K, rfl, by decide +kernel, Or.inr ⟨_, "LatticeWraps", va_Nw.use rfl (hN _ (List.mem_of_getElem? (i := 10) (by decide +kernel))), fun _ h => h⟩⟩
  · cases h
    exact ⟨R_K, T_K, 8, t_K, rfl, by decide, fun w hw => hts w (u_K_in w hw), t_K_ok, n_K, rfl, by decide +kernel, Or.inr ⟨_, "LatticeWraps", va_Nw.use rfl (hN _ (List.mem_of_getElem? (i := 6) (by decide +kernel))), fun _ h => h⟩⟩
  · cases h
theorem X_D {p : Program} {s : State} {m : MethodId} {args : Array Value} {c : Code} {cc : ByteArray} {nL : Nat} {D : va_G} {tc : Nat → ClassId} {c0 : Cond} (CF : CallFix p m c cc nL s args (c0 :: gw_) R_D) (hK : va_K D cl_ (pm_T tc) s) (hN : ∀ w ∈ nw_, va_Nw w s) : pm_X p s m args c cc R_D D cl_ tc F_D K_D := by
  obtain ⟨h1, h2, h3, h4, h5⟩ := CF
  have hts : ∀ w ∈ gw_, w.before args s = true := fun w h => h5 w (List.mem_cons_of_mem _ h)
  refine ⟨h1, h2, h4, hK, F_D_ok hts hN, fun k v h => ?_, fun k v h => ?_⟩
  · unfold K_D at h
    cases h
  · unfold K_D at h
    cases h
def F_K : pm_FT := fun k => match k with
  | 9 => some (1, 0, .boolean, false)
  | 15 => some (1, 1, .long, false)
  | 19 => some (1, 2, .long, false)
  | 27 => some (1, 3, .object "LatticeWraps$Matrix", true)
  | 31 => some (1, 4, .object "LatticeWraps$Matrix", true)
  | 34 => some (1, 5, .object "LatticeWraps$Matrix", true)
  | 37 => some (1, 6, .object "LatticeWraps$Matrix", true)
  | 40 => some (1, 7, .array .int, true)
  | _ => none
def K_K : Nat → Option Value := fun k => match k with
  | _ => none
set_option maxHeartbeats 2000000 in
theorem F_K_ok {args : Array Value} {s : State} (hts : ∀ w ∈ gw_, w.before args s = true) (hN : ∀ w ∈ nw_, va_Nw w s) : ∀ k ci j ty fin, F_K k = some (ci, j, ty, fin) → pm_fok R_K cl_ args s k ci j ty fin := by
  intro k ci j ty fin h
  unfold F_K at h
  split at h
  · cases h
    exact ⟨R_K, T_K, 8, t_K, rfl, by decide, fun w hw => hts w (u_K_in w hw), t_K_ok, n_K, rfl, by decide +kernel, Or.inl ⟨_, hts _ (gm_ 130 (by decide +kernel) (by decide +kernel)), fun _ h => h⟩⟩
  · cases h
    exact ⟨R_K, T_K, 8, t_K, rfl, by decide, fun w hw => hts w (u_K_in w hw), t_K_ok, n_K, rfl, by decide +kernel, Or.inl ⟨_, hts _ (gm_ 132 (by decide +kernel) (by decide +kernel)), fun _ h => h⟩⟩
  · cases h
    exact ⟨R_K, T_K, 8, t_K, rfl, by decide, fun w hw => hts w (u_K_in w hw), t_K_ok, n_K, rfl, by decide +kernel, Or.inl ⟨_, hts _ (gm_ 134 (by decide +kernel) (by decide +kernel)), fun _ h => h⟩⟩
  · cases h
    exact ⟨R_K, T_K, 8, t_K, rfl, by decide, fun w hw => hts w (u_K_in w hw), t_K_ok, n_K, rfl, by decide +kernel, Or.inl ⟨_, hts _ (gm_ 137 (by decide +kernel) (by decide +kernel)), fun _ h => h⟩⟩
  · cases h
    exact ⟨R_K, T_K, 8, t_K, rfl, by decide, fun w hw => hts w (u_K_in w hw), t_K_ok, n_K, rfl, by decide +kernel, Or.inl ⟨_, hts _ (gm_ 139 (by decide +kernel) (by decide +kernel)), fun _ h => h⟩⟩
  · cases h
    exact ⟨R_K, T_K, 8, t_K, rfl, by decide, fun w hw => hts w (u_K_in w hw), t_K_ok, n_K, rfl, by decide +kernel, Or.inl ⟨_, hts _ (gm_ 141 (by decide +kernel) (by decide +kernel)), fun _ h => h⟩⟩
  · cases h
    exact ⟨R_K, T_K, 8, t_K, rfl, by decide, fun w hw => hts w (u_K_in w hw), t_K_ok, n_K, rfl, by decide +kernel, Or.inl ⟨_, hts _ (gm_ 142 (by decide +kernel) (by decide +kernel)), fun _ h => h⟩⟩
  · cases h
    exact ⟨R_K, T_K, 8, t_K, rfl, by decide, fun w hw => hts w (u_K_in w hw), t_K_ok, n_K, rfl, by decide +kernel, Or.inl ⟨_, hts _ (gm_ 144 (by decide +kernel) (by decide +kernel)), fun _ h => h⟩⟩
  · cases h
theorem X_K {p : Program} {s : State} {m : MethodId} {args : Array Value} {c : Code} {cc : ByteArray} {nL : Nat} {D : va_G} {tc : Nat → ClassId} {c0 : Cond} (CF : CallFix p m c cc nL s args (c0 :: gw_) R_K) (hK : va_K D cl_ (pm_T tc) s) (hN : ∀ w ∈ nw_, va_Nw w s) : pm_X p s m args c cc R_K D cl_ tc F_K K_K := by
  obtain ⟨h1, h2, h3, h4, h5⟩ := CF
  have hts : ∀ w ∈ gw_, w.before args s = true := fun w h => h5 w (List.mem_cons_of_mem _ h)
  refine ⟨h1, h2, h4, hK, F_K_ok hts hN, fun k v h => ?_, fun k v h => ?_⟩
  · unfold K_K at h
    cases h
  · unfold K_K at h
    cases h
def F_M : pm_FT := fun k => match k with
  | 9 => some (2, 0, .int, true)
  | 15 => some (2, 1, .int, true)
  | 18 => some (2, 2, .array .int, true)
  | _ => none
def K_M : Nat → Option Value := fun k => match k with
  | _ => none
set_option maxHeartbeats 2000000 in
theorem F_M_ok {args : Array Value} {s : State} (hts : ∀ w ∈ gw_, w.before args s = true) (hN : ∀ w ∈ nw_, va_Nw w s) : ∀ k ci j ty fin, F_M k = some (ci, j, ty, fin) → pm_fok R_M cl_ args s k ci j ty fin := by
  intro k ci j ty fin h
  unfold F_M at h
  split at h
  · cases h
    exact ⟨R_M, T_M, 3, t_M, rfl, by decide, fun w hw => hts w (u_M_in w hw), t_M_ok, n_M, rfl, by decide +kernel, Or.inl ⟨_, hts _ (gm_ 85 (by decide +kernel) (by decide +kernel)), fun _ h => h⟩⟩
  · cases h
    exact ⟨R_M, T_M, 3, t_M, rfl, by decide, fun w hw => hts w (u_M_in w hw), t_M_ok, n_M, rfl, by decide +kernel, Or.inl ⟨_, hts _ (gm_ 86 (by decide +kernel) (by decide +kernel)), fun _ h => h⟩⟩
  · cases h
    exact ⟨R_M, T_M, 3, t_M, rfl, by decide, fun w hw => hts w (u_M_in w hw), t_M_ok, n_M, rfl, by decide +kernel, Or.inl ⟨_, hts _ (gm_ 87 (by decide +kernel) (by decide +kernel)), fun _ h => h⟩⟩
  · cases h
theorem X_M {p : Program} {s : State} {m : MethodId} {args : Array Value} {c : Code} {cc : ByteArray} {nL : Nat} {D : va_G} {tc : Nat → ClassId} {c0 : Cond} (CF : CallFix p m c cc nL s args (c0 :: gw_) R_M) (hK : va_K D cl_ (pm_T tc) s) (hN : ∀ w ∈ nw_, va_Nw w s) : pm_X p s m args c cc R_M D cl_ tc F_M K_M := by
  obtain ⟨h1, h2, h3, h4, h5⟩ := CF
  have hts : ∀ w ∈ gw_, w.before args s = true := fun w h => h5 w (List.mem_cons_of_mem _ h)
  refine ⟨h1, h2, h4, hK, F_M_ok hts hN, fun k v h => ?_, fun k v h => ?_⟩
  · unfold K_M at h
    cases h
  · unfold K_M at h
    cases h
def F_S : pm_FT := fun k => match k with
  | 9 => some (3, 0, .array .long, true)
  | 15 => some (3, 1, .array .long, true)
  | 18 => some (3, 2, .array .long, true)
  | 21 => some (3, 3, .int, false)
  | _ => none
def K_S : Nat → Option Value := fun k => match k with
  | 31 => some (.long (255))
  | 37 => some (.long (-9223372036854775808))
  | 51 => some (.int (65535))
  | 81 => some (.long (-1))
  | _ => none
set_option maxHeartbeats 2000000 in
theorem F_S_ok {args : Array Value} {s : State} (hts : ∀ w ∈ gw_, w.before args s = true) (hN : ∀ w ∈ nw_, va_Nw w s) : ∀ k ci j ty fin, F_S k = some (ci, j, ty, fin) → pm_fok R_S cl_ args s k ci j ty fin := by
  intro k ci j ty fin h
  unfold F_S at h
  split at h
  · cases h
    exact ⟨R_S, T_S, 4, t_S, rfl, by decide, fun w hw => hts w (u_S_in w hw), t_S_ok, n_S, rfl, by decide +kernel, Or.inl ⟨_, hts _ (gm_ 65 (by decide +kernel) (by decide +kernel)), fun _ h => h⟩⟩
  · cases h
    exact ⟨R_S, T_S, 4, t_S, rfl, by decide, fun w hw => hts w (u_S_in w hw), t_S_ok, n_S, rfl, by decide +kernel, Or.inl ⟨_, hts _ (gm_ 66 (by decide +kernel) (by decide +kernel)), fun _ h => h⟩⟩
  · cases h
    exact ⟨R_S, T_S, 4, t_S, rfl, by decide, fun w hw => hts w (u_S_in w hw), t_S_ok, n_S, rfl, by decide +kernel, Or.inl ⟨_, hts _ (gm_ 67 (by decide +kernel) (by decide +kernel)), fun _ h => h⟩⟩
  · cases h
    exact ⟨R_S, T_S, 4, t_S, rfl, by decide, fun w hw => hts w (u_S_in w hw), t_S_ok, n_S, rfl, by decide +kernel, Or.inl ⟨_, hts _ (gm_ 68 (by decide +kernel) (by decide +kernel)), fun _ h => h⟩⟩
  · cases h
theorem X_S {p : Program} {s : State} {m : MethodId} {args : Array Value} {c : Code} {cc : ByteArray} {nL : Nat} {D : va_G} {tc : Nat → ClassId} {c0 : Cond} (CF : CallFix p m c cc nL s args (c0 :: gw_) R_S) (hK : va_K D cl_ (pm_T tc) s) (hN : ∀ w ∈ nw_, va_Nw w s) : pm_X p s m args c cc R_S D cl_ tc F_S K_S := by
  obtain ⟨h1, h2, h3, h4, h5⟩ := CF
  have hts : ∀ w ∈ gw_, w.before args s = true := fun w h => h5 w (List.mem_cons_of_mem _ h)
  refine ⟨h1, h2, h4, hK, F_S_ok hts hN, fun k v h => ?_, fun k v h => ?_⟩
  · unfold K_S at h
    split at h
    · cases h
    · cases h
    · cases h
      exact hts _ (gm_ 333 (by decide +kernel) (by decide +kernel))
    · cases h
    · cases h
  · unfold K_S at h
    split at h
    · cases h
      exact hts _ (gm_ 289 (by decide +kernel) (by decide +kernel))
    · cases h
      exact hts _ (gm_ 294 (by decide +kernel) (by decide +kernel))
    · cases h
    · cases h
      exact hts _ (gm_ 316 (by decide +kernel) (by decide +kernel))
    · cases h
def F_W : pm_FT := fun k => match k with
  | 9 => some (4, 0, .boolean, false)
  | 15 => some (4, 1, .array .int, true)
  | _ => none
def K_W : Nat → Option Value := fun k => match k with
  | _ => none
set_option maxHeartbeats 2000000 in
theorem F_W_ok {args : Array Value} {s : State} (hts : ∀ w ∈ gw_, w.before args s = true) (hN : ∀ w ∈ nw_, va_Nw w s) : ∀ k ci j ty fin, F_W k = some (ci, j, ty, fin) → pm_fok R_W cl_ args s k ci j ty fin := by
  intro k ci j ty fin h
  unfold F_W at h
  split at h
  · cases h
    exact ⟨R_W, T_W, 2, t_W, rfl, by decide, fun w hw => hts w (u_W_in w hw), t_W_ok, n_W, rfl, by decide +kernel, Or.inl ⟨_, hts _ (gm_ 168 (by decide +kernel) (by decide +kernel)), fun _ h => h⟩⟩
  · cases h
    exact ⟨R_W, T_W, 2, t_W, rfl, by decide, fun w hw => hts w (u_W_in w hw), t_W_ok, n_W, rfl, by decide +kernel, Or.inl ⟨_, hts _ (gm_ 170 (by decide +kernel) (by decide +kernel)), fun _ h => h⟩⟩
  · cases h
theorem X_W {p : Program} {s : State} {m : MethodId} {args : Array Value} {c : Code} {cc : ByteArray} {nL : Nat} {D : va_G} {tc : Nat → ClassId} {c0 : Cond} (CF : CallFix p m c cc nL s args (c0 :: gw_) R_W) (hK : va_K D cl_ (pm_T tc) s) (hN : ∀ w ∈ nw_, va_Nw w s) : pm_X p s m args c cc R_W D cl_ tc F_W K_W := by
  obtain ⟨h1, h2, h3, h4, h5⟩ := CF
  have hts : ∀ w ∈ gw_, w.before args s = true := fun w h => h5 w (List.mem_cons_of_mem _ h)
  refine ⟨h1, h2, h4, hK, F_W_ok hts hN, fun k v h => ?_, fun k v h => ?_⟩
  · unfold K_W at h
    cases h
  · unfold K_W at h
    cases h
def F_L : pm_FT := fun k => match k with
  | 11 => some (5, 0, .array (.object "LatticeWraps$Key"), true)
  | 17 => some (5, 1, .array (.object "LatticeWraps$Wrap"), true)
  | 24 => some (5, 2, .object "LatticeWraps$Desk", true)
  | 34 => some (0, 0, .object "LatticeWraps$Shaker", true)
  | 42 => some (1, 2, .long, false)
  | 46 => some (1, 0, .boolean, false)
  | 54 => some (4, 1, .array .int, true)
  | 62 => some (4, 0, .boolean, false)
  | 83 => some (1, 7, .array .int, true)
  | 103 => some (0, 6, .object "LatticeWraps$Matrix", true)
  | _ => none
def K_L : Nat → Option Value := fun k => match k with
  | _ => none
set_option maxHeartbeats 2000000 in
theorem F_L_ok {args : Array Value} {s : State} (hts : ∀ w ∈ gw_, w.before args s = true) (hN : ∀ w ∈ nw_, va_Nw w s) : ∀ k ci j ty fin, F_L k = some (ci, j, ty, fin) → pm_fok R_L cl_ args s k ci j ty fin := by
  intro k ci j ty fin h
  unfold F_L at h
  split at h
  · cases h
    exact ⟨R_L, T_L, 3, t_L, rfl, by decide, fun w hw => hts w (u_L_in w hw), t_L_ok, n_L, rfl, by decide +kernel, Or.inl ⟨_, hts _ (gm_ 177 (by decide +kernel) (by decide +kernel)), fun _ h => h⟩⟩
  · cases h
    exact ⟨R_L, T_L, 3, t_L, rfl, by decide, fun w hw => hts w (u_L_in w hw), t_L_ok, n_L, rfl, by decide +kernel, Or.inl ⟨_, hts _ (gm_ 178 (by decide +kernel) (by decide +kernel)), fun _ h => h⟩⟩
  · cases h
    exact ⟨R_L, T_L, 3, t_L, rfl, by decide, fun w hw => hts w (u_L_in w hw), t_L_ok, n_L, rfl, by decide +kernel, Or.inl ⟨_, hts _ (gm_ 179 (by decide +kernel) (by decide +kernel)), fun _ h => h⟩⟩
  · cases h
    exact ⟨R_D, T_D, 8, t_D, rfl, by decide, fun w hw => hts w (u_D_in w hw), t_D_ok, n_D, rfl, by decide +kernel, Or.inr ⟨_, "LatticeWraps", va_Nw.use rfl (hN _ (List.mem_of_getElem? (i := 2) (by decide +kernel))), fun _ h => h⟩⟩
  · cases h
    exact ⟨R_K, T_K, 8, t_K, rfl, by decide, fun w hw => hts w (u_K_in w hw), t_K_ok, n_K, rfl, by decide +kernel, Or.inr ⟨_, "LatticeWraps", va_Nw.use rfl (hN _ (List.mem_of_getElem? (i := 8) (by decide +kernel))), fun _ h => h⟩⟩
  · cases h
    exact ⟨R_K, T_K, 8, t_K, rfl, by decide, fun w hw => hts w (u_K_in w hw), t_K_ok, n_K, rfl, by decide +kernel, Or.inr ⟨_, "LatticeWraps", va_Nw.use rfl (hN _ (List.mem_of_getElem? (i := 5) (by decide +kernel))), fun _ h => h⟩⟩
  · cases h
    exact ⟨R_W, T_W, 2, t_W, rfl, by decide, fun w hw => hts w (u_W_in w hw), t_W_ok, n_W, rfl, by decide +kernel, Or.inr ⟨_, "LatticeWraps", va_Nw.use rfl (hN _ (List.mem_of_getElem? (i := 15) (by decide +kernel))), fun _ h => h⟩⟩
  · cases h
    exact ⟨R_W, T_W, 2, t_W, rfl, by decide, fun w hw => hts w (u_W_in w hw), t_W_ok, n_W, rfl, by decide +kernel, Or.inr ⟨_, "LatticeWraps", va_Nw.use rfl (hN _ (List.mem_of_getElem? (i := 14) (by decide +kernel))), fun _ h => h⟩⟩
  · cases h
    exact ⟨R_K, T_K, 8, t_K, rfl, by decide, fun w hw => hts w (u_K_in w hw), t_K_ok, n_K, rfl, by decide +kernel, Or.inr ⟨_, "LatticeWraps", va_Nw.use rfl (hN _ (List.mem_of_getElem? (i := 12) (by decide +kernel))), fun _ h => h⟩⟩
  · cases h
    exact ⟨R_D, T_D, 8, t_D, rfl, by decide, fun w hw => hts w (u_D_in w hw), t_D_ok, n_D, rfl, by decide +kernel, Or.inr ⟨_, "LatticeWraps", va_Nw.use rfl (hN _ (List.mem_of_getElem? (i := 3) (by decide +kernel))), fun _ h => h⟩⟩
  · cases h
theorem X_L {p : Program} {s : State} {m : MethodId} {args : Array Value} {c : Code} {cc : ByteArray} {nL : Nat} {D : va_G} {tc : Nat → ClassId} {c0 : Cond} (CF : CallFix p m c cc nL s args (c0 :: gw_) R_L) (hK : va_K D cl_ (pm_T tc) s) (hN : ∀ w ∈ nw_, va_Nw w s) : pm_X p s m args c cc R_L D cl_ tc F_L K_L := by
  obtain ⟨h1, h2, h3, h4, h5⟩ := CF
  have hts : ∀ w ∈ gw_, w.before args s = true := fun w h => h5 w (List.mem_cons_of_mem _ h)
  refine ⟨h1, h2, h4, hK, F_L_ok hts hN, fun k v h => ?_, fun k v h => ?_⟩
  · unfold K_L at h
    cases h
  · unfold K_L at h
    cases h
def F_R : pm_FT := fun k => match k with
  | 7 => some (6, 1, .array .int, true)
  | 13 => some (6, 2, .array .boolean, true)
  | 17 => some (6, 3, .array .long, true)
  | 21 => some (6, 4, .array .long, true)
  | 24 => some (6, 5, .array .long, true)
  | 27 => some (6, 7, .array .int, true)
  | 30 => some (6, 8, .array .int, true)
  | 33 => some (6, 9, .array .boolean, true)
  | 36 => some (6, 10, .array .long, true)
  | 39 => some (6, 11, .array .long, true)
  | 42 => some (6, 12, .array .long, true)
  | 45 => some (6, 13, .array .int, true)
  | 48 => some (6, 14, .array .int, true)
  | 51 => some (6, 15, .array .int, true)
  | 54 => some (6, 16, .array .int, true)
  | 57 => some (6, 17, .array .boolean, true)
  | 60 => some (6, 18, .array .int, true)
  | 63 => some (6, 19, .array .int, true)
  | 66 => some (6, 20, .array .int, true)
  | 69 => some (6, 21, .array .int, true)
  | 72 => some (6, 0, .int, false)
  | 82 => some (6, 6, .int, false)
  | _ => none
def K_R : Nat → Option Value := fun k => match k with
  | 80 => some (.long (-1))
  | 85 => some (.long (255))
  | 91 => some (.long (31))
  | 104 => some (.int (32768))
  | 120 => some (.long (95))
  | 131 => some (.long (150))
  | _ => none
set_option maxHeartbeats 2000000 in
theorem F_R_ok {args : Array Value} {s : State} (hts : ∀ w ∈ gw_, w.before args s = true) (hN : ∀ w ∈ nw_, va_Nw w s) : ∀ k ci j ty fin, F_R k = some (ci, j, ty, fin) → pm_fok R_R cl_ args s k ci j ty fin := by
  intro k ci j ty fin h
  unfold F_R at h
  split at h
  · cases h
    exact ⟨R_R, T_R, 22, t_R, rfl, by decide, fun w hw => hts w (u_R_in w hw), t_R_ok, n_R, rfl, by decide +kernel, Or.inl ⟨_, hts _ (gm_ 580 (by decide +kernel) (by decide +kernel)), fun _ h => h⟩⟩
  · cases h
    exact ⟨R_R, T_R, 22, t_R, rfl, by decide, fun w hw => hts w (u_R_in w hw), t_R_ok, n_R, rfl, by decide +kernel, Or.inl ⟨_, hts _ (gm_ 581 (by decide +kernel) (by decide +kernel)), fun _ h => h⟩⟩
  · cases h
    exact ⟨R_R, T_R, 22, t_R, rfl, by decide, fun w hw => hts w (u_R_in w hw), t_R_ok, n_R, rfl, by decide +kernel, Or.inl ⟨_, hts _ (gm_ 582 (by decide +kernel) (by decide +kernel)), fun _ h => h⟩⟩
  · cases h
    exact ⟨R_R, T_R, 22, t_R, rfl, by decide, fun w hw => hts w (u_R_in w hw), t_R_ok, n_R, rfl, by decide +kernel, Or.inl ⟨_, hts _ (gm_ 583 (by decide +kernel) (by decide +kernel)), fun _ h => h⟩⟩
  · cases h
    exact ⟨R_R, T_R, 22, t_R, rfl, by decide, fun w hw => hts w (u_R_in w hw), t_R_ok, n_R, rfl, by decide +kernel, Or.inl ⟨_, hts _ (gm_ 584 (by decide +kernel) (by decide +kernel)), fun _ h => h⟩⟩
  · cases h
    exact ⟨R_R, T_R, 22, t_R, rfl, by decide, fun w hw => hts w (u_R_in w hw), t_R_ok, n_R, rfl, by decide +kernel, Or.inl ⟨_, hts _ (gm_ 586 (by decide +kernel) (by decide +kernel)), fun _ h => h⟩⟩
  · cases h
    exact ⟨R_R, T_R, 22, t_R, rfl, by decide, fun w hw => hts w (u_R_in w hw), t_R_ok, n_R, rfl, by decide +kernel, Or.inl ⟨_, hts _ (gm_ 587 (by decide +kernel) (by decide +kernel)), fun _ h => h⟩⟩
  · cases h
    exact ⟨R_R, T_R, 22, t_R, rfl, by decide, fun w hw => hts w (u_R_in w hw), t_R_ok, n_R, rfl, by decide +kernel, Or.inl ⟨_, hts _ (gm_ 588 (by decide +kernel) (by decide +kernel)), fun _ h => h⟩⟩
  · cases h
    exact ⟨R_R, T_R, 22, t_R, rfl, by decide, fun w hw => hts w (u_R_in w hw), t_R_ok, n_R, rfl, by decide +kernel, Or.inl ⟨_, hts _ (gm_ 589 (by decide +kernel) (by decide +kernel)), fun _ h => h⟩⟩
  · cases h
    exact ⟨R_R, T_R, 22, t_R, rfl, by decide, fun w hw => hts w (u_R_in w hw), t_R_ok, n_R, rfl, by decide +kernel, Or.inl ⟨_, hts _ (gm_ 590 (by decide +kernel) (by decide +kernel)), fun _ h => h⟩⟩
  · cases h
    exact ⟨R_R, T_R, 22, t_R, rfl, by decide, fun w hw => hts w (u_R_in w hw), t_R_ok, n_R, rfl, by decide +kernel, Or.inl ⟨_, hts _ (gm_ 591 (by decide +kernel) (by decide +kernel)), fun _ h => h⟩⟩
  · cases h
    exact ⟨R_R, T_R, 22, t_R, rfl, by decide, fun w hw => hts w (u_R_in w hw), t_R_ok, n_R, rfl, by decide +kernel, Or.inl ⟨_, hts _ (gm_ 592 (by decide +kernel) (by decide +kernel)), fun _ h => h⟩⟩
  · cases h
    exact ⟨R_R, T_R, 22, t_R, rfl, by decide, fun w hw => hts w (u_R_in w hw), t_R_ok, n_R, rfl, by decide +kernel, Or.inl ⟨_, hts _ (gm_ 593 (by decide +kernel) (by decide +kernel)), fun _ h => h⟩⟩
  · cases h
    exact ⟨R_R, T_R, 22, t_R, rfl, by decide, fun w hw => hts w (u_R_in w hw), t_R_ok, n_R, rfl, by decide +kernel, Or.inl ⟨_, hts _ (gm_ 594 (by decide +kernel) (by decide +kernel)), fun _ h => h⟩⟩
  · cases h
    exact ⟨R_R, T_R, 22, t_R, rfl, by decide, fun w hw => hts w (u_R_in w hw), t_R_ok, n_R, rfl, by decide +kernel, Or.inl ⟨_, hts _ (gm_ 595 (by decide +kernel) (by decide +kernel)), fun _ h => h⟩⟩
  · cases h
    exact ⟨R_R, T_R, 22, t_R, rfl, by decide, fun w hw => hts w (u_R_in w hw), t_R_ok, n_R, rfl, by decide +kernel, Or.inl ⟨_, hts _ (gm_ 596 (by decide +kernel) (by decide +kernel)), fun _ h => h⟩⟩
  · cases h
    exact ⟨R_R, T_R, 22, t_R, rfl, by decide, fun w hw => hts w (u_R_in w hw), t_R_ok, n_R, rfl, by decide +kernel, Or.inl ⟨_, hts _ (gm_ 597 (by decide +kernel) (by decide +kernel)), fun _ h => h⟩⟩
  · cases h
    exact ⟨R_R, T_R, 22, t_R, rfl, by decide, fun w hw => hts w (u_R_in w hw), t_R_ok, n_R, rfl, by decide +kernel, Or.inl ⟨_, hts _ (gm_ 598 (by decide +kernel) (by decide +kernel)), fun _ h => h⟩⟩
  · cases h
    exact ⟨R_R, T_R, 22, t_R, rfl, by decide, fun w hw => hts w (u_R_in w hw), t_R_ok, n_R, rfl, by decide +kernel, Or.inl ⟨_, hts _ (gm_ 599 (by decide +kernel) (by decide +kernel)), fun _ h => h⟩⟩
  · cases h
    exact ⟨R_R, T_R, 22, t_R, rfl, by decide, fun w hw => hts w (u_R_in w hw), t_R_ok, n_R, rfl, by decide +kernel, Or.inl ⟨_, hts _ (gm_ 600 (by decide +kernel) (by decide +kernel)), fun _ h => h⟩⟩
  · cases h
    exact ⟨R_R, T_R, 22, t_R, rfl, by decide, fun w hw => hts w (u_R_in w hw), t_R_ok, n_R, rfl, by decide +kernel, Or.inl ⟨_, hts _ (gm_ 579 (by decide +kernel) (by decide +kernel)), fun _ h => h⟩⟩
  · cases h
    exact ⟨R_R, T_R, 22, t_R, rfl, by decide, fun w hw => hts w (u_R_in w hw), t_R_ok, n_R, rfl, by decide +kernel, Or.inl ⟨_, hts _ (gm_ 585 (by decide +kernel) (by decide +kernel)), fun _ h => h⟩⟩
  · cases h
theorem X_R {p : Program} {s : State} {m : MethodId} {args : Array Value} {c : Code} {cc : ByteArray} {nL : Nat} {D : va_G} {tc : Nat → ClassId} {c0 : Cond} (CF : CallFix p m c cc nL s args (c0 :: gw_) R_R) (hK : va_K D cl_ (pm_T tc) s) (hN : ∀ w ∈ nw_, va_Nw w s) : pm_X p s m args c cc R_R D cl_ tc F_R K_R := by
  obtain ⟨h1, h2, h3, h4, h5⟩ := CF
  have hts : ∀ w ∈ gw_, w.before args s = true := fun w h => h5 w (List.mem_cons_of_mem _ h)
  refine ⟨h1, h2, h4, hK, F_R_ok hts hN, fun k v h => ?_, fun k v h => ?_⟩
  · unfold K_R at h
    split at h
    · cases h
    · cases h
    · cases h
    · cases h
      exact hts _ (gm_ 692 (by decide +kernel) (by decide +kernel))
    · cases h
    · cases h
    · cases h
  · unfold K_R at h
    split at h
    · cases h
      exact hts _ (gm_ 675 (by decide +kernel) (by decide +kernel))
    · cases h
      exact hts _ (gm_ 662 (by decide +kernel) (by decide +kernel))
    · cases h
      exact hts _ (gm_ 667 (by decide +kernel) (by decide +kernel))
    · cases h
    · cases h
      exact hts _ (gm_ 680 (by decide +kernel) (by decide +kernel))
    · cases h
      exact hts _ (gm_ 712 (by decide +kernel) (by decide +kernel))
    · cases h
def F_Q : pm_FT := fun k => match k with
  | _ => none
def K_Q : Nat → Option Value := fun k => match k with
  | 64 => some (.long (4294967295))
  | _ => none
set_option maxHeartbeats 2000000 in
theorem F_Q_ok {args : Array Value} {s : State} (hts : ∀ w ∈ gw_, w.before args s = true) (hN : ∀ w ∈ nw_, va_Nw w s) : ∀ k ci j ty fin, F_Q k = some (ci, j, ty, fin) → pm_fok R_Q cl_ args s k ci j ty fin := by
  intro k ci j ty fin h
  unfold F_Q at h
  cases h
theorem X_Q {p : Program} {s : State} {m : MethodId} {args : Array Value} {c : Code} {cc : ByteArray} {nL : Nat} {D : va_G} {tc : Nat → ClassId} {c0 : Cond} (CF : CallFix p m c cc nL s args (c0 :: gw_) R_Q) (hK : va_K D cl_ (pm_T tc) s) (hN : ∀ w ∈ nw_, va_Nw w s) : pm_X p s m args c cc R_Q D cl_ tc F_Q K_Q := by
  obtain ⟨h1, h2, h3, h4, h5⟩ := CF
  have hts : ∀ w ∈ gw_, w.before args s = true := fun w h => h5 w (List.mem_cons_of_mem _ h)
  refine ⟨h1, h2, h4, hK, F_Q_ok hts hN, fun k v h => ?_, fun k v h => ?_⟩
  · unfold K_Q at h
    split at h
    · cases h
    · cases h
  · unfold K_Q at h
    split at h
    · cases h
      exact hts _ (gm_ 777 (by decide +kernel) (by decide +kernel))
    · cases h
def F_A : pm_FT := fun k => match k with
  | _ => none
def K_A : Nat → Option Value := fun k => match k with
  | _ => none
set_option maxHeartbeats 2000000 in
theorem F_A_ok {args : Array Value} {s : State} (hts : ∀ w ∈ gw_, w.before args s = true) (hN : ∀ w ∈ nw_, va_Nw w s) : ∀ k ci j ty fin, F_A k = some (ci, j, ty, fin) → pm_fok "java/util/Arrays" cl_ args s k ci j ty fin := by
  intro k ci j ty fin h
  unfold F_A at h
  cases h
theorem X_A {p : Program} {s : State} {m : MethodId} {args : Array Value} {c : Code} {cc : ByteArray} {nL : Nat} {D : va_G} {tc : Nat → ClassId} {c0 : Cond} (CF : CallFix p m c cc nL s args (c0 :: gw_) "java/util/Arrays") (hK : va_K D cl_ (pm_T tc) s) (hN : ∀ w ∈ nw_, va_Nw w s) : pm_X p s m args c cc "java/util/Arrays" D cl_ tc F_A K_A := by
  obtain ⟨h1, h2, h3, h4, h5⟩ := CF
  have hts : ∀ w ∈ gw_, w.before args s = true := fun w h => h5 w (List.mem_cons_of_mem _ h)
  refine ⟨h1, h2, h4, hK, F_A_ok hts hN, fun k v h => ?_, fun k v h => ?_⟩
  · unfold K_A at h
    cases h
  · unfold K_A at h
    cases h
end NF
end
section
section DC
theorem d_S_init_0 : decode c_S_init 0 = .ok (.aload_n 0, 1) := by decide +kernel
theorem d_S_init_1 : decode c_S_init 1 = .ok (.invokespecial 3, 3) := by decide +kernel
theorem d_S_init_4 : decode c_S_init 4 = .ok (.aload_n 0, 1) := by decide +kernel
theorem d_S_init_5 : decode c_S_init 5 = .ok (.bipush 25, 2) := by decide +kernel
theorem d_S_init_7 : decode c_S_init 7 = .ok (.newarray .long, 2) := by decide +kernel
theorem d_S_init_9 : decode c_S_init 9 = .ok (.putfield 9, 3) := by decide +kernel
theorem d_S_init_12 : decode c_S_init 12 = .ok (.aload_n 0, 1) := by decide +kernel
theorem d_S_init_13 : decode c_S_init 13 = .ok (.bipush 25, 2) := by decide +kernel
theorem d_S_init_15 : decode c_S_init 15 = .ok (.newarray .long, 2) := by decide +kernel
theorem d_S_init_17 : decode c_S_init 17 = .ok (.putfield 15, 3) := by decide +kernel
theorem d_S_init_20 : decode c_S_init 20 = .ok (.aload_n 0, 1) := by decide +kernel
theorem d_S_init_21 : decode c_S_init 21 = .ok (.iconst 5, 1) := by decide +kernel
theorem d_S_init_22 : decode c_S_init 22 = .ok (.newarray .long, 2) := by decide +kernel
theorem d_S_init_24 : decode c_S_init 24 = .ok (.putfield 18, 3) := by decide +kernel
theorem d_S_init_27 : decode c_S_init 27 = .ok (.aload_n 0, 1) := by decide +kernel
theorem d_S_init_28 : decode c_S_init 28 = .ok (.iconst 0, 1) := by decide +kernel
theorem d_S_init_29 : decode c_S_init 29 = .ok (.putfield 21, 3) := by decide +kernel
theorem d_S_init_32 : decode c_S_init 32 = .ok (.return_, 1) := by decide +kernel
theorem d_S_ofLong_0 : decode c_S_ofLong 0 = .ok (.aload_n 0, 1) := by decide +kernel
theorem d_S_ofLong_1 : decode c_S_ofLong 1 = .ok (.invokevirtual 52, 3) := by decide +kernel
theorem d_S_ofLong_4 : decode c_S_ofLong 4 = .ok (.aload_n 0, 1) := by decide +kernel
theorem d_S_ofLong_5 : decode c_S_ofLong 5 = .ok (.lload_n 1, 1) := by decide +kernel
theorem d_S_ofLong_6 : decode c_S_ofLong 6 = .ok (.bipush 8, 2) := by decide +kernel
theorem d_S_ofLong_8 : decode c_S_ofLong 8 = .ok (.invokevirtual 55, 3) := by decide +kernel
theorem d_S_ofLong_11 : decode c_S_ofLong 11 = .ok (.aload_n 0, 1) := by decide +kernel
theorem d_S_ofLong_12 : decode c_S_ofLong 12 = .ok (.invokevirtual 59, 3) := by decide +kernel
theorem d_S_ofLong_15 : decode c_S_ofLong 15 = .ok (.aload_n 0, 1) := by decide +kernel
theorem d_S_ofLong_16 : decode c_S_ofLong 16 = .ok (.iconst 0, 1) := by decide +kernel
theorem d_S_ofLong_17 : decode c_S_ofLong 17 = .ok (.invokevirtual 62, 3) := by decide +kernel
theorem d_S_ofLong_20 : decode c_S_ofLong 20 = .ok (.lreturn, 1) := by decide +kernel
theorem d_S_begin_0 : decode c_S_begin 0 = .ok (.aload_n 0, 1) := by decide +kernel
theorem d_S_begin_1 : decode c_S_begin 1 = .ok (.getfield 9, 3) := by decide +kernel
theorem d_S_begin_4 : decode c_S_begin 4 = .ok (.lconst 0, 1) := by decide +kernel
theorem d_S_begin_5 : decode c_S_begin 5 = .ok (.invokestatic 25, 3) := by decide +kernel
theorem d_S_begin_8 : decode c_S_begin 8 = .ok (.aload_n 0, 1) := by decide +kernel
theorem d_S_begin_9 : decode c_S_begin 9 = .ok (.iconst 0, 1) := by decide +kernel
theorem d_S_begin_10 : decode c_S_begin 10 = .ok (.putfield 21, 3) := by decide +kernel
theorem d_S_begin_13 : decode c_S_begin 13 = .ok (.return_, 1) := by decide +kernel
theorem d_S_putBytes_0 : decode c_S_putBytes 0 = .ok (.iconst 0, 1) := by decide +kernel
theorem d_S_putBytes_1 : decode c_S_putBytes 1 = .ok (.istore 4, 2) := by decide +kernel
theorem d_S_putBytes_3 : decode c_S_putBytes 3 = .ok (.iload 4, 2) := by decide +kernel
theorem d_S_putBytes_5 : decode c_S_putBytes 5 = .ok (.iload_n 3, 1) := by decide +kernel
theorem d_S_putBytes_6 : decode c_S_putBytes 6 = .ok (.if_icmp .ge 21, 3) := by decide +kernel
theorem d_S_putBytes_9 : decode c_S_putBytes 9 = .ok (.aload_n 0, 1) := by decide +kernel
theorem d_S_putBytes_10 : decode c_S_putBytes 10 = .ok (.lload_n 1, 1) := by decide +kernel
theorem d_S_putBytes_11 : decode c_S_putBytes 11 = .ok (.bipush 8, 2) := by decide +kernel
theorem d_S_putBytes_13 : decode c_S_putBytes 13 = .ok (.iload 4, 2) := by decide +kernel
theorem d_S_putBytes_15 : decode c_S_putBytes 15 = .ok (.imul, 1) := by decide +kernel
theorem d_S_putBytes_16 : decode c_S_putBytes 16 = .ok (.lushr, 1) := by decide +kernel
theorem d_S_putBytes_17 : decode c_S_putBytes 17 = .ok (.l2i, 1) := by decide +kernel
theorem d_S_putBytes_18 : decode c_S_putBytes 18 = .ok (.invokevirtual 33, 3) := by decide +kernel
theorem d_S_putBytes_21 : decode c_S_putBytes 21 = .ok (.iinc 4 1, 3) := by decide +kernel
theorem d_S_putBytes_24 : decode c_S_putBytes 24 = .ok (.goto (-21), 3) := by decide +kernel
theorem d_S_putBytes_27 : decode c_S_putBytes 27 = .ok (.return_, 1) := by decide +kernel
theorem d_S_putByte_0 : decode c_S_putByte 0 = .ok (.aload_n 0, 1) := by decide +kernel
theorem d_S_putByte_1 : decode c_S_putByte 1 = .ok (.getfield 9, 3) := by decide +kernel
theorem d_S_putByte_4 : decode c_S_putByte 4 = .ok (.aload_n 0, 1) := by decide +kernel
theorem d_S_putByte_5 : decode c_S_putByte 5 = .ok (.getfield 21, 3) := by decide +kernel
theorem d_S_putByte_8 : decode c_S_putByte 8 = .ok (.bipush 8, 2) := by decide +kernel
theorem d_S_putByte_10 : decode c_S_putByte 10 = .ok (.idiv, 1) := by decide +kernel
theorem d_S_putByte_11 : decode c_S_putByte 11 = .ok (.dup2, 1) := by decide +kernel
theorem d_S_putByte_12 : decode c_S_putByte 12 = .ok (.laload, 1) := by decide +kernel
theorem d_S_putByte_13 : decode c_S_putByte 13 = .ok (.iload_n 1, 1) := by decide +kernel
theorem d_S_putByte_14 : decode c_S_putByte 14 = .ok (.i2l, 1) := by decide +kernel
theorem d_S_putByte_15 : decode c_S_putByte 15 = .ok (.ldc2_w 31, 3) := by decide +kernel
theorem d_S_putByte_18 : decode c_S_putByte 18 = .ok (.land, 1) := by decide +kernel
theorem d_S_putByte_19 : decode c_S_putByte 19 = .ok (.bipush 8, 2) := by decide +kernel
theorem d_S_putByte_21 : decode c_S_putByte 21 = .ok (.aload_n 0, 1) := by decide +kernel
theorem d_S_putByte_22 : decode c_S_putByte 22 = .ok (.getfield 21, 3) := by decide +kernel
theorem d_S_putByte_25 : decode c_S_putByte 25 = .ok (.bipush 8, 2) := by decide +kernel
theorem d_S_putByte_27 : decode c_S_putByte 27 = .ok (.irem, 1) := by decide +kernel
theorem d_S_putByte_28 : decode c_S_putByte 28 = .ok (.imul, 1) := by decide +kernel
theorem d_S_putByte_29 : decode c_S_putByte 29 = .ok (.lshl, 1) := by decide +kernel
theorem d_S_putByte_30 : decode c_S_putByte 30 = .ok (.lxor, 1) := by decide +kernel
theorem d_S_putByte_31 : decode c_S_putByte 31 = .ok (.lastore, 1) := by decide +kernel
theorem d_S_putByte_32 : decode c_S_putByte 32 = .ok (.aload_n 0, 1) := by decide +kernel
theorem d_S_putByte_33 : decode c_S_putByte 33 = .ok (.dup, 1) := by decide +kernel
theorem d_S_putByte_34 : decode c_S_putByte 34 = .ok (.getfield 21, 3) := by decide +kernel
theorem d_S_putByte_37 : decode c_S_putByte 37 = .ok (.iconst 1, 1) := by decide +kernel
theorem d_S_putByte_38 : decode c_S_putByte 38 = .ok (.iadd, 1) := by decide +kernel
theorem d_S_putByte_39 : decode c_S_putByte 39 = .ok (.putfield 21, 3) := by decide +kernel
theorem d_S_putByte_42 : decode c_S_putByte 42 = .ok (.return_, 1) := by decide +kernel
theorem d_S_finish_0 : decode c_S_finish 0 = .ok (.aload_n 0, 1) := by decide +kernel
theorem d_S_finish_1 : decode c_S_finish 1 = .ok (.bipush 31, 2) := by decide +kernel
theorem d_S_finish_3 : decode c_S_finish 3 = .ok (.invokevirtual 33, 3) := by decide +kernel
theorem d_S_finish_6 : decode c_S_finish 6 = .ok (.aload_n 0, 1) := by decide +kernel
theorem d_S_finish_7 : decode c_S_finish 7 = .ok (.getfield 9, 3) := by decide +kernel
theorem d_S_finish_10 : decode c_S_finish 10 = .ok (.bipush 20, 2) := by decide +kernel
theorem d_S_finish_12 : decode c_S_finish 12 = .ok (.dup2, 1) := by decide +kernel
theorem d_S_finish_13 : decode c_S_finish 13 = .ok (.laload, 1) := by decide +kernel
theorem d_S_finish_14 : decode c_S_finish 14 = .ok (.ldc2_w 37, 3) := by decide +kernel
theorem d_S_finish_17 : decode c_S_finish 17 = .ok (.lxor, 1) := by decide +kernel
theorem d_S_finish_18 : decode c_S_finish 18 = .ok (.lastore, 1) := by decide +kernel
theorem d_S_finish_19 : decode c_S_finish 19 = .ok (.iconst 0, 1) := by decide +kernel
theorem d_S_finish_20 : decode c_S_finish 20 = .ok (.istore_n 1, 1) := by decide +kernel
theorem d_S_finish_21 : decode c_S_finish 21 = .ok (.iload_n 1, 1) := by decide +kernel
theorem d_S_finish_22 : decode c_S_finish 22 = .ok (.getstatic 39, 3) := by decide +kernel
theorem d_S_finish_25 : decode c_S_finish 25 = .ok (.arraylength, 1) := by decide +kernel
theorem d_S_finish_26 : decode c_S_finish 26 = .ok (.if_icmp .ge 35, 3) := by decide +kernel
theorem d_S_finish_29 : decode c_S_finish 29 = .ok (.aload_n 0, 1) := by decide +kernel
theorem d_S_finish_30 : decode c_S_finish 30 = .ok (.invokevirtual 42, 3) := by decide +kernel
theorem d_S_finish_33 : decode c_S_finish 33 = .ok (.aload_n 0, 1) := by decide +kernel
theorem d_S_finish_34 : decode c_S_finish 34 = .ok (.invokevirtual 45, 3) := by decide +kernel
theorem d_S_finish_37 : decode c_S_finish 37 = .ok (.aload_n 0, 1) := by decide +kernel
theorem d_S_finish_38 : decode c_S_finish 38 = .ok (.invokevirtual 48, 3) := by decide +kernel
theorem d_S_finish_41 : decode c_S_finish 41 = .ok (.aload_n 0, 1) := by decide +kernel
theorem d_S_finish_42 : decode c_S_finish 42 = .ok (.getfield 9, 3) := by decide +kernel
theorem d_S_finish_45 : decode c_S_finish 45 = .ok (.iconst 0, 1) := by decide +kernel
theorem d_S_finish_46 : decode c_S_finish 46 = .ok (.dup2, 1) := by decide +kernel
theorem d_S_finish_47 : decode c_S_finish 47 = .ok (.laload, 1) := by decide +kernel
theorem d_S_finish_48 : decode c_S_finish 48 = .ok (.getstatic 39, 3) := by decide +kernel
theorem d_S_finish_51 : decode c_S_finish 51 = .ok (.iload_n 1, 1) := by decide +kernel
theorem d_S_finish_52 : decode c_S_finish 52 = .ok (.laload, 1) := by decide +kernel
theorem d_S_finish_53 : decode c_S_finish 53 = .ok (.lxor, 1) := by decide +kernel
theorem d_S_finish_54 : decode c_S_finish 54 = .ok (.lastore, 1) := by decide +kernel
theorem d_S_finish_55 : decode c_S_finish 55 = .ok (.iinc 1 1, 3) := by decide +kernel
theorem d_S_finish_58 : decode c_S_finish 58 = .ok (.goto (-37), 3) := by decide +kernel
theorem d_S_finish_61 : decode c_S_finish 61 = .ok (.return_, 1) := by decide +kernel
theorem d_S_mixColumns_0 : decode c_S_mixColumns 0 = .ok (.iconst 0, 1) := by decide +kernel
theorem d_S_mixColumns_1 : decode c_S_mixColumns 1 = .ok (.istore_n 1, 1) := by decide +kernel
theorem d_S_mixColumns_2 : decode c_S_mixColumns 2 = .ok (.iload_n 1, 1) := by decide +kernel
theorem d_S_mixColumns_3 : decode c_S_mixColumns 3 = .ok (.iconst 5, 1) := by decide +kernel
theorem d_S_mixColumns_4 : decode c_S_mixColumns 4 = .ok (.if_icmp .ge 60, 3) := by decide +kernel
theorem d_S_mixColumns_7 : decode c_S_mixColumns 7 = .ok (.aload_n 0, 1) := by decide +kernel
theorem d_S_mixColumns_8 : decode c_S_mixColumns 8 = .ok (.getfield 18, 3) := by decide +kernel
theorem d_S_mixColumns_11 : decode c_S_mixColumns 11 = .ok (.iload_n 1, 1) := by decide +kernel
theorem d_S_mixColumns_12 : decode c_S_mixColumns 12 = .ok (.aload_n 0, 1) := by decide +kernel
theorem d_S_mixColumns_13 : decode c_S_mixColumns 13 = .ok (.getfield 9, 3) := by decide +kernel
theorem d_S_mixColumns_16 : decode c_S_mixColumns 16 = .ok (.iload_n 1, 1) := by decide +kernel
theorem d_S_mixColumns_17 : decode c_S_mixColumns 17 = .ok (.laload, 1) := by decide +kernel
theorem d_S_mixColumns_18 : decode c_S_mixColumns 18 = .ok (.aload_n 0, 1) := by decide +kernel
theorem d_S_mixColumns_19 : decode c_S_mixColumns 19 = .ok (.getfield 9, 3) := by decide +kernel
theorem d_S_mixColumns_22 : decode c_S_mixColumns 22 = .ok (.iload_n 1, 1) := by decide +kernel
theorem d_S_mixColumns_23 : decode c_S_mixColumns 23 = .ok (.iconst 5, 1) := by decide +kernel
theorem d_S_mixColumns_24 : decode c_S_mixColumns 24 = .ok (.iadd, 1) := by decide +kernel
theorem d_S_mixColumns_25 : decode c_S_mixColumns 25 = .ok (.laload, 1) := by decide +kernel
theorem d_S_mixColumns_26 : decode c_S_mixColumns 26 = .ok (.lxor, 1) := by decide +kernel
theorem d_S_mixColumns_27 : decode c_S_mixColumns 27 = .ok (.aload_n 0, 1) := by decide +kernel
theorem d_S_mixColumns_28 : decode c_S_mixColumns 28 = .ok (.getfield 9, 3) := by decide +kernel
theorem d_S_mixColumns_31 : decode c_S_mixColumns 31 = .ok (.iload_n 1, 1) := by decide +kernel
theorem d_S_mixColumns_32 : decode c_S_mixColumns 32 = .ok (.bipush 10, 2) := by decide +kernel
theorem d_S_mixColumns_34 : decode c_S_mixColumns 34 = .ok (.iadd, 1) := by decide +kernel
theorem d_S_mixColumns_35 : decode c_S_mixColumns 35 = .ok (.laload, 1) := by decide +kernel
theorem d_S_mixColumns_36 : decode c_S_mixColumns 36 = .ok (.lxor, 1) := by decide +kernel
theorem d_S_mixColumns_37 : decode c_S_mixColumns 37 = .ok (.aload_n 0, 1) := by decide +kernel
theorem d_S_mixColumns_38 : decode c_S_mixColumns 38 = .ok (.getfield 9, 3) := by decide +kernel
theorem d_S_mixColumns_41 : decode c_S_mixColumns 41 = .ok (.iload_n 1, 1) := by decide +kernel
theorem d_S_mixColumns_42 : decode c_S_mixColumns 42 = .ok (.bipush 15, 2) := by decide +kernel
theorem d_S_mixColumns_44 : decode c_S_mixColumns 44 = .ok (.iadd, 1) := by decide +kernel
theorem d_S_mixColumns_45 : decode c_S_mixColumns 45 = .ok (.laload, 1) := by decide +kernel
theorem d_S_mixColumns_46 : decode c_S_mixColumns 46 = .ok (.lxor, 1) := by decide +kernel
theorem d_S_mixColumns_47 : decode c_S_mixColumns 47 = .ok (.aload_n 0, 1) := by decide +kernel
theorem d_S_mixColumns_48 : decode c_S_mixColumns 48 = .ok (.getfield 9, 3) := by decide +kernel
theorem d_S_mixColumns_51 : decode c_S_mixColumns 51 = .ok (.iload_n 1, 1) := by decide +kernel
theorem d_S_mixColumns_52 : decode c_S_mixColumns 52 = .ok (.bipush 20, 2) := by decide +kernel
theorem d_S_mixColumns_54 : decode c_S_mixColumns 54 = .ok (.iadd, 1) := by decide +kernel
theorem d_S_mixColumns_55 : decode c_S_mixColumns 55 = .ok (.laload, 1) := by decide +kernel
theorem d_S_mixColumns_56 : decode c_S_mixColumns 56 = .ok (.lxor, 1) := by decide +kernel
theorem d_S_mixColumns_57 : decode c_S_mixColumns 57 = .ok (.lastore, 1) := by decide +kernel
theorem d_S_mixColumns_58 : decode c_S_mixColumns 58 = .ok (.iinc 1 1, 3) := by decide +kernel
theorem d_S_mixColumns_61 : decode c_S_mixColumns 61 = .ok (.goto (-59), 3) := by decide +kernel
theorem d_S_mixColumns_64 : decode c_S_mixColumns 64 = .ok (.iconst 0, 1) := by decide +kernel
theorem d_S_mixColumns_65 : decode c_S_mixColumns 65 = .ok (.istore_n 1, 1) := by decide +kernel
theorem d_S_mixColumns_66 : decode c_S_mixColumns 66 = .ok (.iload_n 1, 1) := by decide +kernel
theorem d_S_mixColumns_67 : decode c_S_mixColumns 67 = .ok (.iconst 5, 1) := by decide +kernel
theorem d_S_mixColumns_68 : decode c_S_mixColumns 68 = .ok (.if_icmp .ge 62, 3) := by decide +kernel
theorem d_S_mixColumns_71 : decode c_S_mixColumns 71 = .ok (.aload_n 0, 1) := by decide +kernel
theorem d_S_mixColumns_72 : decode c_S_mixColumns 72 = .ok (.getfield 18, 3) := by decide +kernel
theorem d_S_mixColumns_75 : decode c_S_mixColumns 75 = .ok (.iload_n 1, 1) := by decide +kernel
theorem d_S_mixColumns_76 : decode c_S_mixColumns 76 = .ok (.iconst 4, 1) := by decide +kernel
theorem d_S_mixColumns_77 : decode c_S_mixColumns 77 = .ok (.iadd, 1) := by decide +kernel
theorem d_S_mixColumns_78 : decode c_S_mixColumns 78 = .ok (.iconst 5, 1) := by decide +kernel
theorem d_S_mixColumns_79 : decode c_S_mixColumns 79 = .ok (.irem, 1) := by decide +kernel
theorem d_S_mixColumns_80 : decode c_S_mixColumns 80 = .ok (.laload, 1) := by decide +kernel
theorem d_S_mixColumns_81 : decode c_S_mixColumns 81 = .ok (.aload_n 0, 1) := by decide +kernel
theorem d_S_mixColumns_82 : decode c_S_mixColumns 82 = .ok (.getfield 18, 3) := by decide +kernel
theorem d_S_mixColumns_85 : decode c_S_mixColumns 85 = .ok (.iload_n 1, 1) := by decide +kernel
theorem d_S_mixColumns_86 : decode c_S_mixColumns 86 = .ok (.iconst 1, 1) := by decide +kernel
theorem d_S_mixColumns_87 : decode c_S_mixColumns 87 = .ok (.iadd, 1) := by decide +kernel
theorem d_S_mixColumns_88 : decode c_S_mixColumns 88 = .ok (.iconst 5, 1) := by decide +kernel
theorem d_S_mixColumns_89 : decode c_S_mixColumns 89 = .ok (.irem, 1) := by decide +kernel
theorem d_S_mixColumns_90 : decode c_S_mixColumns 90 = .ok (.laload, 1) := by decide +kernel
theorem d_S_mixColumns_91 : decode c_S_mixColumns 91 = .ok (.iconst 1, 1) := by decide +kernel
theorem d_S_mixColumns_92 : decode c_S_mixColumns 92 = .ok (.invokestatic 70, 3) := by decide +kernel
theorem d_S_mixColumns_95 : decode c_S_mixColumns 95 = .ok (.lxor, 1) := by decide +kernel
theorem d_S_mixColumns_96 : decode c_S_mixColumns 96 = .ok (.lstore_n 2, 1) := by decide +kernel
theorem d_S_mixColumns_97 : decode c_S_mixColumns 97 = .ok (.iload_n 1, 1) := by decide +kernel
theorem d_S_mixColumns_98 : decode c_S_mixColumns 98 = .ok (.istore 4, 2) := by decide +kernel
theorem d_S_mixColumns_100 : decode c_S_mixColumns 100 = .ok (.iload 4, 2) := by decide +kernel
theorem d_S_mixColumns_102 : decode c_S_mixColumns 102 = .ok (.bipush 25, 2) := by decide +kernel
theorem d_S_mixColumns_104 : decode c_S_mixColumns 104 = .ok (.if_icmp .ge 20, 3) := by decide +kernel
theorem d_S_mixColumns_107 : decode c_S_mixColumns 107 = .ok (.aload_n 0, 1) := by decide +kernel
theorem d_S_mixColumns_108 : decode c_S_mixColumns 108 = .ok (.getfield 9, 3) := by decide +kernel
theorem d_S_mixColumns_111 : decode c_S_mixColumns 111 = .ok (.iload 4, 2) := by decide +kernel
theorem d_S_mixColumns_113 : decode c_S_mixColumns 113 = .ok (.dup2, 1) := by decide +kernel
theorem d_S_mixColumns_114 : decode c_S_mixColumns 114 = .ok (.laload, 1) := by decide +kernel
theorem d_S_mixColumns_115 : decode c_S_mixColumns 115 = .ok (.lload_n 2, 1) := by decide +kernel
theorem d_S_mixColumns_116 : decode c_S_mixColumns 116 = .ok (.lxor, 1) := by decide +kernel
theorem d_S_mixColumns_117 : decode c_S_mixColumns 117 = .ok (.lastore, 1) := by decide +kernel
theorem d_S_mixColumns_118 : decode c_S_mixColumns 118 = .ok (.iinc 4 5, 3) := by decide +kernel
theorem d_S_mixColumns_121 : decode c_S_mixColumns 121 = .ok (.goto (-21), 3) := by decide +kernel
theorem d_S_mixColumns_124 : decode c_S_mixColumns 124 = .ok (.iinc 1 1, 3) := by decide +kernel
theorem d_S_mixColumns_127 : decode c_S_mixColumns 127 = .ok (.goto (-61), 3) := by decide +kernel
theorem d_S_mixColumns_130 : decode c_S_mixColumns 130 = .ok (.return_, 1) := by decide +kernel
theorem d_S_turned_0 : decode c_S_turned 0 = .ok (.lload_n 0, 1) := by decide +kernel
theorem d_S_turned_1 : decode c_S_turned 1 = .ok (.iload_n 2, 1) := by decide +kernel
theorem d_S_turned_2 : decode c_S_turned 2 = .ok (.lshl, 1) := by decide +kernel
theorem d_S_turned_3 : decode c_S_turned 3 = .ok (.lload_n 0, 1) := by decide +kernel
theorem d_S_turned_4 : decode c_S_turned 4 = .ok (.bipush 64, 2) := by decide +kernel
theorem d_S_turned_6 : decode c_S_turned 6 = .ok (.iload_n 2, 1) := by decide +kernel
theorem d_S_turned_7 : decode c_S_turned 7 = .ok (.isub, 1) := by decide +kernel
theorem d_S_turned_8 : decode c_S_turned 8 = .ok (.lushr, 1) := by decide +kernel
theorem d_S_turned_9 : decode c_S_turned 9 = .ok (.lor, 1) := by decide +kernel
theorem d_S_turned_10 : decode c_S_turned 10 = .ok (.lreturn, 1) := by decide +kernel
theorem d_S_moveLanes_0 : decode c_S_moveLanes 0 = .ok (.iconst 0, 1) := by decide +kernel
theorem d_S_moveLanes_1 : decode c_S_moveLanes 1 = .ok (.istore_n 1, 1) := by decide +kernel
theorem d_S_moveLanes_2 : decode c_S_moveLanes 2 = .ok (.iload_n 1, 1) := by decide +kernel
theorem d_S_moveLanes_3 : decode c_S_moveLanes 3 = .ok (.bipush 25, 2) := by decide +kernel
theorem d_S_moveLanes_5 : decode c_S_moveLanes 5 = .ok (.if_icmp .ge 33, 3) := by decide +kernel
theorem d_S_moveLanes_8 : decode c_S_moveLanes 8 = .ok (.aload_n 0, 1) := by decide +kernel
theorem d_S_moveLanes_9 : decode c_S_moveLanes 9 = .ok (.getfield 15, 3) := by decide +kernel
theorem d_S_moveLanes_12 : decode c_S_moveLanes 12 = .ok (.getstatic 74, 3) := by decide +kernel
theorem d_S_moveLanes_15 : decode c_S_moveLanes 15 = .ok (.iload_n 1, 1) := by decide +kernel
theorem d_S_moveLanes_16 : decode c_S_moveLanes 16 = .ok (.iaload, 1) := by decide +kernel
theorem d_S_moveLanes_17 : decode c_S_moveLanes 17 = .ok (.aload_n 0, 1) := by decide +kernel
theorem d_S_moveLanes_18 : decode c_S_moveLanes 18 = .ok (.getfield 9, 3) := by decide +kernel
theorem d_S_moveLanes_21 : decode c_S_moveLanes 21 = .ok (.iload_n 1, 1) := by decide +kernel
theorem d_S_moveLanes_22 : decode c_S_moveLanes 22 = .ok (.laload, 1) := by decide +kernel
theorem d_S_moveLanes_23 : decode c_S_moveLanes 23 = .ok (.getstatic 78, 3) := by decide +kernel
theorem d_S_moveLanes_26 : decode c_S_moveLanes 26 = .ok (.iload_n 1, 1) := by decide +kernel
theorem d_S_moveLanes_27 : decode c_S_moveLanes 27 = .ok (.iaload, 1) := by decide +kernel
theorem d_S_moveLanes_28 : decode c_S_moveLanes 28 = .ok (.invokestatic 70, 3) := by decide +kernel
theorem d_S_moveLanes_31 : decode c_S_moveLanes 31 = .ok (.lastore, 1) := by decide +kernel
theorem d_S_moveLanes_32 : decode c_S_moveLanes 32 = .ok (.iinc 1 1, 3) := by decide +kernel
theorem d_S_moveLanes_35 : decode c_S_moveLanes 35 = .ok (.goto (-33), 3) := by decide +kernel
theorem d_S_moveLanes_38 : decode c_S_moveLanes 38 = .ok (.return_, 1) := by decide +kernel
theorem d_S_mixRows_0 : decode c_S_mixRows 0 = .ok (.iconst 0, 1) := by decide +kernel
theorem d_S_mixRows_1 : decode c_S_mixRows 1 = .ok (.istore_n 1, 1) := by decide +kernel
theorem d_S_mixRows_2 : decode c_S_mixRows 2 = .ok (.iload_n 1, 1) := by decide +kernel
theorem d_S_mixRows_3 : decode c_S_mixRows 3 = .ok (.bipush 25, 2) := by decide +kernel
theorem d_S_mixRows_5 : decode c_S_mixRows 5 = .ok (.if_icmp .ge 74, 3) := by decide +kernel
theorem d_S_mixRows_8 : decode c_S_mixRows 8 = .ok (.iconst 0, 1) := by decide +kernel
theorem d_S_mixRows_9 : decode c_S_mixRows 9 = .ok (.istore_n 2, 1) := by decide +kernel
theorem d_S_mixRows_10 : decode c_S_mixRows 10 = .ok (.iload_n 2, 1) := by decide +kernel
theorem d_S_mixRows_11 : decode c_S_mixRows 11 = .ok (.iconst 5, 1) := by decide +kernel
theorem d_S_mixRows_12 : decode c_S_mixRows 12 = .ok (.if_icmp .ge 61, 3) := by decide +kernel
theorem d_S_mixRows_15 : decode c_S_mixRows 15 = .ok (.aload_n 0, 1) := by decide +kernel
theorem d_S_mixRows_16 : decode c_S_mixRows 16 = .ok (.getfield 15, 3) := by decide +kernel
theorem d_S_mixRows_19 : decode c_S_mixRows 19 = .ok (.iload_n 1, 1) := by decide +kernel
theorem d_S_mixRows_20 : decode c_S_mixRows 20 = .ok (.iload_n 2, 1) := by decide +kernel
theorem d_S_mixRows_21 : decode c_S_mixRows 21 = .ok (.iconst 1, 1) := by decide +kernel
theorem d_S_mixRows_22 : decode c_S_mixRows 22 = .ok (.iadd, 1) := by decide +kernel
theorem d_S_mixRows_23 : decode c_S_mixRows 23 = .ok (.iconst 5, 1) := by decide +kernel
theorem d_S_mixRows_24 : decode c_S_mixRows 24 = .ok (.irem, 1) := by decide +kernel
theorem d_S_mixRows_25 : decode c_S_mixRows 25 = .ok (.iadd, 1) := by decide +kernel
theorem d_S_mixRows_26 : decode c_S_mixRows 26 = .ok (.laload, 1) := by decide +kernel
theorem d_S_mixRows_27 : decode c_S_mixRows 27 = .ok (.lstore_n 3, 1) := by decide +kernel
theorem d_S_mixRows_28 : decode c_S_mixRows 28 = .ok (.aload_n 0, 1) := by decide +kernel
theorem d_S_mixRows_29 : decode c_S_mixRows 29 = .ok (.getfield 15, 3) := by decide +kernel
theorem d_S_mixRows_32 : decode c_S_mixRows 32 = .ok (.iload_n 1, 1) := by decide +kernel
theorem d_S_mixRows_33 : decode c_S_mixRows 33 = .ok (.iload_n 2, 1) := by decide +kernel
theorem d_S_mixRows_34 : decode c_S_mixRows 34 = .ok (.iconst 2, 1) := by decide +kernel
theorem d_S_mixRows_35 : decode c_S_mixRows 35 = .ok (.iadd, 1) := by decide +kernel
theorem d_S_mixRows_36 : decode c_S_mixRows 36 = .ok (.iconst 5, 1) := by decide +kernel
theorem d_S_mixRows_37 : decode c_S_mixRows 37 = .ok (.irem, 1) := by decide +kernel
theorem d_S_mixRows_38 : decode c_S_mixRows 38 = .ok (.iadd, 1) := by decide +kernel
theorem d_S_mixRows_39 : decode c_S_mixRows 39 = .ok (.laload, 1) := by decide +kernel
theorem d_S_mixRows_40 : decode c_S_mixRows 40 = .ok (.lstore 5, 2) := by decide +kernel
theorem d_S_mixRows_42 : decode c_S_mixRows 42 = .ok (.aload_n 0, 1) := by decide +kernel
theorem d_S_mixRows_43 : decode c_S_mixRows 43 = .ok (.getfield 9, 3) := by decide +kernel
theorem d_S_mixRows_46 : decode c_S_mixRows 46 = .ok (.iload_n 1, 1) := by decide +kernel
theorem d_S_mixRows_47 : decode c_S_mixRows 47 = .ok (.iload_n 2, 1) := by decide +kernel
theorem d_S_mixRows_48 : decode c_S_mixRows 48 = .ok (.iadd, 1) := by decide +kernel
theorem d_S_mixRows_49 : decode c_S_mixRows 49 = .ok (.aload_n 0, 1) := by decide +kernel
theorem d_S_mixRows_50 : decode c_S_mixRows 50 = .ok (.getfield 15, 3) := by decide +kernel
theorem d_S_mixRows_53 : decode c_S_mixRows 53 = .ok (.iload_n 1, 1) := by decide +kernel
theorem d_S_mixRows_54 : decode c_S_mixRows 54 = .ok (.iload_n 2, 1) := by decide +kernel
theorem d_S_mixRows_55 : decode c_S_mixRows 55 = .ok (.iadd, 1) := by decide +kernel
theorem d_S_mixRows_56 : decode c_S_mixRows 56 = .ok (.laload, 1) := by decide +kernel
theorem d_S_mixRows_57 : decode c_S_mixRows 57 = .ok (.lload_n 3, 1) := by decide +kernel
theorem d_S_mixRows_58 : decode c_S_mixRows 58 = .ok (.ldc2_w 81, 3) := by decide +kernel
theorem d_S_mixRows_61 : decode c_S_mixRows 61 = .ok (.lxor, 1) := by decide +kernel
theorem d_S_mixRows_62 : decode c_S_mixRows 62 = .ok (.lload 5, 2) := by decide +kernel
theorem d_S_mixRows_64 : decode c_S_mixRows 64 = .ok (.land, 1) := by decide +kernel
theorem d_S_mixRows_65 : decode c_S_mixRows 65 = .ok (.lxor, 1) := by decide +kernel
theorem d_S_mixRows_66 : decode c_S_mixRows 66 = .ok (.lastore, 1) := by decide +kernel
theorem d_S_mixRows_67 : decode c_S_mixRows 67 = .ok (.iinc 2 1, 3) := by decide +kernel
theorem d_S_mixRows_70 : decode c_S_mixRows 70 = .ok (.goto (-60), 3) := by decide +kernel
theorem d_S_mixRows_73 : decode c_S_mixRows 73 = .ok (.iinc 1 5, 3) := by decide +kernel
theorem d_S_mixRows_76 : decode c_S_mixRows 76 = .ok (.goto (-74), 3) := by decide +kernel
theorem d_S_mixRows_79 : decode c_S_mixRows 79 = .ok (.return_, 1) := by decide +kernel
theorem d_S_longAt_0 : decode c_S_longAt 0 = .ok (.aload_n 0, 1) := by decide +kernel
theorem d_S_longAt_1 : decode c_S_longAt 1 = .ok (.getfield 9, 3) := by decide +kernel
theorem d_S_longAt_4 : decode c_S_longAt 4 = .ok (.iload_n 1, 1) := by decide +kernel
theorem d_S_longAt_5 : decode c_S_longAt 5 = .ok (.laload, 1) := by decide +kernel
theorem d_S_longAt_6 : decode c_S_longAt 6 = .ok (.lreturn, 1) := by decide +kernel
theorem d_S_pairAt_0 : decode c_S_pairAt 0 = .ok (.aload_n 0, 1) := by decide +kernel
theorem d_S_pairAt_1 : decode c_S_pairAt 1 = .ok (.getfield 9, 3) := by decide +kernel
theorem d_S_pairAt_4 : decode c_S_pairAt 4 = .ok (.iload_n 1, 1) := by decide +kernel
theorem d_S_pairAt_5 : decode c_S_pairAt 5 = .ok (.iconst 4, 1) := by decide +kernel
theorem d_S_pairAt_6 : decode c_S_pairAt 6 = .ok (.idiv, 1) := by decide +kernel
theorem d_S_pairAt_7 : decode c_S_pairAt 7 = .ok (.laload, 1) := by decide +kernel
theorem d_S_pairAt_8 : decode c_S_pairAt 8 = .ok (.bipush 16, 2) := by decide +kernel
theorem d_S_pairAt_10 : decode c_S_pairAt 10 = .ok (.iload_n 1, 1) := by decide +kernel
theorem d_S_pairAt_11 : decode c_S_pairAt 11 = .ok (.iconst 4, 1) := by decide +kernel
theorem d_S_pairAt_12 : decode c_S_pairAt 12 = .ok (.irem, 1) := by decide +kernel
theorem d_S_pairAt_13 : decode c_S_pairAt 13 = .ok (.imul, 1) := by decide +kernel
theorem d_S_pairAt_14 : decode c_S_pairAt 14 = .ok (.lushr, 1) := by decide +kernel
theorem d_S_pairAt_15 : decode c_S_pairAt 15 = .ok (.l2i, 1) := by decide +kernel
theorem d_S_pairAt_16 : decode c_S_pairAt 16 = .ok (.ldc 51, 2) := by decide +kernel
theorem d_S_pairAt_18 : decode c_S_pairAt 18 = .ok (.iand, 1) := by decide +kernel
theorem d_S_pairAt_19 : decode c_S_pairAt 19 = .ok (.ireturn, 1) := by decide +kernel
theorem d_S_ofByteAndLong_0 : decode c_S_ofByteAndLong 0 = .ok (.aload_n 0, 1) := by decide +kernel
theorem d_S_ofByteAndLong_1 : decode c_S_ofByteAndLong 1 = .ok (.invokevirtual 52, 3) := by decide +kernel
theorem d_S_ofByteAndLong_4 : decode c_S_ofByteAndLong 4 = .ok (.aload_n 0, 1) := by decide +kernel
theorem d_S_ofByteAndLong_5 : decode c_S_ofByteAndLong 5 = .ok (.iload_n 1, 1) := by decide +kernel
theorem d_S_ofByteAndLong_6 : decode c_S_ofByteAndLong 6 = .ok (.invokevirtual 33, 3) := by decide +kernel
theorem d_S_ofByteAndLong_9 : decode c_S_ofByteAndLong 9 = .ok (.aload_n 0, 1) := by decide +kernel
theorem d_S_ofByteAndLong_10 : decode c_S_ofByteAndLong 10 = .ok (.lload_n 2, 1) := by decide +kernel
theorem d_S_ofByteAndLong_11 : decode c_S_ofByteAndLong 11 = .ok (.bipush 8, 2) := by decide +kernel
theorem d_S_ofByteAndLong_13 : decode c_S_ofByteAndLong 13 = .ok (.invokevirtual 55, 3) := by decide +kernel
theorem d_S_ofByteAndLong_16 : decode c_S_ofByteAndLong 16 = .ok (.aload_n 0, 1) := by decide +kernel
theorem d_S_ofByteAndLong_17 : decode c_S_ofByteAndLong 17 = .ok (.invokevirtual 59, 3) := by decide +kernel
theorem d_S_ofByteAndLong_20 : decode c_S_ofByteAndLong 20 = .ok (.return_, 1) := by decide +kernel
theorem d_S_putRow_0 : decode c_S_putRow 0 = .ok (.iconst 0, 1) := by decide +kernel
theorem d_S_putRow_1 : decode c_S_putRow 1 = .ok (.istore_n 2, 1) := by decide +kernel
theorem d_S_putRow_2 : decode c_S_putRow 2 = .ok (.iload_n 2, 1) := by decide +kernel
theorem d_S_putRow_3 : decode c_S_putRow 3 = .ok (.aload_n 1, 1) := by decide +kernel
theorem d_S_putRow_4 : decode c_S_putRow 4 = .ok (.arraylength, 1) := by decide +kernel
theorem d_S_putRow_5 : decode c_S_putRow 5 = .ok (.if_icmp .ge 16, 3) := by decide +kernel
theorem d_S_putRow_8 : decode c_S_putRow 8 = .ok (.aload_n 0, 1) := by decide +kernel
theorem d_S_putRow_9 : decode c_S_putRow 9 = .ok (.aload_n 1, 1) := by decide +kernel
theorem d_S_putRow_10 : decode c_S_putRow 10 = .ok (.iload_n 2, 1) := by decide +kernel
theorem d_S_putRow_11 : decode c_S_putRow 11 = .ok (.iaload, 1) := by decide +kernel
theorem d_S_putRow_12 : decode c_S_putRow 12 = .ok (.invokevirtual 33, 3) := by decide +kernel
theorem d_S_putRow_15 : decode c_S_putRow 15 = .ok (.iinc 2 1, 3) := by decide +kernel
theorem d_S_putRow_18 : decode c_S_putRow 18 = .ok (.goto (-16), 3) := by decide +kernel
theorem d_S_putRow_21 : decode c_S_putRow 21 = .ok (.return_, 1) := by decide +kernel
theorem d_S_ofRowAndLong_0 : decode c_S_ofRowAndLong 0 = .ok (.aload_n 0, 1) := by decide +kernel
theorem d_S_ofRowAndLong_1 : decode c_S_ofRowAndLong 1 = .ok (.invokevirtual 52, 3) := by decide +kernel
theorem d_S_ofRowAndLong_4 : decode c_S_ofRowAndLong 4 = .ok (.aload_n 0, 1) := by decide +kernel
theorem d_S_ofRowAndLong_5 : decode c_S_ofRowAndLong 5 = .ok (.aload_n 1, 1) := by decide +kernel
theorem d_S_ofRowAndLong_6 : decode c_S_ofRowAndLong 6 = .ok (.invokevirtual 66, 3) := by decide +kernel
theorem d_S_ofRowAndLong_9 : decode c_S_ofRowAndLong 9 = .ok (.aload_n 0, 1) := by decide +kernel
theorem d_S_ofRowAndLong_10 : decode c_S_ofRowAndLong 10 = .ok (.lload_n 2, 1) := by decide +kernel
theorem d_S_ofRowAndLong_11 : decode c_S_ofRowAndLong 11 = .ok (.bipush 8, 2) := by decide +kernel
theorem d_S_ofRowAndLong_13 : decode c_S_ofRowAndLong 13 = .ok (.invokevirtual 55, 3) := by decide +kernel
theorem d_S_ofRowAndLong_16 : decode c_S_ofRowAndLong 16 = .ok (.aload_n 0, 1) := by decide +kernel
theorem d_S_ofRowAndLong_17 : decode c_S_ofRowAndLong 17 = .ok (.invokevirtual 59, 3) := by decide +kernel
theorem d_S_ofRowAndLong_20 : decode c_S_ofRowAndLong 20 = .ok (.aload_n 0, 1) := by decide +kernel
theorem d_S_ofRowAndLong_21 : decode c_S_ofRowAndLong 21 = .ok (.iconst 0, 1) := by decide +kernel
theorem d_S_ofRowAndLong_22 : decode c_S_ofRowAndLong 22 = .ok (.invokevirtual 62, 3) := by decide +kernel
theorem d_S_ofRowAndLong_25 : decode c_S_ofRowAndLong 25 = .ok (.lreturn, 1) := by decide +kernel
end DC
end
section
section DC
theorem d_M_init_0 : decode c_M_init 0 = .ok (.aload_n 0, 1) := by decide +kernel
theorem d_M_init_1 : decode c_M_init 1 = .ok (.invokespecial 3, 3) := by decide +kernel
theorem d_M_init_4 : decode c_M_init 4 = .ok (.aload_n 0, 1) := by decide +kernel
theorem d_M_init_5 : decode c_M_init 5 = .ok (.iload_n 1, 1) := by decide +kernel
theorem d_M_init_6 : decode c_M_init 6 = .ok (.putfield 9, 3) := by decide +kernel
theorem d_M_init_9 : decode c_M_init 9 = .ok (.aload_n 0, 1) := by decide +kernel
theorem d_M_init_10 : decode c_M_init 10 = .ok (.iload_n 2, 1) := by decide +kernel
theorem d_M_init_11 : decode c_M_init 11 = .ok (.putfield 15, 3) := by decide +kernel
theorem d_M_init_14 : decode c_M_init 14 = .ok (.aload_n 0, 1) := by decide +kernel
theorem d_M_init_15 : decode c_M_init 15 = .ok (.iload_n 1, 1) := by decide +kernel
theorem d_M_init_16 : decode c_M_init 16 = .ok (.iload_n 2, 1) := by decide +kernel
theorem d_M_init_17 : decode c_M_init 17 = .ok (.imul, 1) := by decide +kernel
theorem d_M_init_18 : decode c_M_init 18 = .ok (.newarray .int, 2) := by decide +kernel
theorem d_M_init_20 : decode c_M_init 20 = .ok (.putfield 18, 3) := by decide +kernel
theorem d_M_init_23 : decode c_M_init 23 = .ok (.return_, 1) := by decide +kernel
theorem d_M_put_0 : decode c_M_put 0 = .ok (.aload_n 0, 1) := by decide +kernel
theorem d_M_put_1 : decode c_M_put 1 = .ok (.getfield 18, 3) := by decide +kernel
theorem d_M_put_4 : decode c_M_put 4 = .ok (.iload_n 1, 1) := by decide +kernel
theorem d_M_put_5 : decode c_M_put 5 = .ok (.aload_n 0, 1) := by decide +kernel
theorem d_M_put_6 : decode c_M_put 6 = .ok (.getfield 15, 3) := by decide +kernel
theorem d_M_put_9 : decode c_M_put 9 = .ok (.imul, 1) := by decide +kernel
theorem d_M_put_10 : decode c_M_put 10 = .ok (.iload_n 2, 1) := by decide +kernel
theorem d_M_put_11 : decode c_M_put 11 = .ok (.iadd, 1) := by decide +kernel
theorem d_M_put_12 : decode c_M_put 12 = .ok (.iload_n 3, 1) := by decide +kernel
theorem d_M_put_13 : decode c_M_put 13 = .ok (.sipush 32767, 3) := by decide +kernel
theorem d_M_put_16 : decode c_M_put 16 = .ok (.iand, 1) := by decide +kernel
theorem d_M_put_17 : decode c_M_put 17 = .ok (.iastore, 1) := by decide +kernel
theorem d_M_put_18 : decode c_M_put 18 = .ok (.return_, 1) := by decide +kernel
theorem d_M_takeSamples_0 : decode c_M_takeSamples 0 = .ok (.iconst 0, 1) := by decide +kernel
theorem d_M_takeSamples_1 : decode c_M_takeSamples 1 = .ok (.istore_n 3, 1) := by decide +kernel
theorem d_M_takeSamples_2 : decode c_M_takeSamples 2 = .ok (.iload_n 3, 1) := by decide +kernel
theorem d_M_takeSamples_3 : decode c_M_takeSamples 3 = .ok (.aload_n 0, 1) := by decide +kernel
theorem d_M_takeSamples_4 : decode c_M_takeSamples 4 = .ok (.getfield 18, 3) := by decide +kernel
theorem d_M_takeSamples_7 : decode c_M_takeSamples 7 = .ok (.arraylength, 1) := by decide +kernel
theorem d_M_takeSamples_8 : decode c_M_takeSamples 8 = .ok (.if_icmp .ge 29, 3) := by decide +kernel
theorem d_M_takeSamples_11 : decode c_M_takeSamples 11 = .ok (.aload_n 0, 1) := by decide +kernel
theorem d_M_takeSamples_12 : decode c_M_takeSamples 12 = .ok (.getfield 18, 3) := by decide +kernel
theorem d_M_takeSamples_15 : decode c_M_takeSamples 15 = .ok (.iload_n 3, 1) := by decide +kernel
theorem d_M_takeSamples_16 : decode c_M_takeSamples 16 = .ok (.aload_n 1, 1) := by decide +kernel
theorem d_M_takeSamples_17 : decode c_M_takeSamples 17 = .ok (.iload_n 2, 1) := by decide +kernel
theorem d_M_takeSamples_18 : decode c_M_takeSamples 18 = .ok (.iload_n 3, 1) := by decide +kernel
theorem d_M_takeSamples_19 : decode c_M_takeSamples 19 = .ok (.iadd, 1) := by decide +kernel
theorem d_M_takeSamples_20 : decode c_M_takeSamples 20 = .ok (.invokevirtual 22, 3) := by decide +kernel
theorem d_M_takeSamples_23 : decode c_M_takeSamples 23 = .ok (.invokestatic 28, 3) := by decide +kernel
theorem d_M_takeSamples_26 : decode c_M_takeSamples 26 = .ok (.sipush 32767, 3) := by decide +kernel
theorem d_M_takeSamples_29 : decode c_M_takeSamples 29 = .ok (.iand, 1) := by decide +kernel
theorem d_M_takeSamples_30 : decode c_M_takeSamples 30 = .ok (.iastore, 1) := by decide +kernel
theorem d_M_takeSamples_31 : decode c_M_takeSamples 31 = .ok (.iinc 3 1, 3) := by decide +kernel
theorem d_M_takeSamples_34 : decode c_M_takeSamples 34 = .ok (.goto (-32), 3) := by decide +kernel
theorem d_M_takeSamples_37 : decode c_M_takeSamples 37 = .ok (.return_, 1) := by decide +kernel
theorem d_M_sampleOf_0 : decode c_M_sampleOf 0 = .ok (.iconst 0, 1) := by decide +kernel
theorem d_M_sampleOf_1 : decode c_M_sampleOf 1 = .ok (.istore_n 1, 1) := by decide +kernel
theorem d_M_sampleOf_2 : decode c_M_sampleOf 2 = .ok (.iconst 0, 1) := by decide +kernel
theorem d_M_sampleOf_3 : decode c_M_sampleOf 3 = .ok (.istore_n 2, 1) := by decide +kernel
theorem d_M_sampleOf_4 : decode c_M_sampleOf 4 = .ok (.iload_n 2, 1) := by decide +kernel
theorem d_M_sampleOf_5 : decode c_M_sampleOf 5 = .ok (.getstatic 31, 3) := by decide +kernel
theorem d_M_sampleOf_8 : decode c_M_sampleOf 8 = .ok (.arraylength, 1) := by decide +kernel
theorem d_M_sampleOf_9 : decode c_M_sampleOf 9 = .ok (.if_icmp .ge 23, 3) := by decide +kernel
theorem d_M_sampleOf_12 : decode c_M_sampleOf 12 = .ok (.getstatic 31, 3) := by decide +kernel
theorem d_M_sampleOf_15 : decode c_M_sampleOf 15 = .ok (.iload_n 2, 1) := by decide +kernel
theorem d_M_sampleOf_16 : decode c_M_sampleOf 16 = .ok (.iaload, 1) := by decide +kernel
theorem d_M_sampleOf_17 : decode c_M_sampleOf 17 = .ok (.iload_n 0, 1) := by decide +kernel
theorem d_M_sampleOf_18 : decode c_M_sampleOf 18 = .ok (.iconst 2, 1) := by decide +kernel
theorem d_M_sampleOf_19 : decode c_M_sampleOf 19 = .ok (.idiv, 1) := by decide +kernel
theorem d_M_sampleOf_20 : decode c_M_sampleOf 20 = .ok (.if_icmp .ge 6, 3) := by decide +kernel
theorem d_M_sampleOf_23 : decode c_M_sampleOf 23 = .ok (.iinc 1 1, 3) := by decide +kernel
theorem d_M_sampleOf_26 : decode c_M_sampleOf 26 = .ok (.iinc 2 1, 3) := by decide +kernel
theorem d_M_sampleOf_29 : decode c_M_sampleOf 29 = .ok (.goto (-25), 3) := by decide +kernel
theorem d_M_sampleOf_32 : decode c_M_sampleOf 32 = .ok (.iload_n 0, 1) := by decide +kernel
theorem d_M_sampleOf_33 : decode c_M_sampleOf 33 = .ok (.iconst 2, 1) := by decide +kernel
theorem d_M_sampleOf_34 : decode c_M_sampleOf 34 = .ok (.irem, 1) := by decide +kernel
theorem d_M_sampleOf_35 : decode c_M_sampleOf 35 = .ok (.ifCond .ne 7, 3) := by decide +kernel
theorem d_M_sampleOf_38 : decode c_M_sampleOf 38 = .ok (.iload_n 1, 1) := by decide +kernel
theorem d_M_sampleOf_39 : decode c_M_sampleOf 39 = .ok (.goto 5, 3) := by decide +kernel
theorem d_M_sampleOf_42 : decode c_M_sampleOf 42 = .ok (.iload_n 1, 1) := by decide +kernel
theorem d_M_sampleOf_43 : decode c_M_sampleOf 43 = .ok (.ineg, 1) := by decide +kernel
theorem d_M_sampleOf_44 : decode c_M_sampleOf 44 = .ok (.ireturn, 1) := by decide +kernel
theorem d_M_takeSumWithProduct_0 : decode c_M_takeSumWithProduct 0 = .ok (.iconst 0, 1) := by decide +kernel
theorem d_M_takeSumWithProduct_1 : decode c_M_takeSumWithProduct 1 = .ok (.istore 5, 2) := by decide +kernel
theorem d_M_takeSumWithProduct_3 : decode c_M_takeSumWithProduct 3 = .ok (.iload 5, 2) := by decide +kernel
theorem d_M_takeSumWithProduct_5 : decode c_M_takeSumWithProduct 5 = .ok (.aload_n 0, 1) := by decide +kernel
theorem d_M_takeSumWithProduct_6 : decode c_M_takeSumWithProduct 6 = .ok (.getfield 9, 3) := by decide +kernel
theorem d_M_takeSumWithProduct_9 : decode c_M_takeSumWithProduct 9 = .ok (.if_icmp .ge 92, 3) := by decide +kernel
theorem d_M_takeSumWithProduct_12 : decode c_M_takeSumWithProduct 12 = .ok (.iconst 0, 1) := by decide +kernel
theorem d_M_takeSumWithProduct_13 : decode c_M_takeSumWithProduct 13 = .ok (.istore 6, 2) := by decide +kernel
theorem d_M_takeSumWithProduct_15 : decode c_M_takeSumWithProduct 15 = .ok (.iload 6, 2) := by decide +kernel
theorem d_M_takeSumWithProduct_17 : decode c_M_takeSumWithProduct 17 = .ok (.aload_n 0, 1) := by decide +kernel
theorem d_M_takeSumWithProduct_18 : decode c_M_takeSumWithProduct 18 = .ok (.getfield 15, 3) := by decide +kernel
theorem d_M_takeSumWithProduct_21 : decode c_M_takeSumWithProduct 21 = .ok (.if_icmp .ge 74, 3) := by decide +kernel
theorem d_M_takeSumWithProduct_24 : decode c_M_takeSumWithProduct 24 = .ok (.iconst 0, 1) := by decide +kernel
theorem d_M_takeSumWithProduct_25 : decode c_M_takeSumWithProduct 25 = .ok (.istore 7, 2) := by decide +kernel
theorem d_M_takeSumWithProduct_27 : decode c_M_takeSumWithProduct 27 = .ok (.iconst 0, 1) := by decide +kernel
theorem d_M_takeSumWithProduct_28 : decode c_M_takeSumWithProduct 28 = .ok (.istore 8, 2) := by decide +kernel
theorem d_M_takeSumWithProduct_30 : decode c_M_takeSumWithProduct 30 = .ok (.iload 8, 2) := by decide +kernel
theorem d_M_takeSumWithProduct_32 : decode c_M_takeSumWithProduct 32 = .ok (.aload_n 3, 1) := by decide +kernel
theorem d_M_takeSumWithProduct_33 : decode c_M_takeSumWithProduct 33 = .ok (.getfield 15, 3) := by decide +kernel
theorem d_M_takeSumWithProduct_36 : decode c_M_takeSumWithProduct 36 = .ok (.if_icmp .ge 32, 3) := by decide +kernel
theorem d_M_takeSumWithProduct_39 : decode c_M_takeSumWithProduct 39 = .ok (.iload 7, 2) := by decide +kernel
theorem d_M_takeSumWithProduct_41 : decode c_M_takeSumWithProduct 41 = .ok (.aload_n 3, 1) := by decide +kernel
theorem d_M_takeSumWithProduct_42 : decode c_M_takeSumWithProduct 42 = .ok (.iload 5, 2) := by decide +kernel
theorem d_M_takeSumWithProduct_44 : decode c_M_takeSumWithProduct 44 = .ok (.iload 8, 2) := by decide +kernel
theorem d_M_takeSumWithProduct_46 : decode c_M_takeSumWithProduct 46 = .ok (.invokevirtual 34, 3) := by decide +kernel
theorem d_M_takeSumWithProduct_49 : decode c_M_takeSumWithProduct 49 = .ok (.aload 4, 2) := by decide +kernel
theorem d_M_takeSumWithProduct_51 : decode c_M_takeSumWithProduct 51 = .ok (.iload 8, 2) := by decide +kernel
theorem d_M_takeSumWithProduct_53 : decode c_M_takeSumWithProduct 53 = .ok (.iload 6, 2) := by decide +kernel
theorem d_M_takeSumWithProduct_55 : decode c_M_takeSumWithProduct 55 = .ok (.invokevirtual 34, 3) := by decide +kernel
theorem d_M_takeSumWithProduct_58 : decode c_M_takeSumWithProduct 58 = .ok (.imul, 1) := by decide +kernel
theorem d_M_takeSumWithProduct_59 : decode c_M_takeSumWithProduct 59 = .ok (.iadd, 1) := by decide +kernel
theorem d_M_takeSumWithProduct_60 : decode c_M_takeSumWithProduct 60 = .ok (.istore 7, 2) := by decide +kernel
theorem d_M_takeSumWithProduct_62 : decode c_M_takeSumWithProduct 62 = .ok (.iinc 8 1, 3) := by decide +kernel
theorem d_M_takeSumWithProduct_65 : decode c_M_takeSumWithProduct 65 = .ok (.goto (-35), 3) := by decide +kernel
theorem d_M_takeSumWithProduct_68 : decode c_M_takeSumWithProduct 68 = .ok (.aload_n 0, 1) := by decide +kernel
theorem d_M_takeSumWithProduct_69 : decode c_M_takeSumWithProduct 69 = .ok (.iload 5, 2) := by decide +kernel
theorem d_M_takeSumWithProduct_71 : decode c_M_takeSumWithProduct 71 = .ok (.iload 6, 2) := by decide +kernel
theorem d_M_takeSumWithProduct_73 : decode c_M_takeSumWithProduct 73 = .ok (.aload_n 1, 1) := by decide +kernel
theorem d_M_takeSumWithProduct_74 : decode c_M_takeSumWithProduct 74 = .ok (.iload 5, 2) := by decide +kernel
theorem d_M_takeSumWithProduct_76 : decode c_M_takeSumWithProduct 76 = .ok (.iload 6, 2) := by decide +kernel
theorem d_M_takeSumWithProduct_78 : decode c_M_takeSumWithProduct 78 = .ok (.invokevirtual 34, 3) := by decide +kernel
theorem d_M_takeSumWithProduct_81 : decode c_M_takeSumWithProduct 81 = .ok (.iload_n 2, 1) := by decide +kernel
theorem d_M_takeSumWithProduct_82 : decode c_M_takeSumWithProduct 82 = .ok (.iload 7, 2) := by decide +kernel
theorem d_M_takeSumWithProduct_84 : decode c_M_takeSumWithProduct 84 = .ok (.imul, 1) := by decide +kernel
theorem d_M_takeSumWithProduct_85 : decode c_M_takeSumWithProduct 85 = .ok (.iadd, 1) := by decide +kernel
theorem d_M_takeSumWithProduct_86 : decode c_M_takeSumWithProduct 86 = .ok (.invokevirtual 38, 3) := by decide +kernel
theorem d_M_takeSumWithProduct_89 : decode c_M_takeSumWithProduct 89 = .ok (.iinc 6 1, 3) := by decide +kernel
theorem d_M_takeSumWithProduct_92 : decode c_M_takeSumWithProduct 92 = .ok (.goto (-77), 3) := by decide +kernel
theorem d_M_takeSumWithProduct_95 : decode c_M_takeSumWithProduct 95 = .ok (.iinc 5 1, 3) := by decide +kernel
theorem d_M_takeSumWithProduct_98 : decode c_M_takeSumWithProduct 98 = .ok (.goto (-95), 3) := by decide +kernel
theorem d_M_takeSumWithProduct_101 : decode c_M_takeSumWithProduct 101 = .ok (.return_, 1) := by decide +kernel
theorem d_M_at_0 : decode c_M_at 0 = .ok (.aload_n 0, 1) := by decide +kernel
theorem d_M_at_1 : decode c_M_at 1 = .ok (.getfield 18, 3) := by decide +kernel
theorem d_M_at_4 : decode c_M_at 4 = .ok (.iload_n 1, 1) := by decide +kernel
theorem d_M_at_5 : decode c_M_at 5 = .ok (.aload_n 0, 1) := by decide +kernel
theorem d_M_at_6 : decode c_M_at 6 = .ok (.getfield 15, 3) := by decide +kernel
theorem d_M_at_9 : decode c_M_at 9 = .ok (.imul, 1) := by decide +kernel
theorem d_M_at_10 : decode c_M_at 10 = .ok (.iload_n 2, 1) := by decide +kernel
theorem d_M_at_11 : decode c_M_at 11 = .ok (.iadd, 1) := by decide +kernel
theorem d_M_at_12 : decode c_M_at 12 = .ok (.iaload, 1) := by decide +kernel
theorem d_M_at_13 : decode c_M_at 13 = .ok (.ireturn, 1) := by decide +kernel
theorem d_M_packInto_0 : decode c_M_packInto 0 = .ok (.iconst 0, 1) := by decide +kernel
theorem d_M_packInto_1 : decode c_M_packInto 1 = .ok (.istore_n 3, 1) := by decide +kernel
theorem d_M_packInto_2 : decode c_M_packInto 2 = .ok (.iconst 0, 1) := by decide +kernel
theorem d_M_packInto_3 : decode c_M_packInto 3 = .ok (.istore 4, 2) := by decide +kernel
theorem d_M_packInto_5 : decode c_M_packInto 5 = .ok (.iload_n 2, 1) := by decide +kernel
theorem d_M_packInto_6 : decode c_M_packInto 6 = .ok (.istore 5, 2) := by decide +kernel
theorem d_M_packInto_8 : decode c_M_packInto 8 = .ok (.iconst 0, 1) := by decide +kernel
theorem d_M_packInto_9 : decode c_M_packInto 9 = .ok (.istore 6, 2) := by decide +kernel
theorem d_M_packInto_11 : decode c_M_packInto 11 = .ok (.iload 6, 2) := by decide +kernel
theorem d_M_packInto_13 : decode c_M_packInto 13 = .ok (.aload_n 0, 1) := by decide +kernel
theorem d_M_packInto_14 : decode c_M_packInto 14 = .ok (.getfield 18, 3) := by decide +kernel
theorem d_M_packInto_17 : decode c_M_packInto 17 = .ok (.arraylength, 1) := by decide +kernel
theorem d_M_packInto_18 : decode c_M_packInto 18 = .ok (.if_icmp .ge 53, 3) := by decide +kernel
theorem d_M_packInto_21 : decode c_M_packInto 21 = .ok (.iload_n 3, 1) := by decide +kernel
theorem d_M_packInto_22 : decode c_M_packInto 22 = .ok (.bipush 15, 2) := by decide +kernel
theorem d_M_packInto_24 : decode c_M_packInto 24 = .ok (.ishl, 1) := by decide +kernel
theorem d_M_packInto_25 : decode c_M_packInto 25 = .ok (.aload_n 0, 1) := by decide +kernel
theorem d_M_packInto_26 : decode c_M_packInto 26 = .ok (.getfield 18, 3) := by decide +kernel
theorem d_M_packInto_29 : decode c_M_packInto 29 = .ok (.iload 6, 2) := by decide +kernel
theorem d_M_packInto_31 : decode c_M_packInto 31 = .ok (.iaload, 1) := by decide +kernel
theorem d_M_packInto_32 : decode c_M_packInto 32 = .ok (.ior, 1) := by decide +kernel
theorem d_M_packInto_33 : decode c_M_packInto 33 = .ok (.istore_n 3, 1) := by decide +kernel
theorem d_M_packInto_34 : decode c_M_packInto 34 = .ok (.iinc 4 15, 3) := by decide +kernel
theorem d_M_packInto_37 : decode c_M_packInto 37 = .ok (.iload 4, 2) := by decide +kernel
theorem d_M_packInto_39 : decode c_M_packInto 39 = .ok (.bipush 8, 2) := by decide +kernel
theorem d_M_packInto_41 : decode c_M_packInto 41 = .ok (.if_icmp .lt 24, 3) := by decide +kernel
theorem d_M_packInto_44 : decode c_M_packInto 44 = .ok (.iinc 4 (-8), 3) := by decide +kernel
theorem d_M_packInto_47 : decode c_M_packInto 47 = .ok (.aload_n 1, 1) := by decide +kernel
theorem d_M_packInto_48 : decode c_M_packInto 48 = .ok (.iload 5, 2) := by decide +kernel
theorem d_M_packInto_50 : decode c_M_packInto 50 = .ok (.iload_n 3, 1) := by decide +kernel
theorem d_M_packInto_51 : decode c_M_packInto 51 = .ok (.iload 4, 2) := by decide +kernel
theorem d_M_packInto_53 : decode c_M_packInto 53 = .ok (.iushr, 1) := by decide +kernel
theorem d_M_packInto_54 : decode c_M_packInto 54 = .ok (.sipush 255, 3) := by decide +kernel
theorem d_M_packInto_57 : decode c_M_packInto 57 = .ok (.iand, 1) := by decide +kernel
theorem d_M_packInto_58 : decode c_M_packInto 58 = .ok (.iastore, 1) := by decide +kernel
theorem d_M_packInto_59 : decode c_M_packInto 59 = .ok (.iinc 5 1, 3) := by decide +kernel
theorem d_M_packInto_62 : decode c_M_packInto 62 = .ok (.goto (-25), 3) := by decide +kernel
theorem d_M_packInto_65 : decode c_M_packInto 65 = .ok (.iinc 6 1, 3) := by decide +kernel
theorem d_M_packInto_68 : decode c_M_packInto 68 = .ok (.goto (-57), 3) := by decide +kernel
theorem d_M_packInto_71 : decode c_M_packInto 71 = .ok (.return_, 1) := by decide +kernel
theorem d_M_unpackFrom_0 : decode c_M_unpackFrom 0 = .ok (.iconst 0, 1) := by decide +kernel
theorem d_M_unpackFrom_1 : decode c_M_unpackFrom 1 = .ok (.istore_n 3, 1) := by decide +kernel
theorem d_M_unpackFrom_2 : decode c_M_unpackFrom 2 = .ok (.iconst 0, 1) := by decide +kernel
theorem d_M_unpackFrom_3 : decode c_M_unpackFrom 3 = .ok (.istore 4, 2) := by decide +kernel
theorem d_M_unpackFrom_5 : decode c_M_unpackFrom 5 = .ok (.iload_n 2, 1) := by decide +kernel
theorem d_M_unpackFrom_6 : decode c_M_unpackFrom 6 = .ok (.istore 5, 2) := by decide +kernel
theorem d_M_unpackFrom_8 : decode c_M_unpackFrom 8 = .ok (.iconst 0, 1) := by decide +kernel
theorem d_M_unpackFrom_9 : decode c_M_unpackFrom 9 = .ok (.istore 6, 2) := by decide +kernel
theorem d_M_unpackFrom_11 : decode c_M_unpackFrom 11 = .ok (.iload 6, 2) := by decide +kernel
theorem d_M_unpackFrom_13 : decode c_M_unpackFrom 13 = .ok (.aload_n 0, 1) := by decide +kernel
theorem d_M_unpackFrom_14 : decode c_M_unpackFrom 14 = .ok (.getfield 18, 3) := by decide +kernel
theorem d_M_unpackFrom_17 : decode c_M_unpackFrom 17 = .ok (.arraylength, 1) := by decide +kernel
theorem d_M_unpackFrom_18 : decode c_M_unpackFrom 18 = .ok (.if_icmp .ge 53, 3) := by decide +kernel
theorem d_M_unpackFrom_21 : decode c_M_unpackFrom 21 = .ok (.iload 4, 2) := by decide +kernel
theorem d_M_unpackFrom_23 : decode c_M_unpackFrom 23 = .ok (.bipush 15, 2) := by decide +kernel
theorem d_M_unpackFrom_25 : decode c_M_unpackFrom 25 = .ok (.if_icmp .ge 22, 3) := by decide +kernel
theorem d_M_unpackFrom_28 : decode c_M_unpackFrom 28 = .ok (.iload_n 3, 1) := by decide +kernel
theorem d_M_unpackFrom_29 : decode c_M_unpackFrom 29 = .ok (.bipush 8, 2) := by decide +kernel
theorem d_M_unpackFrom_31 : decode c_M_unpackFrom 31 = .ok (.ishl, 1) := by decide +kernel
theorem d_M_unpackFrom_32 : decode c_M_unpackFrom 32 = .ok (.aload_n 1, 1) := by decide +kernel
theorem d_M_unpackFrom_33 : decode c_M_unpackFrom 33 = .ok (.iload 5, 2) := by decide +kernel
theorem d_M_unpackFrom_35 : decode c_M_unpackFrom 35 = .ok (.iaload, 1) := by decide +kernel
theorem d_M_unpackFrom_36 : decode c_M_unpackFrom 36 = .ok (.ior, 1) := by decide +kernel
theorem d_M_unpackFrom_37 : decode c_M_unpackFrom 37 = .ok (.istore_n 3, 1) := by decide +kernel
theorem d_M_unpackFrom_38 : decode c_M_unpackFrom 38 = .ok (.iinc 5 1, 3) := by decide +kernel
theorem d_M_unpackFrom_41 : decode c_M_unpackFrom 41 = .ok (.iinc 4 8, 3) := by decide +kernel
theorem d_M_unpackFrom_44 : decode c_M_unpackFrom 44 = .ok (.goto (-23), 3) := by decide +kernel
theorem d_M_unpackFrom_47 : decode c_M_unpackFrom 47 = .ok (.iinc 4 (-15), 3) := by decide +kernel
theorem d_M_unpackFrom_50 : decode c_M_unpackFrom 50 = .ok (.aload_n 0, 1) := by decide +kernel
theorem d_M_unpackFrom_51 : decode c_M_unpackFrom 51 = .ok (.getfield 18, 3) := by decide +kernel
theorem d_M_unpackFrom_54 : decode c_M_unpackFrom 54 = .ok (.iload 6, 2) := by decide +kernel
theorem d_M_unpackFrom_56 : decode c_M_unpackFrom 56 = .ok (.iload_n 3, 1) := by decide +kernel
theorem d_M_unpackFrom_57 : decode c_M_unpackFrom 57 = .ok (.iload 4, 2) := by decide +kernel
theorem d_M_unpackFrom_59 : decode c_M_unpackFrom 59 = .ok (.iushr, 1) := by decide +kernel
theorem d_M_unpackFrom_60 : decode c_M_unpackFrom 60 = .ok (.sipush 32767, 3) := by decide +kernel
theorem d_M_unpackFrom_63 : decode c_M_unpackFrom 63 = .ok (.iand, 1) := by decide +kernel
theorem d_M_unpackFrom_64 : decode c_M_unpackFrom 64 = .ok (.iastore, 1) := by decide +kernel
theorem d_M_unpackFrom_65 : decode c_M_unpackFrom 65 = .ok (.iinc 6 1, 3) := by decide +kernel
theorem d_M_unpackFrom_68 : decode c_M_unpackFrom 68 = .ok (.goto (-57), 3) := by decide +kernel
theorem d_M_unpackFrom_71 : decode c_M_unpackFrom 71 = .ok (.return_, 1) := by decide +kernel
theorem d_M_has_0 : decode c_M_has 0 = .ok (.iload_n 1, 1) := by decide +kernel
theorem d_M_has_1 : decode c_M_has 1 = .ok (.ifCond .lt 27, 3) := by decide +kernel
theorem d_M_has_4 : decode c_M_has 4 = .ok (.iload_n 1, 1) := by decide +kernel
theorem d_M_has_5 : decode c_M_has 5 = .ok (.aload_n 0, 1) := by decide +kernel
theorem d_M_has_6 : decode c_M_has 6 = .ok (.getfield 9, 3) := by decide +kernel
theorem d_M_has_9 : decode c_M_has 9 = .ok (.if_icmp .ge 19, 3) := by decide +kernel
theorem d_M_has_12 : decode c_M_has 12 = .ok (.iload_n 2, 1) := by decide +kernel
theorem d_M_has_13 : decode c_M_has 13 = .ok (.ifCond .lt 15, 3) := by decide +kernel
theorem d_M_has_16 : decode c_M_has 16 = .ok (.iload_n 2, 1) := by decide +kernel
theorem d_M_has_17 : decode c_M_has 17 = .ok (.aload_n 0, 1) := by decide +kernel
theorem d_M_has_18 : decode c_M_has 18 = .ok (.getfield 15, 3) := by decide +kernel
theorem d_M_has_21 : decode c_M_has 21 = .ok (.if_icmp .ge 7, 3) := by decide +kernel
theorem d_M_has_24 : decode c_M_has 24 = .ok (.iconst 1, 1) := by decide +kernel
theorem d_M_has_25 : decode c_M_has 25 = .ok (.goto 4, 3) := by decide +kernel
theorem d_M_has_28 : decode c_M_has 28 = .ok (.iconst 0, 1) := by decide +kernel
theorem d_M_has_29 : decode c_M_has 29 = .ok (.ireturn, 1) := by decide +kernel
end DC
end
section
section DC
theorem d_D_init_0 : decode c_D_init 0 = .ok (.aload_n 0, 1) := by decide +kernel
theorem d_D_init_1 : decode c_D_init 1 = .ok (.invokespecial 3, 3) := by decide +kernel
theorem d_D_init_4 : decode c_D_init 4 = .ok (.aload_n 0, 1) := by decide +kernel
theorem d_D_init_5 : decode c_D_init 5 = .ok (.new 9, 3) := by decide +kernel
theorem d_D_init_8 : decode c_D_init 8 = .ok (.dup, 1) := by decide +kernel
theorem d_D_init_9 : decode c_D_init 9 = .ok (.invokespecial 11, 3) := by decide +kernel
theorem d_D_init_12 : decode c_D_init 12 = .ok (.putfield 12, 3) := by decide +kernel
theorem d_D_init_15 : decode c_D_init 15 = .ok (.aload_n 0, 1) := by decide +kernel
theorem d_D_init_16 : decode c_D_init 16 = .ok (.new 18, 3) := by decide +kernel
theorem d_D_init_19 : decode c_D_init 19 = .ok (.dup, 1) := by decide +kernel
theorem d_D_init_20 : decode c_D_init 20 = .ok (.iconst 4, 1) := by decide +kernel
theorem d_D_init_21 : decode c_D_init 21 = .ok (.bipush 8, 2) := by decide +kernel
theorem d_D_init_23 : decode c_D_init 23 = .ok (.invokespecial 20, 3) := by decide +kernel
theorem d_D_init_26 : decode c_D_init 26 = .ok (.putfield 23, 3) := by decide +kernel
theorem d_D_init_29 : decode c_D_init 29 = .ok (.aload_n 0, 1) := by decide +kernel
theorem d_D_init_30 : decode c_D_init 30 = .ok (.new 18, 3) := by decide +kernel
theorem d_D_init_33 : decode c_D_init 33 = .ok (.dup, 1) := by decide +kernel
theorem d_D_init_34 : decode c_D_init 34 = .ok (.iconst 4, 1) := by decide +kernel
theorem d_D_init_35 : decode c_D_init 35 = .ok (.bipush 8, 2) := by decide +kernel
theorem d_D_init_37 : decode c_D_init 37 = .ok (.invokespecial 20, 3) := by decide +kernel
theorem d_D_init_40 : decode c_D_init 40 = .ok (.putfield 27, 3) := by decide +kernel
theorem d_D_init_43 : decode c_D_init 43 = .ok (.aload_n 0, 1) := by decide +kernel
theorem d_D_init_44 : decode c_D_init 44 = .ok (.new 18, 3) := by decide +kernel
theorem d_D_init_47 : decode c_D_init 47 = .ok (.dup, 1) := by decide +kernel
theorem d_D_init_48 : decode c_D_init 48 = .ok (.iconst 4, 1) := by decide +kernel
theorem d_D_init_49 : decode c_D_init 49 = .ok (.iconst 4, 1) := by decide +kernel
theorem d_D_init_50 : decode c_D_init 50 = .ok (.invokespecial 20, 3) := by decide +kernel
theorem d_D_init_53 : decode c_D_init 53 = .ok (.putfield 30, 3) := by decide +kernel
theorem d_D_init_56 : decode c_D_init 56 = .ok (.aload_n 0, 1) := by decide +kernel
theorem d_D_init_57 : decode c_D_init 57 = .ok (.new 18, 3) := by decide +kernel
theorem d_D_init_60 : decode c_D_init 60 = .ok (.dup, 1) := by decide +kernel
theorem d_D_init_61 : decode c_D_init 61 = .ok (.iconst 4, 1) := by decide +kernel
theorem d_D_init_62 : decode c_D_init 62 = .ok (.bipush 8, 2) := by decide +kernel
theorem d_D_init_64 : decode c_D_init 64 = .ok (.invokespecial 20, 3) := by decide +kernel
theorem d_D_init_67 : decode c_D_init 67 = .ok (.putfield 33, 3) := by decide +kernel
theorem d_D_init_70 : decode c_D_init 70 = .ok (.aload_n 0, 1) := by decide +kernel
theorem d_D_init_71 : decode c_D_init 71 = .ok (.new 18, 3) := by decide +kernel
theorem d_D_init_74 : decode c_D_init 74 = .ok (.dup, 1) := by decide +kernel
theorem d_D_init_75 : decode c_D_init 75 = .ok (.iconst 4, 1) := by decide +kernel
theorem d_D_init_76 : decode c_D_init 76 = .ok (.iconst 4, 1) := by decide +kernel
theorem d_D_init_77 : decode c_D_init 77 = .ok (.invokespecial 20, 3) := by decide +kernel
theorem d_D_init_80 : decode c_D_init 80 = .ok (.putfield 36, 3) := by decide +kernel
theorem d_D_init_83 : decode c_D_init 83 = .ok (.aload_n 0, 1) := by decide +kernel
theorem d_D_init_84 : decode c_D_init 84 = .ok (.new 18, 3) := by decide +kernel
theorem d_D_init_87 : decode c_D_init 87 = .ok (.dup, 1) := by decide +kernel
theorem d_D_init_88 : decode c_D_init 88 = .ok (.iconst 4, 1) := by decide +kernel
theorem d_D_init_89 : decode c_D_init 89 = .ok (.iconst 4, 1) := by decide +kernel
theorem d_D_init_90 : decode c_D_init 90 = .ok (.invokespecial 20, 3) := by decide +kernel
theorem d_D_init_93 : decode c_D_init 93 = .ok (.putfield 39, 3) := by decide +kernel
theorem d_D_init_96 : decode c_D_init 96 = .ok (.aload_n 0, 1) := by decide +kernel
theorem d_D_init_97 : decode c_D_init 97 = .ok (.bipush 90, 2) := by decide +kernel
theorem d_D_init_99 : decode c_D_init 99 = .ok (.newarray .int, 2) := by decide +kernel
theorem d_D_init_101 : decode c_D_init 101 = .ok (.putfield 42, 3) := by decide +kernel
theorem d_D_init_104 : decode c_D_init 104 = .ok (.return_, 1) := by decide +kernel
theorem d_D_seal_0 : decode c_D_seal 0 = .ok (.aload_n 0, 1) := by decide +kernel
theorem d_D_seal_1 : decode c_D_seal 1 = .ok (.getfield 12, 3) := by decide +kernel
theorem d_D_seal_4 : decode c_D_seal 4 = .ok (.invokevirtual 46, 3) := by decide +kernel
theorem d_D_seal_7 : decode c_D_seal 7 = .ok (.aload_n 0, 1) := by decide +kernel
theorem d_D_seal_8 : decode c_D_seal 8 = .ok (.getfield 12, 3) := by decide +kernel
theorem d_D_seal_11 : decode c_D_seal 11 = .ok (.aload_n 2, 1) := by decide +kernel
theorem d_D_seal_12 : decode c_D_seal 12 = .ok (.getfield 49, 3) := by decide +kernel
theorem d_D_seal_15 : decode c_D_seal 15 = .ok (.bipush 8, 2) := by decide +kernel
theorem d_D_seal_17 : decode c_D_seal 17 = .ok (.invokevirtual 55, 3) := by decide +kernel
theorem d_D_seal_20 : decode c_D_seal 20 = .ok (.aload_n 0, 1) := by decide +kernel
theorem d_D_seal_21 : decode c_D_seal 21 = .ok (.getfield 12, 3) := by decide +kernel
theorem d_D_seal_24 : decode c_D_seal 24 = .ok (.iload_n 1, 1) := by decide +kernel
theorem d_D_seal_25 : decode c_D_seal 25 = .ok (.i2l, 1) := by decide +kernel
theorem d_D_seal_26 : decode c_D_seal 26 = .ok (.iconst 4, 1) := by decide +kernel
theorem d_D_seal_27 : decode c_D_seal 27 = .ok (.invokevirtual 55, 3) := by decide +kernel
theorem d_D_seal_30 : decode c_D_seal 30 = .ok (.aload_n 0, 1) := by decide +kernel
theorem d_D_seal_31 : decode c_D_seal 31 = .ok (.getfield 12, 3) := by decide +kernel
theorem d_D_seal_34 : decode c_D_seal 34 = .ok (.invokevirtual 59, 3) := by decide +kernel
theorem d_D_seal_37 : decode c_D_seal 37 = .ok (.aload_n 0, 1) := by decide +kernel
theorem d_D_seal_38 : decode c_D_seal 38 = .ok (.getfield 12, 3) := by decide +kernel
theorem d_D_seal_41 : decode c_D_seal 41 = .ok (.iconst 0, 1) := by decide +kernel
theorem d_D_seal_42 : decode c_D_seal 42 = .ok (.invokevirtual 62, 3) := by decide +kernel
theorem d_D_seal_45 : decode c_D_seal 45 = .ok (.lstore 4, 2) := by decide +kernel
theorem d_D_seal_47 : decode c_D_seal 47 = .ok (.aload_n 0, 1) := by decide +kernel
theorem d_D_seal_48 : decode c_D_seal 48 = .ok (.getfield 12, 3) := by decide +kernel
theorem d_D_seal_51 : decode c_D_seal 51 = .ok (.iconst 1, 1) := by decide +kernel
theorem d_D_seal_52 : decode c_D_seal 52 = .ok (.invokevirtual 62, 3) := by decide +kernel
theorem d_D_seal_55 : decode c_D_seal 55 = .ok (.lstore 6, 2) := by decide +kernel
theorem d_D_seal_57 : decode c_D_seal 57 = .ok (.aload_n 0, 1) := by decide +kernel
theorem d_D_seal_58 : decode c_D_seal 58 = .ok (.lload 4, 2) := by decide +kernel
theorem d_D_seal_60 : decode c_D_seal 60 = .ok (.invokevirtual 66, 3) := by decide +kernel
theorem d_D_seal_63 : decode c_D_seal 63 = .ok (.aload_n 0, 1) := by decide +kernel
theorem d_D_seal_64 : decode c_D_seal 64 = .ok (.getfield 33, 3) := by decide +kernel
theorem d_D_seal_67 : decode c_D_seal 67 = .ok (.aload_n 0, 1) := by decide +kernel
theorem d_D_seal_68 : decode c_D_seal 68 = .ok (.getfield 27, 3) := by decide +kernel
theorem d_D_seal_71 : decode c_D_seal 71 = .ok (.iconst 1, 1) := by decide +kernel
theorem d_D_seal_72 : decode c_D_seal 72 = .ok (.aload_n 0, 1) := by decide +kernel
theorem d_D_seal_73 : decode c_D_seal 73 = .ok (.getfield 23, 3) := by decide +kernel
theorem d_D_seal_76 : decode c_D_seal 76 = .ok (.aload_n 2, 1) := by decide +kernel
theorem d_D_seal_77 : decode c_D_seal 77 = .ok (.getfield 70, 3) := by decide +kernel
theorem d_D_seal_80 : decode c_D_seal 80 = .ok (.invokevirtual 73, 3) := by decide +kernel
theorem d_D_seal_83 : decode c_D_seal 83 = .ok (.aload_n 0, 1) := by decide +kernel
theorem d_D_seal_84 : decode c_D_seal 84 = .ok (.getfield 36, 3) := by decide +kernel
theorem d_D_seal_87 : decode c_D_seal 87 = .ok (.aload_n 0, 1) := by decide +kernel
theorem d_D_seal_88 : decode c_D_seal 88 = .ok (.getfield 30, 3) := by decide +kernel
theorem d_D_seal_91 : decode c_D_seal 91 = .ok (.iconst 1, 1) := by decide +kernel
theorem d_D_seal_92 : decode c_D_seal 92 = .ok (.aload_n 0, 1) := by decide +kernel
theorem d_D_seal_93 : decode c_D_seal 93 = .ok (.getfield 23, 3) := by decide +kernel
theorem d_D_seal_96 : decode c_D_seal 96 = .ok (.aload_n 2, 1) := by decide +kernel
theorem d_D_seal_97 : decode c_D_seal 97 = .ok (.getfield 77, 3) := by decide +kernel
theorem d_D_seal_100 : decode c_D_seal 100 = .ok (.invokevirtual 73, 3) := by decide +kernel
theorem d_D_seal_103 : decode c_D_seal 103 = .ok (.aload_n 0, 1) := by decide +kernel
theorem d_D_seal_104 : decode c_D_seal 104 = .ok (.iload_n 1, 1) := by decide +kernel
theorem d_D_seal_105 : decode c_D_seal 105 = .ok (.invokevirtual 80, 3) := by decide +kernel
theorem d_D_seal_108 : decode c_D_seal 108 = .ok (.aload_n 0, 1) := by decide +kernel
theorem d_D_seal_109 : decode c_D_seal 109 = .ok (.getfield 33, 3) := by decide +kernel
theorem d_D_seal_112 : decode c_D_seal 112 = .ok (.aload_n 3, 1) := by decide +kernel
theorem d_D_seal_113 : decode c_D_seal 113 = .ok (.iconst 0, 1) := by decide +kernel
theorem d_D_seal_114 : decode c_D_seal 114 = .ok (.invokevirtual 84, 3) := by decide +kernel
theorem d_D_seal_117 : decode c_D_seal 117 = .ok (.aload_n 0, 1) := by decide +kernel
theorem d_D_seal_118 : decode c_D_seal 118 = .ok (.getfield 36, 3) := by decide +kernel
theorem d_D_seal_121 : decode c_D_seal 121 = .ok (.aload_n 3, 1) := by decide +kernel
theorem d_D_seal_122 : decode c_D_seal 122 = .ok (.bipush 60, 2) := by decide +kernel
theorem d_D_seal_124 : decode c_D_seal 124 = .ok (.invokevirtual 84, 3) := by decide +kernel
theorem d_D_seal_127 : decode c_D_seal 127 = .ok (.aload_n 0, 1) := by decide +kernel
theorem d_D_seal_128 : decode c_D_seal 128 = .ok (.getfield 12, 3) := by decide +kernel
theorem d_D_seal_131 : decode c_D_seal 131 = .ok (.aload_n 3, 1) := by decide +kernel
theorem d_D_seal_132 : decode c_D_seal 132 = .ok (.lload 6, 2) := by decide +kernel
theorem d_D_seal_134 : decode c_D_seal 134 = .ok (.invokevirtual 88, 3) := by decide +kernel
theorem d_D_seal_137 : decode c_D_seal 137 = .ok (.lreturn, 1) := by decide +kernel
theorem d_D_takeNoise_0 : decode c_D_takeNoise 0 = .ok (.aload_n 0, 1) := by decide +kernel
theorem d_D_takeNoise_1 : decode c_D_takeNoise 1 = .ok (.getfield 12, 3) := by decide +kernel
theorem d_D_takeNoise_4 : decode c_D_takeNoise 4 = .ok (.sipush 150, 3) := by decide +kernel
theorem d_D_takeNoise_7 : decode c_D_takeNoise 7 = .ok (.lload_n 1, 1) := by decide +kernel
theorem d_D_takeNoise_8 : decode c_D_takeNoise 8 = .ok (.invokevirtual 92, 3) := by decide +kernel
theorem d_D_takeNoise_11 : decode c_D_takeNoise 11 = .ok (.aload_n 0, 1) := by decide +kernel
theorem d_D_takeNoise_12 : decode c_D_takeNoise 12 = .ok (.getfield 23, 3) := by decide +kernel
theorem d_D_takeNoise_15 : decode c_D_takeNoise 15 = .ok (.aload_n 0, 1) := by decide +kernel
theorem d_D_takeNoise_16 : decode c_D_takeNoise 16 = .ok (.getfield 12, 3) := by decide +kernel
theorem d_D_takeNoise_19 : decode c_D_takeNoise 19 = .ok (.iconst 0, 1) := by decide +kernel
theorem d_D_takeNoise_20 : decode c_D_takeNoise 20 = .ok (.invokevirtual 96, 3) := by decide +kernel
theorem d_D_takeNoise_23 : decode c_D_takeNoise 23 = .ok (.aload_n 0, 1) := by decide +kernel
theorem d_D_takeNoise_24 : decode c_D_takeNoise 24 = .ok (.getfield 27, 3) := by decide +kernel
theorem d_D_takeNoise_27 : decode c_D_takeNoise 27 = .ok (.aload_n 0, 1) := by decide +kernel
theorem d_D_takeNoise_28 : decode c_D_takeNoise 28 = .ok (.getfield 12, 3) := by decide +kernel
theorem d_D_takeNoise_31 : decode c_D_takeNoise 31 = .ok (.bipush 32, 2) := by decide +kernel
theorem d_D_takeNoise_33 : decode c_D_takeNoise 33 = .ok (.invokevirtual 96, 3) := by decide +kernel
theorem d_D_takeNoise_36 : decode c_D_takeNoise 36 = .ok (.aload_n 0, 1) := by decide +kernel
theorem d_D_takeNoise_37 : decode c_D_takeNoise 37 = .ok (.getfield 30, 3) := by decide +kernel
theorem d_D_takeNoise_40 : decode c_D_takeNoise 40 = .ok (.aload_n 0, 1) := by decide +kernel
theorem d_D_takeNoise_41 : decode c_D_takeNoise 41 = .ok (.getfield 12, 3) := by decide +kernel
theorem d_D_takeNoise_44 : decode c_D_takeNoise 44 = .ok (.bipush 64, 2) := by decide +kernel
theorem d_D_takeNoise_46 : decode c_D_takeNoise 46 = .ok (.invokevirtual 96, 3) := by decide +kernel
theorem d_D_takeNoise_49 : decode c_D_takeNoise 49 = .ok (.return_, 1) := by decide +kernel
theorem d_D_addCode_0 : decode c_D_addCode 0 = .ok (.iconst 0, 1) := by decide +kernel
theorem d_D_addCode_1 : decode c_D_addCode 1 = .ok (.istore_n 2, 1) := by decide +kernel
theorem d_D_addCode_2 : decode c_D_addCode 2 = .ok (.iload_n 2, 1) := by decide +kernel
theorem d_D_addCode_3 : decode c_D_addCode 3 = .ok (.iconst 4, 1) := by decide +kernel
theorem d_D_addCode_4 : decode c_D_addCode 4 = .ok (.if_icmp .ge 61, 3) := by decide +kernel
theorem d_D_addCode_7 : decode c_D_addCode 7 = .ok (.iconst 0, 1) := by decide +kernel
theorem d_D_addCode_8 : decode c_D_addCode 8 = .ok (.istore_n 3, 1) := by decide +kernel
theorem d_D_addCode_9 : decode c_D_addCode 9 = .ok (.iload_n 3, 1) := by decide +kernel
theorem d_D_addCode_10 : decode c_D_addCode 10 = .ok (.iconst 4, 1) := by decide +kernel
theorem d_D_addCode_11 : decode c_D_addCode 11 = .ok (.if_icmp .ge 48, 3) := by decide +kernel
theorem d_D_addCode_14 : decode c_D_addCode 14 = .ok (.iload_n 1, 1) := by decide +kernel
theorem d_D_addCode_15 : decode c_D_addCode 15 = .ok (.bipush 8, 2) := by decide +kernel
theorem d_D_addCode_17 : decode c_D_addCode 17 = .ok (.iload_n 2, 1) := by decide +kernel
theorem d_D_addCode_18 : decode c_D_addCode 18 = .ok (.imul, 1) := by decide +kernel
theorem d_D_addCode_19 : decode c_D_addCode 19 = .ok (.iconst 2, 1) := by decide +kernel
theorem d_D_addCode_20 : decode c_D_addCode 20 = .ok (.iload_n 3, 1) := by decide +kernel
theorem d_D_addCode_21 : decode c_D_addCode 21 = .ok (.imul, 1) := by decide +kernel
theorem d_D_addCode_22 : decode c_D_addCode 22 = .ok (.iadd, 1) := by decide +kernel
theorem d_D_addCode_23 : decode c_D_addCode 23 = .ok (.iushr, 1) := by decide +kernel
theorem d_D_addCode_24 : decode c_D_addCode 24 = .ok (.iconst 3, 1) := by decide +kernel
theorem d_D_addCode_25 : decode c_D_addCode 25 = .ok (.iand, 1) := by decide +kernel
theorem d_D_addCode_26 : decode c_D_addCode 26 = .ok (.istore 4, 2) := by decide +kernel
theorem d_D_addCode_28 : decode c_D_addCode 28 = .ok (.aload_n 0, 1) := by decide +kernel
theorem d_D_addCode_29 : decode c_D_addCode 29 = .ok (.getfield 36, 3) := by decide +kernel
theorem d_D_addCode_32 : decode c_D_addCode 32 = .ok (.iload_n 2, 1) := by decide +kernel
theorem d_D_addCode_33 : decode c_D_addCode 33 = .ok (.iload_n 3, 1) := by decide +kernel
theorem d_D_addCode_34 : decode c_D_addCode 34 = .ok (.aload_n 0, 1) := by decide +kernel
theorem d_D_addCode_35 : decode c_D_addCode 35 = .ok (.getfield 36, 3) := by decide +kernel
theorem d_D_addCode_38 : decode c_D_addCode 38 = .ok (.iload_n 2, 1) := by decide +kernel
theorem d_D_addCode_39 : decode c_D_addCode 39 = .ok (.iload_n 3, 1) := by decide +kernel
theorem d_D_addCode_40 : decode c_D_addCode 40 = .ok (.invokevirtual 100, 3) := by decide +kernel
theorem d_D_addCode_43 : decode c_D_addCode 43 = .ok (.sipush 8192, 3) := by decide +kernel
theorem d_D_addCode_46 : decode c_D_addCode 46 = .ok (.iload 4, 2) := by decide +kernel
theorem d_D_addCode_48 : decode c_D_addCode 48 = .ok (.imul, 1) := by decide +kernel
theorem d_D_addCode_49 : decode c_D_addCode 49 = .ok (.iadd, 1) := by decide +kernel
theorem d_D_addCode_50 : decode c_D_addCode 50 = .ok (.invokevirtual 104, 3) := by decide +kernel
theorem d_D_addCode_53 : decode c_D_addCode 53 = .ok (.iinc 3 1, 3) := by decide +kernel
theorem d_D_addCode_56 : decode c_D_addCode 56 = .ok (.goto (-47), 3) := by decide +kernel
theorem d_D_addCode_59 : decode c_D_addCode 59 = .ok (.iinc 2 1, 3) := by decide +kernel
theorem d_D_addCode_62 : decode c_D_addCode 62 = .ok (.goto (-60), 3) := by decide +kernel
theorem d_D_addCode_65 : decode c_D_addCode 65 = .ok (.return_, 1) := by decide +kernel
theorem d_D_unseal_0 : decode c_D_unseal 0 = .ok (.aload_n 0, 1) := by decide +kernel
theorem d_D_unseal_1 : decode c_D_unseal 1 = .ok (.aload_n 1, 1) := by decide +kernel
theorem d_D_unseal_2 : decode c_D_unseal 2 = .ok (.aload_n 2, 1) := by decide +kernel
theorem d_D_unseal_3 : decode c_D_unseal 3 = .ok (.invokevirtual 112, 3) := by decide +kernel
theorem d_D_unseal_6 : decode c_D_unseal 6 = .ok (.aload_n 0, 1) := by decide +kernel
theorem d_D_unseal_7 : decode c_D_unseal 7 = .ok (.aload_n 0, 1) := by decide +kernel
theorem d_D_unseal_8 : decode c_D_unseal 8 = .ok (.invokevirtual 116, 3) := by decide +kernel
theorem d_D_unseal_11 : decode c_D_unseal 11 = .ok (.aload_n 2, 1) := by decide +kernel
theorem d_D_unseal_12 : decode c_D_unseal 12 = .ok (.aload_n 0, 1) := by decide +kernel
theorem d_D_unseal_13 : decode c_D_unseal 13 = .ok (.getfield 42, 3) := by decide +kernel
theorem d_D_unseal_16 : decode c_D_unseal 16 = .ok (.invokevirtual 120, 3) := by decide +kernel
theorem d_D_unseal_19 : decode c_D_unseal 19 = .ok (.lstore_n 3, 1) := by decide +kernel
theorem d_D_unseal_20 : decode c_D_unseal 20 = .ok (.aload_n 0, 1) := by decide +kernel
theorem d_D_unseal_21 : decode c_D_unseal 21 = .ok (.aload_n 1, 1) := by decide +kernel
theorem d_D_unseal_22 : decode c_D_unseal 22 = .ok (.invokevirtual 124, 3) := by decide +kernel
theorem d_D_unseal_25 : decode c_D_unseal 25 = .ok (.ifCond .eq 5, 3) := by decide +kernel
theorem d_D_unseal_28 : decode c_D_unseal 28 = .ok (.lload_n 3, 1) := by decide +kernel
theorem d_D_unseal_29 : decode c_D_unseal 29 = .ok (.lreturn, 1) := by decide +kernel
theorem d_D_unseal_30 : decode c_D_unseal 30 = .ok (.aload_n 0, 1) := by decide +kernel
theorem d_D_unseal_31 : decode c_D_unseal 31 = .ok (.getfield 12, 3) := by decide +kernel
theorem d_D_unseal_34 : decode c_D_unseal 34 = .ok (.aload_n 1, 1) := by decide +kernel
theorem d_D_unseal_35 : decode c_D_unseal 35 = .ok (.aload_n 2, 1) := by decide +kernel
theorem d_D_unseal_36 : decode c_D_unseal 36 = .ok (.getfield 128, 3) := by decide +kernel
theorem d_D_unseal_39 : decode c_D_unseal 39 = .ok (.invokevirtual 88, 3) := by decide +kernel
theorem d_D_unseal_42 : decode c_D_unseal 42 = .ok (.lreturn, 1) := by decide +kernel
theorem d_D_open_0 : decode c_D_open 0 = .ok (.aload_n 0, 1) := by decide +kernel
theorem d_D_open_1 : decode c_D_open 1 = .ok (.getfield 33, 3) := by decide +kernel
theorem d_D_open_4 : decode c_D_open 4 = .ok (.aload_n 1, 1) := by decide +kernel
theorem d_D_open_5 : decode c_D_open 5 = .ok (.iconst 0, 1) := by decide +kernel
theorem d_D_open_6 : decode c_D_open 6 = .ok (.invokevirtual 108, 3) := by decide +kernel
theorem d_D_open_9 : decode c_D_open 9 = .ok (.aload_n 0, 1) := by decide +kernel
theorem d_D_open_10 : decode c_D_open 10 = .ok (.getfield 36, 3) := by decide +kernel
theorem d_D_open_13 : decode c_D_open 13 = .ok (.aload_n 1, 1) := by decide +kernel
theorem d_D_open_14 : decode c_D_open 14 = .ok (.bipush 60, 2) := by decide +kernel
theorem d_D_open_16 : decode c_D_open 16 = .ok (.invokevirtual 108, 3) := by decide +kernel
theorem d_D_open_19 : decode c_D_open 19 = .ok (.aload_n 0, 1) := by decide +kernel
theorem d_D_open_20 : decode c_D_open 20 = .ok (.getfield 39, 3) := by decide +kernel
theorem d_D_open_23 : decode c_D_open 23 = .ok (.aload_n 0, 1) := by decide +kernel
theorem d_D_open_24 : decode c_D_open 24 = .ok (.getfield 36, 3) := by decide +kernel
theorem d_D_open_27 : decode c_D_open 27 = .ok (.iconst (-1), 1) := by decide +kernel
theorem d_D_open_28 : decode c_D_open 28 = .ok (.aload_n 0, 1) := by decide +kernel
theorem d_D_open_29 : decode c_D_open 29 = .ok (.getfield 33, 3) := by decide +kernel
theorem d_D_open_32 : decode c_D_open 32 = .ok (.aload_n 2, 1) := by decide +kernel
theorem d_D_open_33 : decode c_D_open 33 = .ok (.getfield 111, 3) := by decide +kernel
theorem d_D_open_36 : decode c_D_open 36 = .ok (.invokevirtual 73, 3) := by decide +kernel
theorem d_D_open_39 : decode c_D_open 39 = .ok (.return_, 1) := by decide +kernel
theorem d_D_openedMessage_0 : decode c_D_openedMessage 0 = .ok (.iconst 0, 1) := by decide +kernel
theorem d_D_openedMessage_1 : decode c_D_openedMessage 1 = .ok (.istore_n 1, 1) := by decide +kernel
theorem d_D_openedMessage_2 : decode c_D_openedMessage 2 = .ok (.iconst 0, 1) := by decide +kernel
theorem d_D_openedMessage_3 : decode c_D_openedMessage 3 = .ok (.istore_n 2, 1) := by decide +kernel
theorem d_D_openedMessage_4 : decode c_D_openedMessage 4 = .ok (.iload_n 2, 1) := by decide +kernel
theorem d_D_openedMessage_5 : decode c_D_openedMessage 5 = .ok (.iconst 4, 1) := by decide +kernel
theorem d_D_openedMessage_6 : decode c_D_openedMessage 6 = .ok (.if_icmp .ge 57, 3) := by decide +kernel
theorem d_D_openedMessage_9 : decode c_D_openedMessage 9 = .ok (.iconst 0, 1) := by decide +kernel
theorem d_D_openedMessage_10 : decode c_D_openedMessage 10 = .ok (.istore_n 3, 1) := by decide +kernel
theorem d_D_openedMessage_11 : decode c_D_openedMessage 11 = .ok (.iload_n 3, 1) := by decide +kernel
theorem d_D_openedMessage_12 : decode c_D_openedMessage 12 = .ok (.iconst 4, 1) := by decide +kernel
theorem d_D_openedMessage_13 : decode c_D_openedMessage 13 = .ok (.if_icmp .ge 44, 3) := by decide +kernel
theorem d_D_openedMessage_16 : decode c_D_openedMessage 16 = .ok (.aload_n 0, 1) := by decide +kernel
theorem d_D_openedMessage_17 : decode c_D_openedMessage 17 = .ok (.getfield 39, 3) := by decide +kernel
theorem d_D_openedMessage_20 : decode c_D_openedMessage 20 = .ok (.iload_n 2, 1) := by decide +kernel
theorem d_D_openedMessage_21 : decode c_D_openedMessage 21 = .ok (.iload_n 3, 1) := by decide +kernel
theorem d_D_openedMessage_22 : decode c_D_openedMessage 22 = .ok (.invokevirtual 100, 3) := by decide +kernel
theorem d_D_openedMessage_25 : decode c_D_openedMessage 25 = .ok (.sipush 4096, 3) := by decide +kernel
theorem d_D_openedMessage_28 : decode c_D_openedMessage 28 = .ok (.iadd, 1) := by decide +kernel
theorem d_D_openedMessage_29 : decode c_D_openedMessage 29 = .ok (.sipush 8192, 3) := by decide +kernel
theorem d_D_openedMessage_32 : decode c_D_openedMessage 32 = .ok (.idiv, 1) := by decide +kernel
theorem d_D_openedMessage_33 : decode c_D_openedMessage 33 = .ok (.iconst 3, 1) := by decide +kernel
theorem d_D_openedMessage_34 : decode c_D_openedMessage 34 = .ok (.iand, 1) := by decide +kernel
theorem d_D_openedMessage_35 : decode c_D_openedMessage 35 = .ok (.istore 4, 2) := by decide +kernel
theorem d_D_openedMessage_37 : decode c_D_openedMessage 37 = .ok (.iload_n 1, 1) := by decide +kernel
theorem d_D_openedMessage_38 : decode c_D_openedMessage 38 = .ok (.iload 4, 2) := by decide +kernel
theorem d_D_openedMessage_40 : decode c_D_openedMessage 40 = .ok (.bipush 8, 2) := by decide +kernel
theorem d_D_openedMessage_42 : decode c_D_openedMessage 42 = .ok (.iload_n 2, 1) := by decide +kernel
theorem d_D_openedMessage_43 : decode c_D_openedMessage 43 = .ok (.imul, 1) := by decide +kernel
theorem d_D_openedMessage_44 : decode c_D_openedMessage 44 = .ok (.iconst 2, 1) := by decide +kernel
theorem d_D_openedMessage_45 : decode c_D_openedMessage 45 = .ok (.iload_n 3, 1) := by decide +kernel
theorem d_D_openedMessage_46 : decode c_D_openedMessage 46 = .ok (.imul, 1) := by decide +kernel
theorem d_D_openedMessage_47 : decode c_D_openedMessage 47 = .ok (.iadd, 1) := by decide +kernel
theorem d_D_openedMessage_48 : decode c_D_openedMessage 48 = .ok (.ishl, 1) := by decide +kernel
theorem d_D_openedMessage_49 : decode c_D_openedMessage 49 = .ok (.ior, 1) := by decide +kernel
theorem d_D_openedMessage_50 : decode c_D_openedMessage 50 = .ok (.istore_n 1, 1) := by decide +kernel
theorem d_D_openedMessage_51 : decode c_D_openedMessage 51 = .ok (.iinc 3 1, 3) := by decide +kernel
theorem d_D_openedMessage_54 : decode c_D_openedMessage 54 = .ok (.goto (-43), 3) := by decide +kernel
theorem d_D_openedMessage_57 : decode c_D_openedMessage 57 = .ok (.iinc 2 1, 3) := by decide +kernel
theorem d_D_openedMessage_60 : decode c_D_openedMessage 60 = .ok (.goto (-56), 3) := by decide +kernel
theorem d_D_openedMessage_63 : decode c_D_openedMessage 63 = .ok (.iload_n 1, 1) := by decide +kernel
theorem d_D_openedMessage_64 : decode c_D_openedMessage 64 = .ok (.ireturn, 1) := by decide +kernel
theorem d_D_isAgain_0 : decode c_D_isAgain 0 = .ok (.iconst 0, 1) := by decide +kernel
theorem d_D_isAgain_1 : decode c_D_isAgain 1 = .ok (.istore_n 2, 1) := by decide +kernel
theorem d_D_isAgain_2 : decode c_D_isAgain 2 = .ok (.iconst 0, 1) := by decide +kernel
theorem d_D_isAgain_3 : decode c_D_isAgain 3 = .ok (.istore_n 3, 1) := by decide +kernel
theorem d_D_isAgain_4 : decode c_D_isAgain 4 = .ok (.iload_n 3, 1) := by decide +kernel
theorem d_D_isAgain_5 : decode c_D_isAgain 5 = .ok (.bipush 90, 2) := by decide +kernel
theorem d_D_isAgain_7 : decode c_D_isAgain 7 = .ok (.if_icmp .ge 22, 3) := by decide +kernel
theorem d_D_isAgain_10 : decode c_D_isAgain 10 = .ok (.iload_n 2, 1) := by decide +kernel
theorem d_D_isAgain_11 : decode c_D_isAgain 11 = .ok (.aload_n 1, 1) := by decide +kernel
theorem d_D_isAgain_12 : decode c_D_isAgain 12 = .ok (.iload_n 3, 1) := by decide +kernel
theorem d_D_isAgain_13 : decode c_D_isAgain 13 = .ok (.iaload, 1) := by decide +kernel
theorem d_D_isAgain_14 : decode c_D_isAgain 14 = .ok (.aload_n 0, 1) := by decide +kernel
theorem d_D_isAgain_15 : decode c_D_isAgain 15 = .ok (.getfield 42, 3) := by decide +kernel
theorem d_D_isAgain_18 : decode c_D_isAgain 18 = .ok (.iload_n 3, 1) := by decide +kernel
theorem d_D_isAgain_19 : decode c_D_isAgain 19 = .ok (.iaload, 1) := by decide +kernel
theorem d_D_isAgain_20 : decode c_D_isAgain 20 = .ok (.ixor, 1) := by decide +kernel
theorem d_D_isAgain_21 : decode c_D_isAgain 21 = .ok (.ior, 1) := by decide +kernel
theorem d_D_isAgain_22 : decode c_D_isAgain 22 = .ok (.istore_n 2, 1) := by decide +kernel
theorem d_D_isAgain_23 : decode c_D_isAgain 23 = .ok (.iinc 3 1, 3) := by decide +kernel
theorem d_D_isAgain_26 : decode c_D_isAgain 26 = .ok (.goto (-22), 3) := by decide +kernel
theorem d_D_isAgain_29 : decode c_D_isAgain 29 = .ok (.iload_n 2, 1) := by decide +kernel
theorem d_D_isAgain_30 : decode c_D_isAgain 30 = .ok (.ifCond .ne 7, 3) := by decide +kernel
theorem d_D_isAgain_33 : decode c_D_isAgain 33 = .ok (.iconst 1, 1) := by decide +kernel
theorem d_D_isAgain_34 : decode c_D_isAgain 34 = .ok (.goto 4, 3) := by decide +kernel
theorem d_D_isAgain_37 : decode c_D_isAgain 37 = .ok (.iconst 0, 1) := by decide +kernel
theorem d_D_isAgain_38 : decode c_D_isAgain 38 = .ok (.ireturn, 1) := by decide +kernel
theorem d_D_openedNoise_0 : decode c_D_openedNoise 0 = .ok (.aload_n 0, 1) := by decide +kernel
theorem d_D_openedNoise_1 : decode c_D_openedNoise 1 = .ok (.getfield 39, 3) := by decide +kernel
theorem d_D_openedNoise_4 : decode c_D_openedNoise 4 = .ok (.iload_n 1, 1) := by decide +kernel
theorem d_D_openedNoise_5 : decode c_D_openedNoise 5 = .ok (.iload_n 2, 1) := by decide +kernel
theorem d_D_openedNoise_6 : decode c_D_openedNoise 6 = .ok (.invokevirtual 100, 3) := by decide +kernel
theorem d_D_openedNoise_9 : decode c_D_openedNoise 9 = .ok (.sipush 4096, 3) := by decide +kernel
theorem d_D_openedNoise_12 : decode c_D_openedNoise 12 = .ok (.iadd, 1) := by decide +kernel
theorem d_D_openedNoise_13 : decode c_D_openedNoise 13 = .ok (.sipush 8192, 3) := by decide +kernel
theorem d_D_openedNoise_16 : decode c_D_openedNoise 16 = .ok (.irem, 1) := by decide +kernel
theorem d_D_openedNoise_17 : decode c_D_openedNoise 17 = .ok (.sipush 4096, 3) := by decide +kernel
theorem d_D_openedNoise_20 : decode c_D_openedNoise 20 = .ok (.isub, 1) := by decide +kernel
theorem d_D_openedNoise_21 : decode c_D_openedNoise 21 = .ok (.ireturn, 1) := by decide +kernel
end DC
end
section
section DC
theorem d_K_init_0 : decode c_K_init 0 = .ok (.aload_n 0, 1) := by decide +kernel
theorem d_K_init_1 : decode c_K_init 1 = .ok (.invokespecial 3, 3) := by decide +kernel
theorem d_K_init_4 : decode c_K_init 4 = .ok (.aload_n 0, 1) := by decide +kernel
theorem d_K_init_5 : decode c_K_init 5 = .ok (.iconst 0, 1) := by decide +kernel
theorem d_K_init_6 : decode c_K_init 6 = .ok (.putfield 9, 3) := by decide +kernel
theorem d_K_init_9 : decode c_K_init 9 = .ok (.aload_n 0, 1) := by decide +kernel
theorem d_K_init_10 : decode c_K_init 10 = .ok (.lconst 0, 1) := by decide +kernel
theorem d_K_init_11 : decode c_K_init 11 = .ok (.putfield 15, 3) := by decide +kernel
theorem d_K_init_14 : decode c_K_init 14 = .ok (.aload_n 0, 1) := by decide +kernel
theorem d_K_init_15 : decode c_K_init 15 = .ok (.lconst 0, 1) := by decide +kernel
theorem d_K_init_16 : decode c_K_init 16 = .ok (.putfield 19, 3) := by decide +kernel
theorem d_K_init_19 : decode c_K_init 19 = .ok (.aload_n 0, 1) := by decide +kernel
theorem d_K_init_20 : decode c_K_init 20 = .ok (.new 22, 3) := by decide +kernel
theorem d_K_init_23 : decode c_K_init 23 = .ok (.dup, 1) := by decide +kernel
theorem d_K_init_24 : decode c_K_init 24 = .ok (.bipush 8, 2) := by decide +kernel
theorem d_K_init_26 : decode c_K_init 26 = .ok (.bipush 8, 2) := by decide +kernel
theorem d_K_init_28 : decode c_K_init 28 = .ok (.invokespecial 24, 3) := by decide +kernel
theorem d_K_init_31 : decode c_K_init 31 = .ok (.putfield 27, 3) := by decide +kernel
theorem d_K_init_34 : decode c_K_init 34 = .ok (.aload_n 0, 1) := by decide +kernel
theorem d_K_init_35 : decode c_K_init 35 = .ok (.new 22, 3) := by decide +kernel
theorem d_K_init_38 : decode c_K_init 38 = .ok (.dup, 1) := by decide +kernel
theorem d_K_init_39 : decode c_K_init 39 = .ok (.bipush 8, 2) := by decide +kernel
theorem d_K_init_41 : decode c_K_init 41 = .ok (.iconst 4, 1) := by decide +kernel
theorem d_K_init_42 : decode c_K_init 42 = .ok (.invokespecial 24, 3) := by decide +kernel
theorem d_K_init_45 : decode c_K_init 45 = .ok (.putfield 31, 3) := by decide +kernel
theorem d_K_init_48 : decode c_K_init 48 = .ok (.aload_n 0, 1) := by decide +kernel
theorem d_K_init_49 : decode c_K_init 49 = .ok (.new 22, 3) := by decide +kernel
theorem d_K_init_52 : decode c_K_init 52 = .ok (.dup, 1) := by decide +kernel
theorem d_K_init_53 : decode c_K_init 53 = .ok (.bipush 8, 2) := by decide +kernel
theorem d_K_init_55 : decode c_K_init 55 = .ok (.iconst 4, 1) := by decide +kernel
theorem d_K_init_56 : decode c_K_init 56 = .ok (.invokespecial 24, 3) := by decide +kernel
theorem d_K_init_59 : decode c_K_init 59 = .ok (.putfield 34, 3) := by decide +kernel
theorem d_K_init_62 : decode c_K_init 62 = .ok (.aload_n 0, 1) := by decide +kernel
theorem d_K_init_63 : decode c_K_init 63 = .ok (.new 22, 3) := by decide +kernel
theorem d_K_init_66 : decode c_K_init 66 = .ok (.dup, 1) := by decide +kernel
theorem d_K_init_67 : decode c_K_init 67 = .ok (.bipush 8, 2) := by decide +kernel
theorem d_K_init_69 : decode c_K_init 69 = .ok (.iconst 4, 1) := by decide +kernel
theorem d_K_init_70 : decode c_K_init 70 = .ok (.invokespecial 24, 3) := by decide +kernel
theorem d_K_init_73 : decode c_K_init 73 = .ok (.putfield 37, 3) := by decide +kernel
theorem d_K_init_76 : decode c_K_init 76 = .ok (.aload_n 0, 1) := by decide +kernel
theorem d_K_init_77 : decode c_K_init 77 = .ok (.bipush 68, 2) := by decide +kernel
theorem d_K_init_79 : decode c_K_init 79 = .ok (.newarray .int, 2) := by decide +kernel
theorem d_K_init_81 : decode c_K_init 81 = .ok (.putfield 40, 3) := by decide +kernel
theorem d_K_init_84 : decode c_K_init 84 = .ok (.return_, 1) := by decide +kernel
theorem d_K_fillFrom_0 : decode c_K_fillFrom 0 = .ok (.aload_n 0, 1) := by decide +kernel
theorem d_K_fillFrom_1 : decode c_K_fillFrom 1 = .ok (.lload_n 1, 1) := by decide +kernel
theorem d_K_fillFrom_2 : decode c_K_fillFrom 2 = .ok (.putfield 15, 3) := by decide +kernel
theorem d_K_fillFrom_5 : decode c_K_fillFrom 5 = .ok (.aload 7, 2) := by decide +kernel
theorem d_K_fillFrom_7 : decode c_K_fillFrom 7 = .ok (.lload 5, 2) := by decide +kernel
theorem d_K_fillFrom_9 : decode c_K_fillFrom 9 = .ok (.invokevirtual 44, 3) := by decide +kernel
theorem d_K_fillFrom_12 : decode c_K_fillFrom 12 = .ok (.lstore 8, 2) := by decide +kernel
theorem d_K_fillFrom_14 : decode c_K_fillFrom 14 = .ok (.aload_n 0, 1) := by decide +kernel
theorem d_K_fillFrom_15 : decode c_K_fillFrom 15 = .ok (.lload 8, 2) := by decide +kernel
theorem d_K_fillFrom_17 : decode c_K_fillFrom 17 = .ok (.aload 7, 2) := by decide +kernel
theorem d_K_fillFrom_19 : decode c_K_fillFrom 19 = .ok (.invokevirtual 50, 3) := by decide +kernel
theorem d_K_fillFrom_22 : decode c_K_fillFrom 22 = .ok (.aload 7, 2) := by decide +kernel
theorem d_K_fillFrom_24 : decode c_K_fillFrom 24 = .ok (.bipush 95, 2) := by decide +kernel
theorem d_K_fillFrom_26 : decode c_K_fillFrom 26 = .ok (.lload_n 3, 1) := by decide +kernel
theorem d_K_fillFrom_27 : decode c_K_fillFrom 27 = .ok (.invokevirtual 54, 3) := by decide +kernel
theorem d_K_fillFrom_30 : decode c_K_fillFrom 30 = .ok (.aload_n 0, 1) := by decide +kernel
theorem d_K_fillFrom_31 : decode c_K_fillFrom 31 = .ok (.getfield 31, 3) := by decide +kernel
theorem d_K_fillFrom_34 : decode c_K_fillFrom 34 = .ok (.aload 7, 2) := by decide +kernel
theorem d_K_fillFrom_36 : decode c_K_fillFrom 36 = .ok (.iconst 0, 1) := by decide +kernel
theorem d_K_fillFrom_37 : decode c_K_fillFrom 37 = .ok (.invokevirtual 58, 3) := by decide +kernel
theorem d_K_fillFrom_40 : decode c_K_fillFrom 40 = .ok (.aload_n 0, 1) := by decide +kernel
theorem d_K_fillFrom_41 : decode c_K_fillFrom 41 = .ok (.getfield 34, 3) := by decide +kernel
theorem d_K_fillFrom_44 : decode c_K_fillFrom 44 = .ok (.aload 7, 2) := by decide +kernel
theorem d_K_fillFrom_46 : decode c_K_fillFrom 46 = .ok (.bipush 32, 2) := by decide +kernel
theorem d_K_fillFrom_48 : decode c_K_fillFrom 48 = .ok (.invokevirtual 58, 3) := by decide +kernel
theorem d_K_fillFrom_51 : decode c_K_fillFrom 51 = .ok (.aload_n 0, 1) := by decide +kernel
theorem d_K_fillFrom_52 : decode c_K_fillFrom 52 = .ok (.getfield 37, 3) := by decide +kernel
theorem d_K_fillFrom_55 : decode c_K_fillFrom 55 = .ok (.aload_n 0, 1) := by decide +kernel
theorem d_K_fillFrom_56 : decode c_K_fillFrom 56 = .ok (.getfield 34, 3) := by decide +kernel
theorem d_K_fillFrom_59 : decode c_K_fillFrom 59 = .ok (.iconst 1, 1) := by decide +kernel
theorem d_K_fillFrom_60 : decode c_K_fillFrom 60 = .ok (.aload_n 0, 1) := by decide +kernel
theorem d_K_fillFrom_61 : decode c_K_fillFrom 61 = .ok (.getfield 27, 3) := by decide +kernel
theorem d_K_fillFrom_64 : decode c_K_fillFrom 64 = .ok (.aload_n 0, 1) := by decide +kernel
theorem d_K_fillFrom_65 : decode c_K_fillFrom 65 = .ok (.getfield 31, 3) := by decide +kernel
theorem d_K_fillFrom_68 : decode c_K_fillFrom 68 = .ok (.invokevirtual 62, 3) := by decide +kernel
theorem d_K_fillFrom_71 : decode c_K_fillFrom 71 = .ok (.iconst 0, 1) := by decide +kernel
theorem d_K_fillFrom_72 : decode c_K_fillFrom 72 = .ok (.istore 10, 2) := by decide +kernel
theorem d_K_fillFrom_74 : decode c_K_fillFrom 74 = .ok (.iload 10, 2) := by decide +kernel
theorem d_K_fillFrom_76 : decode c_K_fillFrom 76 = .ok (.bipush 8, 2) := by decide +kernel
theorem d_K_fillFrom_78 : decode c_K_fillFrom 78 = .ok (.if_icmp .ge 29, 3) := by decide +kernel
theorem d_K_fillFrom_81 : decode c_K_fillFrom 81 = .ok (.aload_n 0, 1) := by decide +kernel
theorem d_K_fillFrom_82 : decode c_K_fillFrom 82 = .ok (.getfield 40, 3) := by decide +kernel
theorem d_K_fillFrom_85 : decode c_K_fillFrom 85 = .ok (.iload 10, 2) := by decide +kernel
theorem d_K_fillFrom_87 : decode c_K_fillFrom 87 = .ok (.lload 8, 2) := by decide +kernel
theorem d_K_fillFrom_89 : decode c_K_fillFrom 89 = .ok (.bipush 8, 2) := by decide +kernel
theorem d_K_fillFrom_91 : decode c_K_fillFrom 91 = .ok (.iload 10, 2) := by decide +kernel
theorem d_K_fillFrom_93 : decode c_K_fillFrom 93 = .ok (.imul, 1) := by decide +kernel
theorem d_K_fillFrom_94 : decode c_K_fillFrom 94 = .ok (.lushr, 1) := by decide +kernel
theorem d_K_fillFrom_95 : decode c_K_fillFrom 95 = .ok (.l2i, 1) := by decide +kernel
theorem d_K_fillFrom_96 : decode c_K_fillFrom 96 = .ok (.sipush 255, 3) := by decide +kernel
theorem d_K_fillFrom_99 : decode c_K_fillFrom 99 = .ok (.iand, 1) := by decide +kernel
theorem d_K_fillFrom_100 : decode c_K_fillFrom 100 = .ok (.iastore, 1) := by decide +kernel
theorem d_K_fillFrom_101 : decode c_K_fillFrom 101 = .ok (.iinc 10 1, 3) := by decide +kernel
theorem d_K_fillFrom_104 : decode c_K_fillFrom 104 = .ok (.goto (-30), 3) := by decide +kernel
theorem d_K_fillFrom_107 : decode c_K_fillFrom 107 = .ok (.aload_n 0, 1) := by decide +kernel
theorem d_K_fillFrom_108 : decode c_K_fillFrom 108 = .ok (.getfield 37, 3) := by decide +kernel
theorem d_K_fillFrom_111 : decode c_K_fillFrom 111 = .ok (.aload_n 0, 1) := by decide +kernel
theorem d_K_fillFrom_112 : decode c_K_fillFrom 112 = .ok (.getfield 40, 3) := by decide +kernel
theorem d_K_fillFrom_115 : decode c_K_fillFrom 115 = .ok (.bipush 8, 2) := by decide +kernel
theorem d_K_fillFrom_117 : decode c_K_fillFrom 117 = .ok (.invokevirtual 66, 3) := by decide +kernel
theorem d_K_fillFrom_120 : decode c_K_fillFrom 120 = .ok (.aload 7, 2) := by decide +kernel
theorem d_K_fillFrom_122 : decode c_K_fillFrom 122 = .ok (.invokevirtual 70, 3) := by decide +kernel
theorem d_K_fillFrom_125 : decode c_K_fillFrom 125 = .ok (.aload 7, 2) := by decide +kernel
theorem d_K_fillFrom_127 : decode c_K_fillFrom 127 = .ok (.aload_n 0, 1) := by decide +kernel
theorem d_K_fillFrom_128 : decode c_K_fillFrom 128 = .ok (.getfield 40, 3) := by decide +kernel
theorem d_K_fillFrom_131 : decode c_K_fillFrom 131 = .ok (.invokevirtual 73, 3) := by decide +kernel
theorem d_K_fillFrom_134 : decode c_K_fillFrom 134 = .ok (.aload 7, 2) := by decide +kernel
theorem d_K_fillFrom_136 : decode c_K_fillFrom 136 = .ok (.invokevirtual 77, 3) := by decide +kernel
theorem d_K_fillFrom_139 : decode c_K_fillFrom 139 = .ok (.aload_n 0, 1) := by decide +kernel
theorem d_K_fillFrom_140 : decode c_K_fillFrom 140 = .ok (.aload 7, 2) := by decide +kernel
theorem d_K_fillFrom_142 : decode c_K_fillFrom 142 = .ok (.iconst 0, 1) := by decide +kernel
theorem d_K_fillFrom_143 : decode c_K_fillFrom 143 = .ok (.invokevirtual 80, 3) := by decide +kernel
theorem d_K_fillFrom_146 : decode c_K_fillFrom 146 = .ok (.putfield 19, 3) := by decide +kernel
theorem d_K_fillFrom_149 : decode c_K_fillFrom 149 = .ok (.aload_n 0, 1) := by decide +kernel
theorem d_K_fillFrom_150 : decode c_K_fillFrom 150 = .ok (.iconst 1, 1) := by decide +kernel
theorem d_K_fillFrom_151 : decode c_K_fillFrom 151 = .ok (.putfield 9, 3) := by decide +kernel
theorem d_K_fillFrom_154 : decode c_K_fillFrom 154 = .ok (.return_, 1) := by decide +kernel
theorem d_K_fillA_0 : decode c_K_fillA 0 = .ok (.iconst 0, 1) := by decide +kernel
theorem d_K_fillA_1 : decode c_K_fillA 1 = .ok (.istore 4, 2) := by decide +kernel
theorem d_K_fillA_3 : decode c_K_fillA 3 = .ok (.iload 4, 2) := by decide +kernel
theorem d_K_fillA_5 : decode c_K_fillA 5 = .ok (.bipush 8, 2) := by decide +kernel
theorem d_K_fillA_7 : decode c_K_fillA 7 = .ok (.if_icmp .ge 68, 3) := by decide +kernel
theorem d_K_fillA_10 : decode c_K_fillA 10 = .ok (.aload_n 3, 1) := by decide +kernel
theorem d_K_fillA_11 : decode c_K_fillA 11 = .ok (.invokevirtual 70, 3) := by decide +kernel
theorem d_K_fillA_14 : decode c_K_fillA 14 = .ok (.aload_n 3, 1) := by decide +kernel
theorem d_K_fillA_15 : decode c_K_fillA 15 = .ok (.iload 4, 2) := by decide +kernel
theorem d_K_fillA_17 : decode c_K_fillA 17 = .ok (.invokevirtual 84, 3) := by decide +kernel
theorem d_K_fillA_20 : decode c_K_fillA 20 = .ok (.aload_n 3, 1) := by decide +kernel
theorem d_K_fillA_21 : decode c_K_fillA 21 = .ok (.iconst 0, 1) := by decide +kernel
theorem d_K_fillA_22 : decode c_K_fillA 22 = .ok (.invokevirtual 84, 3) := by decide +kernel
theorem d_K_fillA_25 : decode c_K_fillA 25 = .ok (.aload_n 3, 1) := by decide +kernel
theorem d_K_fillA_26 : decode c_K_fillA 26 = .ok (.lload_n 1, 1) := by decide +kernel
theorem d_K_fillA_27 : decode c_K_fillA 27 = .ok (.bipush 8, 2) := by decide +kernel
theorem d_K_fillA_29 : decode c_K_fillA 29 = .ok (.invokevirtual 88, 3) := by decide +kernel
theorem d_K_fillA_32 : decode c_K_fillA 32 = .ok (.aload_n 3, 1) := by decide +kernel
theorem d_K_fillA_33 : decode c_K_fillA 33 = .ok (.invokevirtual 77, 3) := by decide +kernel
theorem d_K_fillA_36 : decode c_K_fillA 36 = .ok (.iconst 0, 1) := by decide +kernel
theorem d_K_fillA_37 : decode c_K_fillA 37 = .ok (.istore 5, 2) := by decide +kernel
theorem d_K_fillA_39 : decode c_K_fillA 39 = .ok (.iload 5, 2) := by decide +kernel
theorem d_K_fillA_41 : decode c_K_fillA 41 = .ok (.bipush 8, 2) := by decide +kernel
theorem d_K_fillA_43 : decode c_K_fillA 43 = .ok (.if_icmp .ge 26, 3) := by decide +kernel
theorem d_K_fillA_46 : decode c_K_fillA 46 = .ok (.aload_n 0, 1) := by decide +kernel
theorem d_K_fillA_47 : decode c_K_fillA 47 = .ok (.getfield 27, 3) := by decide +kernel
theorem d_K_fillA_50 : decode c_K_fillA 50 = .ok (.iload 4, 2) := by decide +kernel
theorem d_K_fillA_52 : decode c_K_fillA 52 = .ok (.iload 5, 2) := by decide +kernel
theorem d_K_fillA_54 : decode c_K_fillA 54 = .ok (.aload_n 3, 1) := by decide +kernel
theorem d_K_fillA_55 : decode c_K_fillA 55 = .ok (.iload 5, 2) := by decide +kernel
theorem d_K_fillA_57 : decode c_K_fillA 57 = .ok (.invokevirtual 92, 3) := by decide +kernel
theorem d_K_fillA_60 : decode c_K_fillA 60 = .ok (.invokevirtual 96, 3) := by decide +kernel
theorem d_K_fillA_63 : decode c_K_fillA 63 = .ok (.iinc 5 1, 3) := by decide +kernel
theorem d_K_fillA_66 : decode c_K_fillA 66 = .ok (.goto (-27), 3) := by decide +kernel
theorem d_K_fillA_69 : decode c_K_fillA 69 = .ok (.iinc 4 1, 3) := by decide +kernel
theorem d_K_fillA_72 : decode c_K_fillA 72 = .ok (.goto (-69), 3) := by decide +kernel
theorem d_K_fillA_75 : decode c_K_fillA 75 = .ok (.return_, 1) := by decide +kernel
theorem d_K_matrix_0 : decode c_K_matrix 0 = .ok (.iload_n 1, 1) := by decide +kernel
theorem d_K_matrix_1 : decode c_K_matrix 1 = .ok (.tableswitch 42 0 2 #[27, 32, 37], 27) := by decide +kernel
theorem d_K_matrix_28 : decode c_K_matrix 28 = .ok (.aload_n 0, 1) := by decide +kernel
theorem d_K_matrix_29 : decode c_K_matrix 29 = .ok (.getfield 27, 3) := by decide +kernel
theorem d_K_matrix_32 : decode c_K_matrix 32 = .ok (.areturn, 1) := by decide +kernel
theorem d_K_matrix_33 : decode c_K_matrix 33 = .ok (.aload_n 0, 1) := by decide +kernel
theorem d_K_matrix_34 : decode c_K_matrix 34 = .ok (.getfield 31, 3) := by decide +kernel
theorem d_K_matrix_37 : decode c_K_matrix 37 = .ok (.areturn, 1) := by decide +kernel
theorem d_K_matrix_38 : decode c_K_matrix 38 = .ok (.aload_n 0, 1) := by decide +kernel
theorem d_K_matrix_39 : decode c_K_matrix 39 = .ok (.getfield 37, 3) := by decide +kernel
theorem d_K_matrix_42 : decode c_K_matrix 42 = .ok (.areturn, 1) := by decide +kernel
theorem d_K_matrix_43 : decode c_K_matrix 43 = .ok (.aload_n 0, 1) := by decide +kernel
theorem d_K_matrix_44 : decode c_K_matrix 44 = .ok (.getfield 34, 3) := by decide +kernel
theorem d_K_matrix_47 : decode c_K_matrix 47 = .ok (.areturn, 1) := by decide +kernel
end DC
end
section
section DC
theorem d_W_init_0 : decode c_W_init 0 = .ok (.aload_n 0, 1) := by decide +kernel
theorem d_W_init_1 : decode c_W_init 1 = .ok (.invokespecial 3, 3) := by decide +kernel
theorem d_W_init_4 : decode c_W_init 4 = .ok (.aload_n 0, 1) := by decide +kernel
theorem d_W_init_5 : decode c_W_init 5 = .ok (.iconst 0, 1) := by decide +kernel
theorem d_W_init_6 : decode c_W_init 6 = .ok (.putfield 9, 3) := by decide +kernel
theorem d_W_init_9 : decode c_W_init 9 = .ok (.aload_n 0, 1) := by decide +kernel
theorem d_W_init_10 : decode c_W_init 10 = .ok (.bipush 90, 2) := by decide +kernel
theorem d_W_init_12 : decode c_W_init 12 = .ok (.newarray .int, 2) := by decide +kernel
theorem d_W_init_14 : decode c_W_init 14 = .ok (.putfield 15, 3) := by decide +kernel
theorem d_W_init_17 : decode c_W_init 17 = .ok (.return_, 1) := by decide +kernel
end DC
end
section
section DC
theorem d_L_init_0 : decode c_L_init 0 = .ok (.aload_n 0, 1) := by decide +kernel
theorem d_L_init_1 : decode c_L_init 1 = .ok (.invokespecial 1, 3) := by decide +kernel
theorem d_L_init_4 : decode c_L_init 4 = .ok (.aload_n 0, 1) := by decide +kernel
theorem d_L_init_5 : decode c_L_init 5 = .ok (.iconst 4, 1) := by decide +kernel
theorem d_L_init_6 : decode c_L_init 6 = .ok (.anewarray 9, 3) := by decide +kernel
theorem d_L_init_9 : decode c_L_init 9 = .ok (.putfield 11, 3) := by decide +kernel
theorem d_L_init_12 : decode c_L_init 12 = .ok (.aload_n 0, 1) := by decide +kernel
theorem d_L_init_13 : decode c_L_init 13 = .ok (.iconst 4, 1) := by decide +kernel
theorem d_L_init_14 : decode c_L_init 14 = .ok (.anewarray 15, 3) := by decide +kernel
theorem d_L_init_17 : decode c_L_init 17 = .ok (.putfield 17, 3) := by decide +kernel
theorem d_L_init_20 : decode c_L_init 20 = .ok (.aload_n 0, 1) := by decide +kernel
theorem d_L_init_21 : decode c_L_init 21 = .ok (.new 21, 3) := by decide +kernel
theorem d_L_init_24 : decode c_L_init 24 = .ok (.dup, 1) := by decide +kernel
theorem d_L_init_25 : decode c_L_init 25 = .ok (.invokespecial 23, 3) := by decide +kernel
theorem d_L_init_28 : decode c_L_init 28 = .ok (.putfield 24, 3) := by decide +kernel
theorem d_L_init_31 : decode c_L_init 31 = .ok (.iconst 0, 1) := by decide +kernel
theorem d_L_init_32 : decode c_L_init 32 = .ok (.istore_n 1, 1) := by decide +kernel
theorem d_L_init_33 : decode c_L_init 33 = .ok (.iload_n 1, 1) := by decide +kernel
theorem d_L_init_34 : decode c_L_init 34 = .ok (.iconst 4, 1) := by decide +kernel
theorem d_L_init_35 : decode c_L_init 35 = .ok (.if_icmp .ge 35, 3) := by decide +kernel
theorem d_L_init_38 : decode c_L_init 38 = .ok (.aload_n 0, 1) := by decide +kernel
theorem d_L_init_39 : decode c_L_init 39 = .ok (.getfield 11, 3) := by decide +kernel
theorem d_L_init_42 : decode c_L_init 42 = .ok (.iload_n 1, 1) := by decide +kernel
theorem d_L_init_43 : decode c_L_init 43 = .ok (.new 9, 3) := by decide +kernel
theorem d_L_init_46 : decode c_L_init 46 = .ok (.dup, 1) := by decide +kernel
theorem d_L_init_47 : decode c_L_init 47 = .ok (.invokespecial 28, 3) := by decide +kernel
theorem d_L_init_50 : decode c_L_init 50 = .ok (.aastore, 1) := by decide +kernel
theorem d_L_init_51 : decode c_L_init 51 = .ok (.aload_n 0, 1) := by decide +kernel
theorem d_L_init_52 : decode c_L_init 52 = .ok (.getfield 17, 3) := by decide +kernel
theorem d_L_init_55 : decode c_L_init 55 = .ok (.iload_n 1, 1) := by decide +kernel
theorem d_L_init_56 : decode c_L_init 56 = .ok (.new 15, 3) := by decide +kernel
theorem d_L_init_59 : decode c_L_init 59 = .ok (.dup, 1) := by decide +kernel
theorem d_L_init_60 : decode c_L_init 60 = .ok (.invokespecial 29, 3) := by decide +kernel
theorem d_L_init_63 : decode c_L_init 63 = .ok (.aastore, 1) := by decide +kernel
theorem d_L_init_64 : decode c_L_init 64 = .ok (.iinc 1 1, 3) := by decide +kernel
theorem d_L_init_67 : decode c_L_init 67 = .ok (.goto (-34), 3) := by decide +kernel
theorem d_L_init_70 : decode c_L_init 70 = .ok (.return_, 1) := by decide +kernel
theorem d_L_make_0 : decode c_L_make 0 = .ok (.iload_n 1, 1) := by decide +kernel
theorem d_L_make_1 : decode c_L_make 1 = .ok (.invokestatic 30, 3) := by decide +kernel
theorem d_L_make_4 : decode c_L_make 4 = .ok (.aload_n 0, 1) := by decide +kernel
theorem d_L_make_5 : decode c_L_make 5 = .ok (.getfield 11, 3) := by decide +kernel
theorem d_L_make_8 : decode c_L_make 8 = .ok (.iload_n 1, 1) := by decide +kernel
theorem d_L_make_9 : decode c_L_make 9 = .ok (.aaload, 1) := by decide +kernel
theorem d_L_make_10 : decode c_L_make 10 = .ok (.lload_n 2, 1) := by decide +kernel
theorem d_L_make_11 : decode c_L_make 11 = .ok (.lload 4, 2) := by decide +kernel
theorem d_L_make_13 : decode c_L_make 13 = .ok (.lload 6, 2) := by decide +kernel
theorem d_L_make_15 : decode c_L_make 15 = .ok (.aload_n 0, 1) := by decide +kernel
theorem d_L_make_16 : decode c_L_make 16 = .ok (.getfield 24, 3) := by decide +kernel
theorem d_L_make_19 : decode c_L_make 19 = .ok (.getfield 34, 3) := by decide +kernel
theorem d_L_make_22 : decode c_L_make 22 = .ok (.invokevirtual 38, 3) := by decide +kernel
theorem d_L_make_25 : decode c_L_make 25 = .ok (.aload_n 0, 1) := by decide +kernel
theorem d_L_make_26 : decode c_L_make 26 = .ok (.getfield 11, 3) := by decide +kernel
theorem d_L_make_29 : decode c_L_make 29 = .ok (.iload_n 1, 1) := by decide +kernel
theorem d_L_make_30 : decode c_L_make 30 = .ok (.aaload, 1) := by decide +kernel
theorem d_L_make_31 : decode c_L_make 31 = .ok (.getfield 42, 3) := by decide +kernel
theorem d_L_make_34 : decode c_L_make 34 = .ok (.lreturn, 1) := by decide +kernel
theorem d_L_refuseNoPlace_0 : decode c_L_refuseNoPlace 0 = .ok (.iload_n 0, 1) := by decide +kernel
theorem d_L_refuseNoPlace_1 : decode c_L_refuseNoPlace 1 = .ok (.ifCond .lt 8, 3) := by decide +kernel
theorem d_L_refuseNoPlace_4 : decode c_L_refuseNoPlace 4 = .ok (.iload_n 0, 1) := by decide +kernel
theorem d_L_refuseNoPlace_5 : decode c_L_refuseNoPlace 5 = .ok (.iconst 4, 1) := by decide +kernel
theorem d_L_refuseNoPlace_6 : decode c_L_refuseNoPlace 6 = .ok (.if_icmp .lt 13, 3) := by decide +kernel
theorem d_L_refuseNoPlace_9 : decode c_L_refuseNoPlace 9 = .ok (.new 137, 3) := by decide +kernel
theorem d_L_refuseNoPlace_12 : decode c_L_refuseNoPlace 12 = .ok (.dup, 1) := by decide +kernel
theorem d_L_refuseNoPlace_13 : decode c_L_refuseNoPlace 13 = .ok (.ldc 139, 2) := by decide +kernel
theorem d_L_refuseNoPlace_15 : decode c_L_refuseNoPlace 15 = .ok (.invokespecial 141, 3) := by decide +kernel
theorem d_L_refuseNoPlace_18 : decode c_L_refuseNoPlace 18 = .ok (.athrow, 1) := by decide +kernel
theorem d_L_refuseNoPlace_19 : decode c_L_refuseNoPlace 19 = .ok (.return_, 1) := by decide +kernel
theorem d_L_wrap_0 : decode c_L_wrap 0 = .ok (.iload_n 1, 1) := by decide +kernel
theorem d_L_wrap_1 : decode c_L_wrap 1 = .ok (.invokestatic 30, 3) := by decide +kernel
theorem d_L_wrap_4 : decode c_L_wrap 4 = .ok (.iload_n 2, 1) := by decide +kernel
theorem d_L_wrap_5 : decode c_L_wrap 5 = .ok (.invokestatic 30, 3) := by decide +kernel
theorem d_L_wrap_8 : decode c_L_wrap 8 = .ok (.aload_n 0, 1) := by decide +kernel
theorem d_L_wrap_9 : decode c_L_wrap 9 = .ok (.getfield 11, 3) := by decide +kernel
theorem d_L_wrap_12 : decode c_L_wrap 12 = .ok (.iload_n 2, 1) := by decide +kernel
theorem d_L_wrap_13 : decode c_L_wrap 13 = .ok (.aaload, 1) := by decide +kernel
theorem d_L_wrap_14 : decode c_L_wrap 14 = .ok (.getfield 46, 3) := by decide +kernel
theorem d_L_wrap_17 : decode c_L_wrap 17 = .ok (.invokestatic 50, 3) := by decide +kernel
theorem d_L_wrap_20 : decode c_L_wrap 20 = .ok (.aload_n 0, 1) := by decide +kernel
theorem d_L_wrap_21 : decode c_L_wrap 21 = .ok (.getfield 24, 3) := by decide +kernel
theorem d_L_wrap_24 : decode c_L_wrap 24 = .ok (.iload_n 3, 1) := by decide +kernel
theorem d_L_wrap_25 : decode c_L_wrap 25 = .ok (.aload_n 0, 1) := by decide +kernel
theorem d_L_wrap_26 : decode c_L_wrap 26 = .ok (.getfield 11, 3) := by decide +kernel
theorem d_L_wrap_29 : decode c_L_wrap 29 = .ok (.iload_n 2, 1) := by decide +kernel
theorem d_L_wrap_30 : decode c_L_wrap 30 = .ok (.aaload, 1) := by decide +kernel
theorem d_L_wrap_31 : decode c_L_wrap 31 = .ok (.aload_n 0, 1) := by decide +kernel
theorem d_L_wrap_32 : decode c_L_wrap 32 = .ok (.getfield 17, 3) := by decide +kernel
theorem d_L_wrap_35 : decode c_L_wrap 35 = .ok (.iload_n 1, 1) := by decide +kernel
theorem d_L_wrap_36 : decode c_L_wrap 36 = .ok (.aaload, 1) := by decide +kernel
theorem d_L_wrap_37 : decode c_L_wrap 37 = .ok (.getfield 54, 3) := by decide +kernel
theorem d_L_wrap_40 : decode c_L_wrap 40 = .ok (.invokevirtual 58, 3) := by decide +kernel
theorem d_L_wrap_43 : decode c_L_wrap 43 = .ok (.lstore 4, 2) := by decide +kernel
theorem d_L_wrap_45 : decode c_L_wrap 45 = .ok (.aload_n 0, 1) := by decide +kernel
theorem d_L_wrap_46 : decode c_L_wrap 46 = .ok (.getfield 17, 3) := by decide +kernel
theorem d_L_wrap_49 : decode c_L_wrap 49 = .ok (.iload_n 1, 1) := by decide +kernel
theorem d_L_wrap_50 : decode c_L_wrap 50 = .ok (.aaload, 1) := by decide +kernel
theorem d_L_wrap_51 : decode c_L_wrap 51 = .ok (.iconst 1, 1) := by decide +kernel
theorem d_L_wrap_52 : decode c_L_wrap 52 = .ok (.putfield 62, 3) := by decide +kernel
theorem d_L_wrap_55 : decode c_L_wrap 55 = .ok (.lload 4, 2) := by decide +kernel
theorem d_L_wrap_57 : decode c_L_wrap 57 = .ok (.lreturn, 1) := by decide +kernel
theorem d_L_refuseEmpty_0 : decode c_L_refuseEmpty 0 = .ok (.iload_n 0, 1) := by decide +kernel
theorem d_L_refuseEmpty_1 : decode c_L_refuseEmpty 1 = .ok (.ifCond .ne 13, 3) := by decide +kernel
theorem d_L_refuseEmpty_4 : decode c_L_refuseEmpty 4 = .ok (.new 148, 3) := by decide +kernel
theorem d_L_refuseEmpty_7 : decode c_L_refuseEmpty 7 = .ok (.dup, 1) := by decide +kernel
theorem d_L_refuseEmpty_8 : decode c_L_refuseEmpty 8 = .ok (.ldc 150, 2) := by decide +kernel
theorem d_L_refuseEmpty_10 : decode c_L_refuseEmpty 10 = .ok (.invokespecial 152, 3) := by decide +kernel
theorem d_L_refuseEmpty_13 : decode c_L_refuseEmpty 13 = .ok (.athrow, 1) := by decide +kernel
theorem d_L_refuseEmpty_14 : decode c_L_refuseEmpty 14 = .ok (.return_, 1) := by decide +kernel
theorem d_L_unwrap_0 : decode c_L_unwrap 0 = .ok (.aload_n 0, 1) := by decide +kernel
theorem d_L_unwrap_1 : decode c_L_unwrap 1 = .ok (.iload_n 1, 1) := by decide +kernel
theorem d_L_unwrap_2 : decode c_L_unwrap 2 = .ok (.iload_n 2, 1) := by decide +kernel
theorem d_L_unwrap_3 : decode c_L_unwrap 3 = .ok (.invokevirtual 63, 3) := by decide +kernel
theorem d_L_unwrap_6 : decode c_L_unwrap 6 = .ok (.aload_n 0, 1) := by decide +kernel
theorem d_L_unwrap_7 : decode c_L_unwrap 7 = .ok (.getfield 24, 3) := by decide +kernel
theorem d_L_unwrap_10 : decode c_L_unwrap 10 = .ok (.aload_n 0, 1) := by decide +kernel
theorem d_L_unwrap_11 : decode c_L_unwrap 11 = .ok (.getfield 17, 3) := by decide +kernel
theorem d_L_unwrap_14 : decode c_L_unwrap 14 = .ok (.iload_n 1, 1) := by decide +kernel
theorem d_L_unwrap_15 : decode c_L_unwrap 15 = .ok (.aaload, 1) := by decide +kernel
theorem d_L_unwrap_16 : decode c_L_unwrap 16 = .ok (.getfield 54, 3) := by decide +kernel
theorem d_L_unwrap_19 : decode c_L_unwrap 19 = .ok (.aload_n 0, 1) := by decide +kernel
theorem d_L_unwrap_20 : decode c_L_unwrap 20 = .ok (.getfield 11, 3) := by decide +kernel
theorem d_L_unwrap_23 : decode c_L_unwrap 23 = .ok (.iload_n 2, 1) := by decide +kernel
theorem d_L_unwrap_24 : decode c_L_unwrap 24 = .ok (.aaload, 1) := by decide +kernel
theorem d_L_unwrap_25 : decode c_L_unwrap 25 = .ok (.invokevirtual 67, 3) := by decide +kernel
theorem d_L_unwrap_28 : decode c_L_unwrap 28 = .ok (.lreturn, 1) := by decide +kernel
theorem d_L_refuseUnreadable_0 : decode c_L_refuseUnreadable 0 = .ok (.iload_n 1, 1) := by decide +kernel
theorem d_L_refuseUnreadable_1 : decode c_L_refuseUnreadable 1 = .ok (.invokestatic 30, 3) := by decide +kernel
theorem d_L_refuseUnreadable_4 : decode c_L_refuseUnreadable 4 = .ok (.iload_n 2, 1) := by decide +kernel
theorem d_L_refuseUnreadable_5 : decode c_L_refuseUnreadable 5 = .ok (.invokestatic 30, 3) := by decide +kernel
theorem d_L_refuseUnreadable_8 : decode c_L_refuseUnreadable 8 = .ok (.aload_n 0, 1) := by decide +kernel
theorem d_L_refuseUnreadable_9 : decode c_L_refuseUnreadable 9 = .ok (.getfield 17, 3) := by decide +kernel
theorem d_L_refuseUnreadable_12 : decode c_L_refuseUnreadable 12 = .ok (.iload_n 1, 1) := by decide +kernel
theorem d_L_refuseUnreadable_13 : decode c_L_refuseUnreadable 13 = .ok (.aaload, 1) := by decide +kernel
theorem d_L_refuseUnreadable_14 : decode c_L_refuseUnreadable 14 = .ok (.getfield 62, 3) := by decide +kernel
theorem d_L_refuseUnreadable_17 : decode c_L_refuseUnreadable 17 = .ok (.invokestatic 50, 3) := by decide +kernel
theorem d_L_refuseUnreadable_20 : decode c_L_refuseUnreadable 20 = .ok (.aload_n 0, 1) := by decide +kernel
theorem d_L_refuseUnreadable_21 : decode c_L_refuseUnreadable 21 = .ok (.getfield 11, 3) := by decide +kernel
theorem d_L_refuseUnreadable_24 : decode c_L_refuseUnreadable 24 = .ok (.iload_n 2, 1) := by decide +kernel
theorem d_L_refuseUnreadable_25 : decode c_L_refuseUnreadable 25 = .ok (.aaload, 1) := by decide +kernel
theorem d_L_refuseUnreadable_26 : decode c_L_refuseUnreadable 26 = .ok (.getfield 46, 3) := by decide +kernel
theorem d_L_refuseUnreadable_29 : decode c_L_refuseUnreadable 29 = .ok (.invokestatic 50, 3) := by decide +kernel
theorem d_L_refuseUnreadable_32 : decode c_L_refuseUnreadable 32 = .ok (.return_, 1) := by decide +kernel
theorem d_L_change_0 : decode c_L_change 0 = .ok (.aload_n 0, 1) := by decide +kernel
theorem d_L_change_1 : decode c_L_change 1 = .ok (.iload_n 1, 1) := by decide +kernel
theorem d_L_change_2 : decode c_L_change 2 = .ok (.iload_n 2, 1) := by decide +kernel
theorem d_L_change_3 : decode c_L_change 3 = .ok (.invokevirtual 71, 3) := by decide +kernel
theorem d_L_change_6 : decode c_L_change 6 = .ok (.aload_n 0, 1) := by decide +kernel
theorem d_L_change_7 : decode c_L_change 7 = .ok (.getfield 17, 3) := by decide +kernel
theorem d_L_change_10 : decode c_L_change 10 = .ok (.iload_n 1, 1) := by decide +kernel
theorem d_L_change_11 : decode c_L_change 11 = .ok (.aaload, 1) := by decide +kernel
theorem d_L_change_12 : decode c_L_change 12 = .ok (.getfield 54, 3) := by decide +kernel
theorem d_L_change_15 : decode c_L_change 15 = .ok (.iload_n 2, 1) := by decide +kernel
theorem d_L_change_16 : decode c_L_change 16 = .ok (.dup2, 1) := by decide +kernel
theorem d_L_change_17 : decode c_L_change 17 = .ok (.iaload, 1) := by decide +kernel
theorem d_L_change_18 : decode c_L_change 18 = .ok (.iload_n 3, 1) := by decide +kernel
theorem d_L_change_19 : decode c_L_change 19 = .ok (.sipush 255, 3) := by decide +kernel
theorem d_L_change_22 : decode c_L_change 22 = .ok (.iand, 1) := by decide +kernel
theorem d_L_change_23 : decode c_L_change 23 = .ok (.ixor, 1) := by decide +kernel
theorem d_L_change_24 : decode c_L_change 24 = .ok (.iastore, 1) := by decide +kernel
theorem d_L_change_25 : decode c_L_change 25 = .ok (.aload_n 0, 1) := by decide +kernel
theorem d_L_change_26 : decode c_L_change 26 = .ok (.getfield 17, 3) := by decide +kernel
theorem d_L_change_29 : decode c_L_change 29 = .ok (.iload_n 1, 1) := by decide +kernel
theorem d_L_change_30 : decode c_L_change 30 = .ok (.aaload, 1) := by decide +kernel
theorem d_L_change_31 : decode c_L_change 31 = .ok (.getfield 54, 3) := by decide +kernel
theorem d_L_change_34 : decode c_L_change 34 = .ok (.iload_n 2, 1) := by decide +kernel
theorem d_L_change_35 : decode c_L_change 35 = .ok (.iaload, 1) := by decide +kernel
theorem d_L_change_36 : decode c_L_change 36 = .ok (.ireturn, 1) := by decide +kernel
theorem d_L_refuseNoWrapByte_0 : decode c_L_refuseNoWrapByte 0 = .ok (.iload_n 1, 1) := by decide +kernel
theorem d_L_refuseNoWrapByte_1 : decode c_L_refuseNoWrapByte 1 = .ok (.invokestatic 30, 3) := by decide +kernel
theorem d_L_refuseNoWrapByte_4 : decode c_L_refuseNoWrapByte 4 = .ok (.aload_n 0, 1) := by decide +kernel
theorem d_L_refuseNoWrapByte_5 : decode c_L_refuseNoWrapByte 5 = .ok (.getfield 17, 3) := by decide +kernel
theorem d_L_refuseNoWrapByte_8 : decode c_L_refuseNoWrapByte 8 = .ok (.iload_n 1, 1) := by decide +kernel
theorem d_L_refuseNoWrapByte_9 : decode c_L_refuseNoWrapByte 9 = .ok (.aaload, 1) := by decide +kernel
theorem d_L_refuseNoWrapByte_10 : decode c_L_refuseNoWrapByte 10 = .ok (.getfield 62, 3) := by decide +kernel
theorem d_L_refuseNoWrapByte_13 : decode c_L_refuseNoWrapByte 13 = .ok (.invokestatic 50, 3) := by decide +kernel
theorem d_L_refuseNoWrapByte_16 : decode c_L_refuseNoWrapByte 16 = .ok (.iload_n 2, 1) := by decide +kernel
theorem d_L_refuseNoWrapByte_17 : decode c_L_refuseNoWrapByte 17 = .ok (.ifCond .lt 13, 3) := by decide +kernel
theorem d_L_refuseNoWrapByte_20 : decode c_L_refuseNoWrapByte 20 = .ok (.iload_n 2, 1) := by decide +kernel
theorem d_L_refuseNoWrapByte_21 : decode c_L_refuseNoWrapByte 21 = .ok (.bipush 90, 2) := by decide +kernel
theorem d_L_refuseNoWrapByte_23 : decode c_L_refuseNoWrapByte 23 = .ok (.if_icmp .ge 7, 3) := by decide +kernel
theorem d_L_refuseNoWrapByte_26 : decode c_L_refuseNoWrapByte 26 = .ok (.iconst 1, 1) := by decide +kernel
theorem d_L_refuseNoWrapByte_27 : decode c_L_refuseNoWrapByte 27 = .ok (.goto 4, 3) := by decide +kernel
theorem d_L_refuseNoWrapByte_30 : decode c_L_refuseNoWrapByte 30 = .ok (.iconst 0, 1) := by decide +kernel
theorem d_L_refuseNoWrapByte_31 : decode c_L_refuseNoWrapByte 31 = .ok (.invokestatic 80, 3) := by decide +kernel
theorem d_L_refuseNoWrapByte_34 : decode c_L_refuseNoWrapByte 34 = .ok (.return_, 1) := by decide +kernel
theorem d_L_refuseOutside_0 : decode c_L_refuseOutside 0 = .ok (.iload_n 0, 1) := by decide +kernel
theorem d_L_refuseOutside_1 : decode c_L_refuseOutside 1 = .ok (.ifCond .ne 13, 3) := by decide +kernel
theorem d_L_refuseOutside_4 : decode c_L_refuseOutside 4 = .ok (.new 153, 3) := by decide +kernel
theorem d_L_refuseOutside_7 : decode c_L_refuseOutside 7 = .ok (.dup, 1) := by decide +kernel
theorem d_L_refuseOutside_8 : decode c_L_refuseOutside 8 = .ok (.ldc 155, 2) := by decide +kernel
theorem d_L_refuseOutside_10 : decode c_L_refuseOutside 10 = .ok (.invokespecial 157, 3) := by decide +kernel
theorem d_L_refuseOutside_13 : decode c_L_refuseOutside 13 = .ok (.athrow, 1) := by decide +kernel
theorem d_L_refuseOutside_14 : decode c_L_refuseOutside 14 = .ok (.return_, 1) := by decide +kernel
theorem d_L_copy_0 : decode c_L_copy 0 = .ok (.iload_n 1, 1) := by decide +kernel
theorem d_L_copy_1 : decode c_L_copy 1 = .ok (.invokestatic 30, 3) := by decide +kernel
theorem d_L_copy_4 : decode c_L_copy 4 = .ok (.iload_n 2, 1) := by decide +kernel
theorem d_L_copy_5 : decode c_L_copy 5 = .ok (.invokestatic 30, 3) := by decide +kernel
theorem d_L_copy_8 : decode c_L_copy 8 = .ok (.aload_n 0, 1) := by decide +kernel
theorem d_L_copy_9 : decode c_L_copy 9 = .ok (.getfield 17, 3) := by decide +kernel
theorem d_L_copy_12 : decode c_L_copy 12 = .ok (.iload_n 1, 1) := by decide +kernel
theorem d_L_copy_13 : decode c_L_copy 13 = .ok (.aaload, 1) := by decide +kernel
theorem d_L_copy_14 : decode c_L_copy 14 = .ok (.getfield 62, 3) := by decide +kernel
theorem d_L_copy_17 : decode c_L_copy 17 = .ok (.invokestatic 50, 3) := by decide +kernel
theorem d_L_copy_20 : decode c_L_copy 20 = .ok (.aload_n 0, 1) := by decide +kernel
theorem d_L_copy_21 : decode c_L_copy 21 = .ok (.getfield 17, 3) := by decide +kernel
theorem d_L_copy_24 : decode c_L_copy 24 = .ok (.iload_n 1, 1) := by decide +kernel
theorem d_L_copy_25 : decode c_L_copy 25 = .ok (.aaload, 1) := by decide +kernel
theorem d_L_copy_26 : decode c_L_copy 26 = .ok (.getfield 54, 3) := by decide +kernel
theorem d_L_copy_29 : decode c_L_copy 29 = .ok (.iconst 0, 1) := by decide +kernel
theorem d_L_copy_30 : decode c_L_copy 30 = .ok (.aload_n 0, 1) := by decide +kernel
theorem d_L_copy_31 : decode c_L_copy 31 = .ok (.getfield 17, 3) := by decide +kernel
theorem d_L_copy_34 : decode c_L_copy 34 = .ok (.iload_n 2, 1) := by decide +kernel
theorem d_L_copy_35 : decode c_L_copy 35 = .ok (.aaload, 1) := by decide +kernel
theorem d_L_copy_36 : decode c_L_copy 36 = .ok (.getfield 54, 3) := by decide +kernel
theorem d_L_copy_39 : decode c_L_copy 39 = .ok (.iconst 0, 1) := by decide +kernel
theorem d_L_copy_40 : decode c_L_copy 40 = .ok (.bipush 90, 2) := by decide +kernel
theorem d_L_copy_42 : decode c_L_copy 42 = .ok (.invokestatic 74, 3) := by decide +kernel
theorem d_L_copy_45 : decode c_L_copy 45 = .ok (.aload_n 0, 1) := by decide +kernel
theorem d_L_copy_46 : decode c_L_copy 46 = .ok (.getfield 17, 3) := by decide +kernel
theorem d_L_copy_49 : decode c_L_copy 49 = .ok (.iload_n 2, 1) := by decide +kernel
theorem d_L_copy_50 : decode c_L_copy 50 = .ok (.aaload, 1) := by decide +kernel
theorem d_L_copy_51 : decode c_L_copy 51 = .ok (.iconst 1, 1) := by decide +kernel
theorem d_L_copy_52 : decode c_L_copy 52 = .ok (.putfield 62, 3) := by decide +kernel
theorem d_L_copy_55 : decode c_L_copy 55 = .ok (.return_, 1) := by decide +kernel
theorem d_L_forget_0 : decode c_L_forget 0 = .ok (.iload_n 2, 1) := by decide +kernel
theorem d_L_forget_1 : decode c_L_forget 1 = .ok (.invokestatic 30, 3) := by decide +kernel
theorem d_L_forget_4 : decode c_L_forget 4 = .ok (.iload_n 1, 1) := by decide +kernel
theorem d_L_forget_5 : decode c_L_forget 5 = .ok (.ifCond .eq 15, 3) := by decide +kernel
theorem d_L_forget_8 : decode c_L_forget 8 = .ok (.aload_n 0, 1) := by decide +kernel
theorem d_L_forget_9 : decode c_L_forget 9 = .ok (.getfield 11, 3) := by decide +kernel
theorem d_L_forget_12 : decode c_L_forget 12 = .ok (.iload_n 2, 1) := by decide +kernel
theorem d_L_forget_13 : decode c_L_forget 13 = .ok (.aaload, 1) := by decide +kernel
theorem d_L_forget_14 : decode c_L_forget 14 = .ok (.getfield 46, 3) := by decide +kernel
theorem d_L_forget_17 : decode c_L_forget 17 = .ok (.goto 12, 3) := by decide +kernel
theorem d_L_forget_20 : decode c_L_forget 20 = .ok (.aload_n 0, 1) := by decide +kernel
theorem d_L_forget_21 : decode c_L_forget 21 = .ok (.getfield 17, 3) := by decide +kernel
theorem d_L_forget_24 : decode c_L_forget 24 = .ok (.iload_n 2, 1) := by decide +kernel
theorem d_L_forget_25 : decode c_L_forget 25 = .ok (.aaload, 1) := by decide +kernel
theorem d_L_forget_26 : decode c_L_forget 26 = .ok (.getfield 62, 3) := by decide +kernel
theorem d_L_forget_29 : decode c_L_forget 29 = .ok (.istore_n 3, 1) := by decide +kernel
theorem d_L_forget_30 : decode c_L_forget 30 = .ok (.iload_n 1, 1) := by decide +kernel
theorem d_L_forget_31 : decode c_L_forget 31 = .ok (.ifCond .eq 16, 3) := by decide +kernel
theorem d_L_forget_34 : decode c_L_forget 34 = .ok (.aload_n 0, 1) := by decide +kernel
theorem d_L_forget_35 : decode c_L_forget 35 = .ok (.getfield 11, 3) := by decide +kernel
theorem d_L_forget_38 : decode c_L_forget 38 = .ok (.iload_n 2, 1) := by decide +kernel
theorem d_L_forget_39 : decode c_L_forget 39 = .ok (.aaload, 1) := by decide +kernel
theorem d_L_forget_40 : decode c_L_forget 40 = .ok (.iconst 0, 1) := by decide +kernel
theorem d_L_forget_41 : decode c_L_forget 41 = .ok (.putfield 46, 3) := by decide +kernel
theorem d_L_forget_44 : decode c_L_forget 44 = .ok (.goto 13, 3) := by decide +kernel
theorem d_L_forget_47 : decode c_L_forget 47 = .ok (.aload_n 0, 1) := by decide +kernel
theorem d_L_forget_48 : decode c_L_forget 48 = .ok (.getfield 17, 3) := by decide +kernel
theorem d_L_forget_51 : decode c_L_forget 51 = .ok (.iload_n 2, 1) := by decide +kernel
theorem d_L_forget_52 : decode c_L_forget 52 = .ok (.aaload, 1) := by decide +kernel
theorem d_L_forget_53 : decode c_L_forget 53 = .ok (.iconst 0, 1) := by decide +kernel
theorem d_L_forget_54 : decode c_L_forget 54 = .ok (.putfield 62, 3) := by decide +kernel
theorem d_L_forget_57 : decode c_L_forget 57 = .ok (.iload_n 3, 1) := by decide +kernel
theorem d_L_forget_58 : decode c_L_forget 58 = .ok (.ireturn, 1) := by decide +kernel
theorem d_L_wrapByte_0 : decode c_L_wrapByte 0 = .ok (.aload_n 0, 1) := by decide +kernel
theorem d_L_wrapByte_1 : decode c_L_wrapByte 1 = .ok (.iload_n 1, 1) := by decide +kernel
theorem d_L_wrapByte_2 : decode c_L_wrapByte 2 = .ok (.iload_n 2, 1) := by decide +kernel
theorem d_L_wrapByte_3 : decode c_L_wrapByte 3 = .ok (.invokevirtual 71, 3) := by decide +kernel
theorem d_L_wrapByte_6 : decode c_L_wrapByte 6 = .ok (.aload_n 0, 1) := by decide +kernel
theorem d_L_wrapByte_7 : decode c_L_wrapByte 7 = .ok (.getfield 17, 3) := by decide +kernel
theorem d_L_wrapByte_10 : decode c_L_wrapByte 10 = .ok (.iload_n 1, 1) := by decide +kernel
theorem d_L_wrapByte_11 : decode c_L_wrapByte 11 = .ok (.aaload, 1) := by decide +kernel
theorem d_L_wrapByte_12 : decode c_L_wrapByte 12 = .ok (.getfield 54, 3) := by decide +kernel
theorem d_L_wrapByte_15 : decode c_L_wrapByte 15 = .ok (.iload_n 2, 1) := by decide +kernel
theorem d_L_wrapByte_16 : decode c_L_wrapByte 16 = .ok (.iaload, 1) := by decide +kernel
theorem d_L_wrapByte_17 : decode c_L_wrapByte 17 = .ok (.ireturn, 1) := by decide +kernel
theorem d_L_publicByte_0 : decode c_L_publicByte 0 = .ok (.iload_n 1, 1) := by decide +kernel
theorem d_L_publicByte_1 : decode c_L_publicByte 1 = .ok (.invokestatic 30, 3) := by decide +kernel
theorem d_L_publicByte_4 : decode c_L_publicByte 4 = .ok (.aload_n 0, 1) := by decide +kernel
theorem d_L_publicByte_5 : decode c_L_publicByte 5 = .ok (.getfield 11, 3) := by decide +kernel
theorem d_L_publicByte_8 : decode c_L_publicByte 8 = .ok (.iload_n 1, 1) := by decide +kernel
theorem d_L_publicByte_9 : decode c_L_publicByte 9 = .ok (.aaload, 1) := by decide +kernel
theorem d_L_publicByte_10 : decode c_L_publicByte 10 = .ok (.getfield 46, 3) := by decide +kernel
theorem d_L_publicByte_13 : decode c_L_publicByte 13 = .ok (.invokestatic 50, 3) := by decide +kernel
theorem d_L_publicByte_16 : decode c_L_publicByte 16 = .ok (.iload_n 2, 1) := by decide +kernel
theorem d_L_publicByte_17 : decode c_L_publicByte 17 = .ok (.ifCond .lt 13, 3) := by decide +kernel
theorem d_L_publicByte_20 : decode c_L_publicByte 20 = .ok (.iload_n 2, 1) := by decide +kernel
theorem d_L_publicByte_21 : decode c_L_publicByte 21 = .ok (.bipush 68, 2) := by decide +kernel
theorem d_L_publicByte_23 : decode c_L_publicByte 23 = .ok (.if_icmp .ge 7, 3) := by decide +kernel
theorem d_L_publicByte_26 : decode c_L_publicByte 26 = .ok (.iconst 1, 1) := by decide +kernel
theorem d_L_publicByte_27 : decode c_L_publicByte 27 = .ok (.goto 4, 3) := by decide +kernel
theorem d_L_publicByte_30 : decode c_L_publicByte 30 = .ok (.iconst 0, 1) := by decide +kernel
theorem d_L_publicByte_31 : decode c_L_publicByte 31 = .ok (.invokestatic 80, 3) := by decide +kernel
theorem d_L_publicByte_34 : decode c_L_publicByte 34 = .ok (.aload_n 0, 1) := by decide +kernel
theorem d_L_publicByte_35 : decode c_L_publicByte 35 = .ok (.getfield 11, 3) := by decide +kernel
theorem d_L_publicByte_38 : decode c_L_publicByte 38 = .ok (.iload_n 1, 1) := by decide +kernel
theorem d_L_publicByte_39 : decode c_L_publicByte 39 = .ok (.aaload, 1) := by decide +kernel
theorem d_L_publicByte_40 : decode c_L_publicByte 40 = .ok (.getfield 83, 3) := by decide +kernel
theorem d_L_publicByte_43 : decode c_L_publicByte 43 = .ok (.iload_n 2, 1) := by decide +kernel
theorem d_L_publicByte_44 : decode c_L_publicByte 44 = .ok (.iaload, 1) := by decide +kernel
theorem d_L_publicByte_45 : decode c_L_publicByte 45 = .ok (.ireturn, 1) := by decide +kernel
theorem d_L_entry_0 : decode c_L_entry 0 = .ok (.iload_n 1, 1) := by decide +kernel
theorem d_L_entry_1 : decode c_L_entry 1 = .ok (.invokestatic 30, 3) := by decide +kernel
theorem d_L_entry_4 : decode c_L_entry 4 = .ok (.iload_n 2, 1) := by decide +kernel
theorem d_L_entry_5 : decode c_L_entry 5 = .ok (.invokestatic 86, 3) := by decide +kernel
theorem d_L_entry_8 : decode c_L_entry 8 = .ok (.aload_n 0, 1) := by decide +kernel
theorem d_L_entry_9 : decode c_L_entry 9 = .ok (.getfield 11, 3) := by decide +kernel
theorem d_L_entry_12 : decode c_L_entry 12 = .ok (.iload_n 1, 1) := by decide +kernel
theorem d_L_entry_13 : decode c_L_entry 13 = .ok (.aaload, 1) := by decide +kernel
theorem d_L_entry_14 : decode c_L_entry 14 = .ok (.getfield 46, 3) := by decide +kernel
theorem d_L_entry_17 : decode c_L_entry 17 = .ok (.invokestatic 50, 3) := by decide +kernel
theorem d_L_entry_20 : decode c_L_entry 20 = .ok (.aload_n 0, 1) := by decide +kernel
theorem d_L_entry_21 : decode c_L_entry 21 = .ok (.getfield 11, 3) := by decide +kernel
theorem d_L_entry_24 : decode c_L_entry 24 = .ok (.iload_n 1, 1) := by decide +kernel
theorem d_L_entry_25 : decode c_L_entry 25 = .ok (.aaload, 1) := by decide +kernel
theorem d_L_entry_26 : decode c_L_entry 26 = .ok (.iload_n 2, 1) := by decide +kernel
theorem d_L_entry_27 : decode c_L_entry 27 = .ok (.invokevirtual 89, 3) := by decide +kernel
theorem d_L_entry_30 : decode c_L_entry 30 = .ok (.astore 5, 2) := by decide +kernel
theorem d_L_entry_32 : decode c_L_entry 32 = .ok (.aload 5, 2) := by decide +kernel
theorem d_L_entry_34 : decode c_L_entry 34 = .ok (.iload_n 3, 1) := by decide +kernel
theorem d_L_entry_35 : decode c_L_entry 35 = .ok (.iload 4, 2) := by decide +kernel
theorem d_L_entry_37 : decode c_L_entry 37 = .ok (.invokevirtual 93, 3) := by decide +kernel
theorem d_L_entry_40 : decode c_L_entry 40 = .ok (.invokestatic 80, 3) := by decide +kernel
theorem d_L_entry_43 : decode c_L_entry 43 = .ok (.aload 5, 2) := by decide +kernel
theorem d_L_entry_45 : decode c_L_entry 45 = .ok (.iload_n 3, 1) := by decide +kernel
theorem d_L_entry_46 : decode c_L_entry 46 = .ok (.iload 4, 2) := by decide +kernel
theorem d_L_entry_48 : decode c_L_entry 48 = .ok (.invokevirtual 99, 3) := by decide +kernel
theorem d_L_entry_51 : decode c_L_entry 51 = .ok (.ireturn, 1) := by decide +kernel
theorem d_L_refuseNoMatrix_0 : decode c_L_refuseNoMatrix 0 = .ok (.iload_n 0, 1) := by decide +kernel
theorem d_L_refuseNoMatrix_1 : decode c_L_refuseNoMatrix 1 = .ok (.ifCond .lt 8, 3) := by decide +kernel
theorem d_L_refuseNoMatrix_4 : decode c_L_refuseNoMatrix 4 = .ok (.iload_n 0, 1) := by decide +kernel
theorem d_L_refuseNoMatrix_5 : decode c_L_refuseNoMatrix 5 = .ok (.iconst 3, 1) := by decide +kernel
theorem d_L_refuseNoMatrix_6 : decode c_L_refuseNoMatrix 6 = .ok (.if_icmp .le 13, 3) := by decide +kernel
theorem d_L_refuseNoMatrix_9 : decode c_L_refuseNoMatrix 9 = .ok (.new 137, 3) := by decide +kernel
theorem d_L_refuseNoMatrix_12 : decode c_L_refuseNoMatrix 12 = .ok (.dup, 1) := by decide +kernel
theorem d_L_refuseNoMatrix_13 : decode c_L_refuseNoMatrix 13 = .ok (.ldc 144, 2) := by decide +kernel
theorem d_L_refuseNoMatrix_15 : decode c_L_refuseNoMatrix 15 = .ok (.invokespecial 141, 3) := by decide +kernel
theorem d_L_refuseNoMatrix_18 : decode c_L_refuseNoMatrix 18 = .ok (.athrow, 1) := by decide +kernel
theorem d_L_refuseNoMatrix_19 : decode c_L_refuseNoMatrix 19 = .ok (.return_, 1) := by decide +kernel
theorem d_L_noise_0 : decode c_L_noise 0 = .ok (.aload_n 0, 1) := by decide +kernel
theorem d_L_noise_1 : decode c_L_noise 1 = .ok (.iload_n 1, 1) := by decide +kernel
theorem d_L_noise_2 : decode c_L_noise 2 = .ok (.iload_n 2, 1) := by decide +kernel
theorem d_L_noise_3 : decode c_L_noise 3 = .ok (.invokevirtual 63, 3) := by decide +kernel
theorem d_L_noise_6 : decode c_L_noise 6 = .ok (.aload_n 0, 1) := by decide +kernel
theorem d_L_noise_7 : decode c_L_noise 7 = .ok (.getfield 24, 3) := by decide +kernel
theorem d_L_noise_10 : decode c_L_noise 10 = .ok (.getfield 103, 3) := by decide +kernel
theorem d_L_noise_13 : decode c_L_noise 13 = .ok (.iload_n 3, 1) := by decide +kernel
theorem d_L_noise_14 : decode c_L_noise 14 = .ok (.iload 4, 2) := by decide +kernel
theorem d_L_noise_16 : decode c_L_noise 16 = .ok (.invokevirtual 93, 3) := by decide +kernel
theorem d_L_noise_19 : decode c_L_noise 19 = .ok (.invokestatic 80, 3) := by decide +kernel
theorem d_L_noise_22 : decode c_L_noise 22 = .ok (.aload_n 0, 1) := by decide +kernel
theorem d_L_noise_23 : decode c_L_noise 23 = .ok (.getfield 24, 3) := by decide +kernel
theorem d_L_noise_26 : decode c_L_noise 26 = .ok (.aload_n 0, 1) := by decide +kernel
theorem d_L_noise_27 : decode c_L_noise 27 = .ok (.getfield 17, 3) := by decide +kernel
theorem d_L_noise_30 : decode c_L_noise 30 = .ok (.iload_n 1, 1) := by decide +kernel
theorem d_L_noise_31 : decode c_L_noise 31 = .ok (.aaload, 1) := by decide +kernel
theorem d_L_noise_32 : decode c_L_noise 32 = .ok (.getfield 54, 3) := by decide +kernel
theorem d_L_noise_35 : decode c_L_noise 35 = .ok (.aload_n 0, 1) := by decide +kernel
theorem d_L_noise_36 : decode c_L_noise 36 = .ok (.getfield 11, 3) := by decide +kernel
theorem d_L_noise_39 : decode c_L_noise 39 = .ok (.iload_n 2, 1) := by decide +kernel
theorem d_L_noise_40 : decode c_L_noise 40 = .ok (.aaload, 1) := by decide +kernel
theorem d_L_noise_41 : decode c_L_noise 41 = .ok (.invokevirtual 107, 3) := by decide +kernel
theorem d_L_noise_44 : decode c_L_noise 44 = .ok (.aload_n 0, 1) := by decide +kernel
theorem d_L_noise_45 : decode c_L_noise 45 = .ok (.getfield 24, 3) := by decide +kernel
theorem d_L_noise_48 : decode c_L_noise 48 = .ok (.iload_n 3, 1) := by decide +kernel
theorem d_L_noise_49 : decode c_L_noise 49 = .ok (.iload 4, 2) := by decide +kernel
theorem d_L_noise_51 : decode c_L_noise 51 = .ok (.invokevirtual 111, 3) := by decide +kernel
theorem d_L_noise_54 : decode c_L_noise 54 = .ok (.ireturn, 1) := by decide +kernel
theorem d_L_read_0 : decode c_L_read 0 = .ok (.aload_n 0, 1) := by decide +kernel
theorem d_L_read_1 : decode c_L_read 1 = .ok (.iload_n 1, 1) := by decide +kernel
theorem d_L_read_2 : decode c_L_read 2 = .ok (.iload_n 2, 1) := by decide +kernel
theorem d_L_read_3 : decode c_L_read 3 = .ok (.invokevirtual 63, 3) := by decide +kernel
theorem d_L_read_6 : decode c_L_read 6 = .ok (.aload_n 0, 1) := by decide +kernel
theorem d_L_read_7 : decode c_L_read 7 = .ok (.getfield 24, 3) := by decide +kernel
theorem d_L_read_10 : decode c_L_read 10 = .ok (.aload_n 0, 1) := by decide +kernel
theorem d_L_read_11 : decode c_L_read 11 = .ok (.getfield 17, 3) := by decide +kernel
theorem d_L_read_14 : decode c_L_read 14 = .ok (.iload_n 1, 1) := by decide +kernel
theorem d_L_read_15 : decode c_L_read 15 = .ok (.aaload, 1) := by decide +kernel
theorem d_L_read_16 : decode c_L_read 16 = .ok (.getfield 54, 3) := by decide +kernel
theorem d_L_read_19 : decode c_L_read 19 = .ok (.aload_n 0, 1) := by decide +kernel
theorem d_L_read_20 : decode c_L_read 20 = .ok (.getfield 11, 3) := by decide +kernel
theorem d_L_read_23 : decode c_L_read 23 = .ok (.iload_n 2, 1) := by decide +kernel
theorem d_L_read_24 : decode c_L_read 24 = .ok (.aaload, 1) := by decide +kernel
theorem d_L_read_25 : decode c_L_read 25 = .ok (.invokevirtual 107, 3) := by decide +kernel
theorem d_L_read_28 : decode c_L_read 28 = .ok (.aload_n 0, 1) := by decide +kernel
theorem d_L_read_29 : decode c_L_read 29 = .ok (.getfield 24, 3) := by decide +kernel
theorem d_L_read_32 : decode c_L_read 32 = .ok (.invokevirtual 114, 3) := by decide +kernel
theorem d_L_read_35 : decode c_L_read 35 = .ok (.ireturn, 1) := by decide +kernel
theorem d_L_shake_0 : decode c_L_shake 0 = .ok (.iload_n 1, 1) := by decide +kernel
theorem d_L_shake_1 : decode c_L_shake 1 = .ok (.invokestatic 118, 3) := by decide +kernel
theorem d_L_shake_4 : decode c_L_shake 4 = .ok (.aload_n 0, 1) := by decide +kernel
theorem d_L_shake_5 : decode c_L_shake 5 = .ok (.getfield 24, 3) := by decide +kernel
theorem d_L_shake_8 : decode c_L_shake 8 = .ok (.getfield 34, 3) := by decide +kernel
theorem d_L_shake_11 : decode c_L_shake 11 = .ok (.invokevirtual 121, 3) := by decide +kernel
theorem d_L_shake_14 : decode c_L_shake 14 = .ok (.aload_n 0, 1) := by decide +kernel
theorem d_L_shake_15 : decode c_L_shake 15 = .ok (.getfield 24, 3) := by decide +kernel
theorem d_L_shake_18 : decode c_L_shake 18 = .ok (.getfield 34, 3) := by decide +kernel
theorem d_L_shake_21 : decode c_L_shake 21 = .ok (.lload_n 2, 1) := by decide +kernel
theorem d_L_shake_22 : decode c_L_shake 22 = .ok (.iload_n 1, 1) := by decide +kernel
theorem d_L_shake_23 : decode c_L_shake 23 = .ok (.invokevirtual 126, 3) := by decide +kernel
theorem d_L_shake_26 : decode c_L_shake 26 = .ok (.aload_n 0, 1) := by decide +kernel
theorem d_L_shake_27 : decode c_L_shake 27 = .ok (.getfield 24, 3) := by decide +kernel
theorem d_L_shake_30 : decode c_L_shake 30 = .ok (.getfield 34, 3) := by decide +kernel
theorem d_L_shake_33 : decode c_L_shake 33 = .ok (.invokevirtual 130, 3) := by decide +kernel
theorem d_L_shake_36 : decode c_L_shake 36 = .ok (.aload_n 0, 1) := by decide +kernel
theorem d_L_shake_37 : decode c_L_shake 37 = .ok (.getfield 24, 3) := by decide +kernel
theorem d_L_shake_40 : decode c_L_shake 40 = .ok (.getfield 34, 3) := by decide +kernel
theorem d_L_shake_43 : decode c_L_shake 43 = .ok (.iconst 0, 1) := by decide +kernel
theorem d_L_shake_44 : decode c_L_shake 44 = .ok (.invokevirtual 133, 3) := by decide +kernel
theorem d_L_shake_47 : decode c_L_shake 47 = .ok (.lreturn, 1) := by decide +kernel
theorem d_L_refuseNoLength_0 : decode c_L_refuseNoLength 0 = .ok (.iload_n 0, 1) := by decide +kernel
theorem d_L_refuseNoLength_1 : decode c_L_refuseNoLength 1 = .ok (.ifCond .lt 9, 3) := by decide +kernel
theorem d_L_refuseNoLength_4 : decode c_L_refuseNoLength 4 = .ok (.iload_n 0, 1) := by decide +kernel
theorem d_L_refuseNoLength_5 : decode c_L_refuseNoLength 5 = .ok (.bipush 8, 2) := by decide +kernel
theorem d_L_refuseNoLength_7 : decode c_L_refuseNoLength 7 = .ok (.if_icmp .le 13, 3) := by decide +kernel
theorem d_L_refuseNoLength_10 : decode c_L_refuseNoLength 10 = .ok (.new 137, 3) := by decide +kernel
theorem d_L_refuseNoLength_13 : decode c_L_refuseNoLength 13 = .ok (.dup, 1) := by decide +kernel
theorem d_L_refuseNoLength_14 : decode c_L_refuseNoLength 14 = .ok (.ldc 146, 2) := by decide +kernel
theorem d_L_refuseNoLength_16 : decode c_L_refuseNoLength 16 = .ok (.invokespecial 141, 3) := by decide +kernel
theorem d_L_refuseNoLength_19 : decode c_L_refuseNoLength 19 = .ok (.athrow, 1) := by decide +kernel
theorem d_L_refuseNoLength_20 : decode c_L_refuseNoLength 20 = .ok (.return_, 1) := by decide +kernel
end DC
end
section
section DC
theorem d_A_fill_0 : decode c_A_fill 0 = .ok (.iconst 0, 1) := by decide +kernel
theorem d_A_fill_1 : decode c_A_fill 1 = .ok (.istore_n 3, 1) := by decide +kernel
theorem d_A_fill_2 : decode c_A_fill 2 = .ok (.aload_n 0, 1) := by decide +kernel
theorem d_A_fill_3 : decode c_A_fill 3 = .ok (.arraylength, 1) := by decide +kernel
theorem d_A_fill_4 : decode c_A_fill 4 = .ok (.istore 4, 2) := by decide +kernel
theorem d_A_fill_6 : decode c_A_fill 6 = .ok (.iload_n 3, 1) := by decide +kernel
theorem d_A_fill_7 : decode c_A_fill 7 = .ok (.iload 4, 2) := by decide +kernel
theorem d_A_fill_9 : decode c_A_fill 9 = .ok (.if_icmp .ge 13, 3) := by decide +kernel
theorem d_A_fill_12 : decode c_A_fill 12 = .ok (.aload_n 0, 1) := by decide +kernel
theorem d_A_fill_13 : decode c_A_fill 13 = .ok (.iload_n 3, 1) := by decide +kernel
theorem d_A_fill_14 : decode c_A_fill 14 = .ok (.lload_n 1, 1) := by decide +kernel
theorem d_A_fill_15 : decode c_A_fill 15 = .ok (.lastore, 1) := by decide +kernel
theorem d_A_fill_16 : decode c_A_fill 16 = .ok (.iinc 3 1, 3) := by decide +kernel
theorem d_A_fill_19 : decode c_A_fill 19 = .ok (.goto (-13), 3) := by decide +kernel
theorem d_A_fill_22 : decode c_A_fill 22 = .ok (.return_, 1) := by decide +kernel
end DC
end
section
section DC
theorem d_R_init_0 : decode c_R_init 0 = .ok (.aload_n 0, 1) := by decide +kernel
theorem d_R_init_1 : decode c_R_init 1 = .ok (.invokespecial 1, 3) := by decide +kernel
theorem d_R_init_4 : decode c_R_init 4 = .ok (.aload_n 0, 1) := by decide +kernel
theorem d_R_init_5 : decode c_R_init 5 = .ok (.bipush 25, 2) := by decide +kernel
theorem d_R_init_7 : decode c_R_init 7 = .ok (.newarray .int, 2) := by decide +kernel
theorem d_R_init_9 : decode c_R_init 9 = .ok (.putfield 7, 3) := by decide +kernel
theorem d_R_init_12 : decode c_R_init 12 = .ok (.aload_n 0, 1) := by decide +kernel
theorem d_R_init_13 : decode c_R_init 13 = .ok (.sipush 168, 3) := by decide +kernel
theorem d_R_init_16 : decode c_R_init 16 = .ok (.newarray .boolean, 2) := by decide +kernel
theorem d_R_init_18 : decode c_R_init 18 = .ok (.putfield 13, 3) := by decide +kernel
theorem d_R_init_21 : decode c_R_init 21 = .ok (.aload_n 0, 1) := by decide +kernel
theorem d_R_init_22 : decode c_R_init 22 = .ok (.bipush 25, 2) := by decide +kernel
theorem d_R_init_24 : decode c_R_init 24 = .ok (.newarray .long, 2) := by decide +kernel
theorem d_R_init_26 : decode c_R_init 26 = .ok (.putfield 17, 3) := by decide +kernel
theorem d_R_init_29 : decode c_R_init 29 = .ok (.aload_n 0, 1) := by decide +kernel
theorem d_R_init_30 : decode c_R_init 30 = .ok (.bipush 25, 2) := by decide +kernel
theorem d_R_init_32 : decode c_R_init 32 = .ok (.newarray .long, 2) := by decide +kernel
theorem d_R_init_34 : decode c_R_init 34 = .ok (.putfield 21, 3) := by decide +kernel
theorem d_R_init_37 : decode c_R_init 37 = .ok (.aload_n 0, 1) := by decide +kernel
theorem d_R_init_38 : decode c_R_init 38 = .ok (.iconst 5, 1) := by decide +kernel
theorem d_R_init_39 : decode c_R_init 39 = .ok (.newarray .long, 2) := by decide +kernel
theorem d_R_init_41 : decode c_R_init 41 = .ok (.putfield 24, 3) := by decide +kernel
theorem d_R_init_44 : decode c_R_init 44 = .ok (.aload_n 0, 1) := by decide +kernel
theorem d_R_init_45 : decode c_R_init 45 = .ok (.sipush 168, 3) := by decide +kernel
theorem d_R_init_48 : decode c_R_init 48 = .ok (.newarray .int, 2) := by decide +kernel
theorem d_R_init_50 : decode c_R_init 50 = .ok (.putfield 27, 3) := by decide +kernel
theorem d_R_init_53 : decode c_R_init 53 = .ok (.aload_n 0, 1) := by decide +kernel
theorem d_R_init_54 : decode c_R_init 54 = .ok (.sipush 168, 3) := by decide +kernel
theorem d_R_init_57 : decode c_R_init 57 = .ok (.newarray .int, 2) := by decide +kernel
theorem d_R_init_59 : decode c_R_init 59 = .ok (.putfield 30, 3) := by decide +kernel
theorem d_R_init_62 : decode c_R_init 62 = .ok (.aload_n 0, 1) := by decide +kernel
theorem d_R_init_63 : decode c_R_init 63 = .ok (.iconst 4, 1) := by decide +kernel
theorem d_R_init_64 : decode c_R_init 64 = .ok (.newarray .boolean, 2) := by decide +kernel
theorem d_R_init_66 : decode c_R_init 66 = .ok (.putfield 33, 3) := by decide +kernel
theorem d_R_init_69 : decode c_R_init 69 = .ok (.aload_n 0, 1) := by decide +kernel
theorem d_R_init_70 : decode c_R_init 70 = .ok (.iconst 4, 1) := by decide +kernel
theorem d_R_init_71 : decode c_R_init 71 = .ok (.newarray .long, 2) := by decide +kernel
theorem d_R_init_73 : decode c_R_init 73 = .ok (.putfield 36, 3) := by decide +kernel
theorem d_R_init_76 : decode c_R_init 76 = .ok (.aload_n 0, 1) := by decide +kernel
theorem d_R_init_77 : decode c_R_init 77 = .ok (.iconst 4, 1) := by decide +kernel
theorem d_R_init_78 : decode c_R_init 78 = .ok (.newarray .long, 2) := by decide +kernel
theorem d_R_init_80 : decode c_R_init 80 = .ok (.putfield 39, 3) := by decide +kernel
theorem d_R_init_83 : decode c_R_init 83 = .ok (.aload_n 0, 1) := by decide +kernel
theorem d_R_init_84 : decode c_R_init 84 = .ok (.iconst 4, 1) := by decide +kernel
theorem d_R_init_85 : decode c_R_init 85 = .ok (.newarray .long, 2) := by decide +kernel
theorem d_R_init_87 : decode c_R_init 87 = .ok (.putfield 42, 3) := by decide +kernel
theorem d_R_init_90 : decode c_R_init 90 = .ok (.aload_n 0, 1) := by decide +kernel
theorem d_R_init_91 : decode c_R_init 91 = .ok (.sipush 256, 3) := by decide +kernel
theorem d_R_init_94 : decode c_R_init 94 = .ok (.newarray .int, 2) := by decide +kernel
theorem d_R_init_96 : decode c_R_init 96 = .ok (.putfield 45, 3) := by decide +kernel
theorem d_R_init_99 : decode c_R_init 99 = .ok (.aload_n 0, 1) := by decide +kernel
theorem d_R_init_100 : decode c_R_init 100 = .ok (.sipush 128, 3) := by decide +kernel
theorem d_R_init_103 : decode c_R_init 103 = .ok (.newarray .int, 2) := by decide +kernel
theorem d_R_init_105 : decode c_R_init 105 = .ok (.putfield 48, 3) := by decide +kernel
theorem d_R_init_108 : decode c_R_init 108 = .ok (.aload_n 0, 1) := by decide +kernel
theorem d_R_init_109 : decode c_R_init 109 = .ok (.sipush 128, 3) := by decide +kernel
theorem d_R_init_112 : decode c_R_init 112 = .ok (.newarray .int, 2) := by decide +kernel
theorem d_R_init_114 : decode c_R_init 114 = .ok (.putfield 51, 3) := by decide +kernel
theorem d_R_init_117 : decode c_R_init 117 = .ok (.aload_n 0, 1) := by decide +kernel
theorem d_R_init_118 : decode c_R_init 118 = .ok (.sipush 128, 3) := by decide +kernel
theorem d_R_init_121 : decode c_R_init 121 = .ok (.newarray .int, 2) := by decide +kernel
theorem d_R_init_123 : decode c_R_init 123 = .ok (.putfield 54, 3) := by decide +kernel
theorem d_R_init_126 : decode c_R_init 126 = .ok (.aload_n 0, 1) := by decide +kernel
theorem d_R_init_127 : decode c_R_init 127 = .ok (.iconst 4, 1) := by decide +kernel
theorem d_R_init_128 : decode c_R_init 128 = .ok (.newarray .boolean, 2) := by decide +kernel
theorem d_R_init_130 : decode c_R_init 130 = .ok (.putfield 57, 3) := by decide +kernel
theorem d_R_init_133 : decode c_R_init 133 = .ok (.aload_n 0, 1) := by decide +kernel
theorem d_R_init_134 : decode c_R_init 134 = .ok (.sipush 450, 3) := by decide +kernel
theorem d_R_init_137 : decode c_R_init 137 = .ok (.newarray .int, 2) := by decide +kernel
theorem d_R_init_139 : decode c_R_init 139 = .ok (.putfield 60, 3) := by decide +kernel
theorem d_R_init_142 : decode c_R_init 142 = .ok (.aload_n 0, 1) := by decide +kernel
theorem d_R_init_143 : decode c_R_init 143 = .ok (.bipush 80, 2) := by decide +kernel
theorem d_R_init_145 : decode c_R_init 145 = .ok (.newarray .int, 2) := by decide +kernel
theorem d_R_init_147 : decode c_R_init 147 = .ok (.putfield 63, 3) := by decide +kernel
theorem d_R_init_150 : decode c_R_init 150 = .ok (.aload_n 0, 1) := by decide +kernel
theorem d_R_init_151 : decode c_R_init 151 = .ok (.bipush 32, 2) := by decide +kernel
theorem d_R_init_153 : decode c_R_init 153 = .ok (.newarray .int, 2) := by decide +kernel
theorem d_R_init_155 : decode c_R_init 155 = .ok (.putfield 66, 3) := by decide +kernel
theorem d_R_init_158 : decode c_R_init 158 = .ok (.aload_n 0, 1) := by decide +kernel
theorem d_R_init_159 : decode c_R_init 159 = .ok (.bipush 16, 2) := by decide +kernel
theorem d_R_init_161 : decode c_R_init 161 = .ok (.newarray .int, 2) := by decide +kernel
theorem d_R_init_163 : decode c_R_init 163 = .ok (.putfield 69, 3) := by decide +kernel
theorem d_R_init_166 : decode c_R_init 166 = .ok (.iconst 1, 1) := by decide +kernel
theorem d_R_init_167 : decode c_R_init 167 = .ok (.istore_n 1, 1) := by decide +kernel
theorem d_R_init_168 : decode c_R_init 168 = .ok (.iconst 0, 1) := by decide +kernel
theorem d_R_init_169 : decode c_R_init 169 = .ok (.istore_n 2, 1) := by decide +kernel
theorem d_R_init_170 : decode c_R_init 170 = .ok (.iconst 0, 1) := by decide +kernel
theorem d_R_init_171 : decode c_R_init 171 = .ok (.istore_n 3, 1) := by decide +kernel
theorem d_R_init_172 : decode c_R_init 172 = .ok (.iload_n 3, 1) := by decide +kernel
theorem d_R_init_173 : decode c_R_init 173 = .ok (.bipush 24, 2) := by decide +kernel
theorem d_R_init_175 : decode c_R_init 175 = .ok (.if_icmp .ge 47, 3) := by decide +kernel
theorem d_R_init_178 : decode c_R_init 178 = .ok (.aload_n 0, 1) := by decide +kernel
theorem d_R_init_179 : decode c_R_init 179 = .ok (.getfield 7, 3) := by decide +kernel
theorem d_R_init_182 : decode c_R_init 182 = .ok (.iload_n 1, 1) := by decide +kernel
theorem d_R_init_183 : decode c_R_init 183 = .ok (.iconst 5, 1) := by decide +kernel
theorem d_R_init_184 : decode c_R_init 184 = .ok (.iload_n 2, 1) := by decide +kernel
theorem d_R_init_185 : decode c_R_init 185 = .ok (.imul, 1) := by decide +kernel
theorem d_R_init_186 : decode c_R_init 186 = .ok (.iadd, 1) := by decide +kernel
theorem d_R_init_187 : decode c_R_init 187 = .ok (.iload_n 3, 1) := by decide +kernel
theorem d_R_init_188 : decode c_R_init 188 = .ok (.iconst 1, 1) := by decide +kernel
theorem d_R_init_189 : decode c_R_init 189 = .ok (.iadd, 1) := by decide +kernel
theorem d_R_init_190 : decode c_R_init 190 = .ok (.iload_n 3, 1) := by decide +kernel
theorem d_R_init_191 : decode c_R_init 191 = .ok (.iconst 2, 1) := by decide +kernel
theorem d_R_init_192 : decode c_R_init 192 = .ok (.iadd, 1) := by decide +kernel
theorem d_R_init_193 : decode c_R_init 193 = .ok (.imul, 1) := by decide +kernel
theorem d_R_init_194 : decode c_R_init 194 = .ok (.iconst 2, 1) := by decide +kernel
theorem d_R_init_195 : decode c_R_init 195 = .ok (.idiv, 1) := by decide +kernel
theorem d_R_init_196 : decode c_R_init 196 = .ok (.bipush 64, 2) := by decide +kernel
theorem d_R_init_198 : decode c_R_init 198 = .ok (.irem, 1) := by decide +kernel
theorem d_R_init_199 : decode c_R_init 199 = .ok (.iastore, 1) := by decide +kernel
theorem d_R_init_200 : decode c_R_init 200 = .ok (.iconst 2, 1) := by decide +kernel
theorem d_R_init_201 : decode c_R_init 201 = .ok (.iload_n 1, 1) := by decide +kernel
theorem d_R_init_202 : decode c_R_init 202 = .ok (.imul, 1) := by decide +kernel
theorem d_R_init_203 : decode c_R_init 203 = .ok (.iconst 3, 1) := by decide +kernel
theorem d_R_init_204 : decode c_R_init 204 = .ok (.iload_n 2, 1) := by decide +kernel
theorem d_R_init_205 : decode c_R_init 205 = .ok (.imul, 1) := by decide +kernel
theorem d_R_init_206 : decode c_R_init 206 = .ok (.iadd, 1) := by decide +kernel
theorem d_R_init_207 : decode c_R_init 207 = .ok (.iconst 5, 1) := by decide +kernel
theorem d_R_init_208 : decode c_R_init 208 = .ok (.irem, 1) := by decide +kernel
theorem d_R_init_209 : decode c_R_init 209 = .ok (.istore 4, 2) := by decide +kernel
theorem d_R_init_211 : decode c_R_init 211 = .ok (.iload_n 2, 1) := by decide +kernel
theorem d_R_init_212 : decode c_R_init 212 = .ok (.istore_n 1, 1) := by decide +kernel
theorem d_R_init_213 : decode c_R_init 213 = .ok (.iload 4, 2) := by decide +kernel
theorem d_R_init_215 : decode c_R_init 215 = .ok (.istore_n 2, 1) := by decide +kernel
theorem d_R_init_216 : decode c_R_init 216 = .ok (.iinc 3 1, 3) := by decide +kernel
theorem d_R_init_219 : decode c_R_init 219 = .ok (.goto (-47), 3) := by decide +kernel
theorem d_R_init_222 : decode c_R_init 222 = .ok (.iconst 1, 1) := by decide +kernel
theorem d_R_init_223 : decode c_R_init 223 = .ok (.istore_n 3, 1) := by decide +kernel
theorem d_R_init_224 : decode c_R_init 224 = .ok (.iconst 0, 1) := by decide +kernel
theorem d_R_init_225 : decode c_R_init 225 = .ok (.istore 4, 2) := by decide +kernel
theorem d_R_init_227 : decode c_R_init 227 = .ok (.iload 4, 2) := by decide +kernel
theorem d_R_init_229 : decode c_R_init 229 = .ok (.sipush 168, 3) := by decide +kernel
theorem d_R_init_232 : decode c_R_init 232 = .ok (.if_icmp .ge 49, 3) := by decide +kernel
theorem d_R_init_235 : decode c_R_init 235 = .ok (.aload_n 0, 1) := by decide +kernel
theorem d_R_init_236 : decode c_R_init 236 = .ok (.getfield 13, 3) := by decide +kernel
theorem d_R_init_239 : decode c_R_init 239 = .ok (.iload 4, 2) := by decide +kernel
theorem d_R_init_241 : decode c_R_init 241 = .ok (.iload_n 3, 1) := by decide +kernel
theorem d_R_init_242 : decode c_R_init 242 = .ok (.iconst 2, 1) := by decide +kernel
theorem d_R_init_243 : decode c_R_init 243 = .ok (.irem, 1) := by decide +kernel
theorem d_R_init_244 : decode c_R_init 244 = .ok (.iconst 1, 1) := by decide +kernel
theorem d_R_init_245 : decode c_R_init 245 = .ok (.if_icmp .ne 7, 3) := by decide +kernel
theorem d_R_init_248 : decode c_R_init 248 = .ok (.iconst 1, 1) := by decide +kernel
theorem d_R_init_249 : decode c_R_init 249 = .ok (.goto 4, 3) := by decide +kernel
theorem d_R_init_252 : decode c_R_init 252 = .ok (.iconst 0, 1) := by decide +kernel
theorem d_R_init_253 : decode c_R_init 253 = .ok (.bastore, 1) := by decide +kernel
theorem d_R_init_254 : decode c_R_init 254 = .ok (.iconst 2, 1) := by decide +kernel
theorem d_R_init_255 : decode c_R_init 255 = .ok (.iload_n 3, 1) := by decide +kernel
theorem d_R_init_256 : decode c_R_init 256 = .ok (.imul, 1) := by decide +kernel
theorem d_R_init_257 : decode c_R_init 257 = .ok (.istore_n 3, 1) := by decide +kernel
theorem d_R_init_258 : decode c_R_init 258 = .ok (.iload_n 3, 1) := by decide +kernel
theorem d_R_init_259 : decode c_R_init 259 = .ok (.sipush 255, 3) := by decide +kernel
theorem d_R_init_262 : decode c_R_init 262 = .ok (.if_icmp .le 11, 3) := by decide +kernel
theorem d_R_init_265 : decode c_R_init 265 = .ok (.iload_n 3, 1) := by decide +kernel
theorem d_R_init_266 : decode c_R_init 266 = .ok (.sipush 369, 3) := by decide +kernel
theorem d_R_init_269 : decode c_R_init 269 = .ok (.ixor, 1) := by decide +kernel
theorem d_R_init_270 : decode c_R_init 270 = .ok (.goto 4, 3) := by decide +kernel
theorem d_R_init_273 : decode c_R_init 273 = .ok (.iload_n 3, 1) := by decide +kernel
theorem d_R_init_274 : decode c_R_init 274 = .ok (.istore_n 3, 1) := by decide +kernel
theorem d_R_init_275 : decode c_R_init 275 = .ok (.iinc 4 1, 3) := by decide +kernel
theorem d_R_init_278 : decode c_R_init 278 = .ok (.goto (-51), 3) := by decide +kernel
theorem d_R_init_281 : decode c_R_init 281 = .ok (.return_, 1) := by decide +kernel
theorem d_R_thrown_0 : decode c_R_thrown 0 = .ok (.aload_n 0, 1) := by decide +kernel
theorem d_R_thrown_1 : decode c_R_thrown 1 = .ok (.getfield 72, 3) := by decide +kernel
theorem d_R_thrown_4 : decode c_R_thrown 4 = .ok (.ireturn, 1) := by decide +kernel
theorem d_R_make_0 : decode c_R_make 0 = .ok (.aload_n 0, 1) := by decide +kernel
theorem d_R_make_1 : decode c_R_make 1 = .ok (.iload_n 1, 1) := by decide +kernel
theorem d_R_make_2 : decode c_R_make 2 = .ok (.invokestatic 112, 3) := by decide +kernel
theorem d_R_make_5 : decode c_R_make 5 = .ok (.ifCond .eq 7, 3) := by decide +kernel
theorem d_R_make_8 : decode c_R_make 8 = .ok (.iconst 0, 1) := by decide +kernel
theorem d_R_make_9 : decode c_R_make 9 = .ok (.goto 4, 3) := by decide +kernel
theorem d_R_make_12 : decode c_R_make 12 = .ok (.iconst 1, 1) := by decide +kernel
theorem d_R_make_13 : decode c_R_make 13 = .ok (.putfield 72, 3) := by decide +kernel
theorem d_R_make_16 : decode c_R_make 16 = .ok (.aload_n 0, 1) := by decide +kernel
theorem d_R_make_17 : decode c_R_make 17 = .ok (.getfield 72, 3) := by decide +kernel
theorem d_R_make_20 : decode c_R_make 20 = .ok (.ifCond .le 5, 3) := by decide +kernel
theorem d_R_make_23 : decode c_R_make 23 = .ok (.lconst 0, 1) := by decide +kernel
theorem d_R_make_24 : decode c_R_make 24 = .ok (.lreturn, 1) := by decide +kernel
theorem d_R_make_25 : decode c_R_make 25 = .ok (.aload_n 0, 1) := by decide +kernel
theorem d_R_make_26 : decode c_R_make 26 = .ok (.lload 6, 2) := by decide +kernel
theorem d_R_make_28 : decode c_R_make 28 = .ok (.bipush 8, 2) := by decide +kernel
theorem d_R_make_30 : decode c_R_make 30 = .ok (.invokevirtual 87, 3) := by decide +kernel
theorem d_R_make_33 : decode c_R_make 33 = .ok (.aload_n 0, 1) := by decide +kernel
theorem d_R_make_34 : decode c_R_make 34 = .ok (.bipush 8, 2) := by decide +kernel
theorem d_R_make_36 : decode c_R_make 36 = .ok (.invokevirtual 109, 3) := by decide +kernel
theorem d_R_make_39 : decode c_R_make 39 = .ok (.aload_n 0, 1) := by decide +kernel
theorem d_R_make_40 : decode c_R_make 40 = .ok (.getfield 36, 3) := by decide +kernel
theorem d_R_make_43 : decode c_R_make 43 = .ok (.iload_n 1, 1) := by decide +kernel
theorem d_R_make_44 : decode c_R_make 44 = .ok (.aload_n 0, 1) := by decide +kernel
theorem d_R_make_45 : decode c_R_make 45 = .ok (.iconst 0, 1) := by decide +kernel
theorem d_R_make_46 : decode c_R_make 46 = .ok (.invokevirtual 116, 3) := by decide +kernel
theorem d_R_make_49 : decode c_R_make 49 = .ok (.lastore, 1) := by decide +kernel
theorem d_R_make_50 : decode c_R_make 50 = .ok (.aload_n 0, 1) := by decide +kernel
theorem d_R_make_51 : decode c_R_make 51 = .ok (.getfield 39, 3) := by decide +kernel
theorem d_R_make_54 : decode c_R_make 54 = .ok (.iload_n 1, 1) := by decide +kernel
theorem d_R_make_55 : decode c_R_make 55 = .ok (.lload_n 2, 1) := by decide +kernel
theorem d_R_make_56 : decode c_R_make 56 = .ok (.lastore, 1) := by decide +kernel
theorem d_R_make_57 : decode c_R_make 57 = .ok (.aload_n 0, 1) := by decide +kernel
theorem d_R_make_58 : decode c_R_make 58 = .ok (.ldc2_w 120, 3) := by decide +kernel
theorem d_R_make_61 : decode c_R_make 61 = .ok (.iconst 1, 1) := by decide +kernel
theorem d_R_make_62 : decode c_R_make 62 = .ok (.invokevirtual 87, 3) := by decide +kernel
theorem d_R_make_65 : decode c_R_make 65 = .ok (.aload_n 0, 1) := by decide +kernel
theorem d_R_make_66 : decode c_R_make 66 = .ok (.lload 4, 2) := by decide +kernel
theorem d_R_make_68 : decode c_R_make 68 = .ok (.bipush 8, 2) := by decide +kernel
theorem d_R_make_70 : decode c_R_make 70 = .ok (.invokevirtual 87, 3) := by decide +kernel
theorem d_R_make_73 : decode c_R_make 73 = .ok (.aload_n 0, 1) := by decide +kernel
theorem d_R_make_74 : decode c_R_make 74 = .ok (.sipush 128, 3) := by decide +kernel
theorem d_R_make_77 : decode c_R_make 77 = .ok (.invokevirtual 109, 3) := by decide +kernel
theorem d_R_make_80 : decode c_R_make 80 = .ok (.iconst 0, 1) := by decide +kernel
theorem d_R_make_81 : decode c_R_make 81 = .ok (.istore 8, 2) := by decide +kernel
theorem d_R_make_83 : decode c_R_make 83 = .ok (.iload 8, 2) := by decide +kernel
theorem d_R_make_85 : decode c_R_make 85 = .ok (.bipush 32, 2) := by decide +kernel
theorem d_R_make_87 : decode c_R_make 87 = .ok (.if_icmp .ge 48, 3) := by decide +kernel
theorem d_R_make_90 : decode c_R_make 90 = .ok (.aload_n 0, 1) := by decide +kernel
theorem d_R_make_91 : decode c_R_make 91 = .ok (.getfield 48, 3) := by decide +kernel
theorem d_R_make_94 : decode c_R_make 94 = .ok (.bipush 32, 2) := by decide +kernel
theorem d_R_make_96 : decode c_R_make 96 = .ok (.iload_n 1, 1) := by decide +kernel
theorem d_R_make_97 : decode c_R_make 97 = .ok (.imul, 1) := by decide +kernel
theorem d_R_make_98 : decode c_R_make 98 = .ok (.iload 8, 2) := by decide +kernel
theorem d_R_make_100 : decode c_R_make 100 = .ok (.iadd, 1) := by decide +kernel
theorem d_R_make_101 : decode c_R_make 101 = .ok (.aload_n 0, 1) := by decide +kernel
theorem d_R_make_102 : decode c_R_make 102 = .ok (.iload 8, 2) := by decide +kernel
theorem d_R_make_104 : decode c_R_make 104 = .ok (.invokevirtual 122, 3) := by decide +kernel
theorem d_R_make_107 : decode c_R_make 107 = .ok (.iastore, 1) := by decide +kernel
theorem d_R_make_108 : decode c_R_make 108 = .ok (.aload_n 0, 1) := by decide +kernel
theorem d_R_make_109 : decode c_R_make 109 = .ok (.getfield 54, 3) := by decide +kernel
theorem d_R_make_112 : decode c_R_make 112 = .ok (.bipush 32, 2) := by decide +kernel
theorem d_R_make_114 : decode c_R_make 114 = .ok (.iload_n 1, 1) := by decide +kernel
theorem d_R_make_115 : decode c_R_make 115 = .ok (.imul, 1) := by decide +kernel
theorem d_R_make_116 : decode c_R_make 116 = .ok (.iload 8, 2) := by decide +kernel
theorem d_R_make_118 : decode c_R_make 118 = .ok (.iadd, 1) := by decide +kernel
theorem d_R_make_119 : decode c_R_make 119 = .ok (.aload_n 0, 1) := by decide +kernel
theorem d_R_make_120 : decode c_R_make 120 = .ok (.bipush 32, 2) := by decide +kernel
theorem d_R_make_122 : decode c_R_make 122 = .ok (.iload 8, 2) := by decide +kernel
theorem d_R_make_124 : decode c_R_make 124 = .ok (.iadd, 1) := by decide +kernel
theorem d_R_make_125 : decode c_R_make 125 = .ok (.invokevirtual 122, 3) := by decide +kernel
theorem d_R_make_128 : decode c_R_make 128 = .ok (.iastore, 1) := by decide +kernel
theorem d_R_make_129 : decode c_R_make 129 = .ok (.iinc 8 1, 3) := by decide +kernel
theorem d_R_make_132 : decode c_R_make 132 = .ok (.goto (-49), 3) := by decide +kernel
theorem d_R_make_135 : decode c_R_make 135 = .ok (.aload_n 0, 1) := by decide +kernel
theorem d_R_make_136 : decode c_R_make 136 = .ok (.iload_n 1, 1) := by decide +kernel
theorem d_R_make_137 : decode c_R_make 137 = .ok (.invokevirtual 125, 3) := by decide +kernel
theorem d_R_make_140 : decode c_R_make 140 = .ok (.iconst 0, 1) := by decide +kernel
theorem d_R_make_141 : decode c_R_make 141 = .ok (.istore 8, 2) := by decide +kernel
theorem d_R_make_143 : decode c_R_make 143 = .ok (.iload 8, 2) := by decide +kernel
theorem d_R_make_145 : decode c_R_make 145 = .ok (.bipush 32, 2) := by decide +kernel
theorem d_R_make_147 : decode c_R_make 147 = .ok (.if_icmp .ge 101, 3) := by decide +kernel
theorem d_R_make_150 : decode c_R_make 150 = .ok (.aload_n 0, 1) := by decide +kernel
theorem d_R_make_151 : decode c_R_make 151 = .ok (.getfield 54, 3) := by decide +kernel
theorem d_R_make_154 : decode c_R_make 154 = .ok (.bipush 32, 2) := by decide +kernel
theorem d_R_make_156 : decode c_R_make 156 = .ok (.iload_n 1, 1) := by decide +kernel
theorem d_R_make_157 : decode c_R_make 157 = .ok (.imul, 1) := by decide +kernel
theorem d_R_make_158 : decode c_R_make 158 = .ok (.iload 8, 2) := by decide +kernel
theorem d_R_make_160 : decode c_R_make 160 = .ok (.iadd, 1) := by decide +kernel
theorem d_R_make_161 : decode c_R_make 161 = .ok (.iaload, 1) := by decide +kernel
theorem d_R_make_162 : decode c_R_make 162 = .ok (.istore 9, 2) := by decide +kernel
theorem d_R_make_164 : decode c_R_make 164 = .ok (.iconst 0, 1) := by decide +kernel
theorem d_R_make_165 : decode c_R_make 165 = .ok (.istore 10, 2) := by decide +kernel
theorem d_R_make_167 : decode c_R_make 167 = .ok (.iload 10, 2) := by decide +kernel
theorem d_R_make_169 : decode c_R_make 169 = .ok (.bipush 8, 2) := by decide +kernel
theorem d_R_make_171 : decode c_R_make 171 = .ok (.if_icmp .ge 57, 3) := by decide +kernel
theorem d_R_make_174 : decode c_R_make 174 = .ok (.iload 9, 2) := by decide +kernel
theorem d_R_make_176 : decode c_R_make 176 = .ok (.aload_n 0, 1) := by decide +kernel
theorem d_R_make_177 : decode c_R_make 177 = .ok (.getfield 45, 3) := by decide +kernel
theorem d_R_make_180 : decode c_R_make 180 = .ok (.bipush 64, 2) := by decide +kernel
theorem d_R_make_182 : decode c_R_make 182 = .ok (.iload_n 1, 1) := by decide +kernel
theorem d_R_make_183 : decode c_R_make 183 = .ok (.imul, 1) := by decide +kernel
theorem d_R_make_184 : decode c_R_make 184 = .ok (.bipush 8, 2) := by decide +kernel
theorem d_R_make_186 : decode c_R_make 186 = .ok (.iload 8, 2) := by decide +kernel
theorem d_R_make_188 : decode c_R_make 188 = .ok (.iconst 4, 1) := by decide +kernel
theorem d_R_make_189 : decode c_R_make 189 = .ok (.idiv, 1) := by decide +kernel
theorem d_R_make_190 : decode c_R_make 190 = .ok (.imul, 1) := by decide +kernel
theorem d_R_make_191 : decode c_R_make 191 = .ok (.iadd, 1) := by decide +kernel
theorem d_R_make_192 : decode c_R_make 192 = .ok (.iload 10, 2) := by decide +kernel
theorem d_R_make_194 : decode c_R_make 194 = .ok (.iadd, 1) := by decide +kernel
theorem d_R_make_195 : decode c_R_make 195 = .ok (.iaload, 1) := by decide +kernel
theorem d_R_make_196 : decode c_R_make 196 = .ok (.aload_n 0, 1) := by decide +kernel
theorem d_R_make_197 : decode c_R_make 197 = .ok (.getfield 48, 3) := by decide +kernel
theorem d_R_make_200 : decode c_R_make 200 = .ok (.bipush 32, 2) := by decide +kernel
theorem d_R_make_202 : decode c_R_make 202 = .ok (.iload_n 1, 1) := by decide +kernel
theorem d_R_make_203 : decode c_R_make 203 = .ok (.imul, 1) := by decide +kernel
theorem d_R_make_204 : decode c_R_make 204 = .ok (.iconst 4, 1) := by decide +kernel
theorem d_R_make_205 : decode c_R_make 205 = .ok (.iload 10, 2) := by decide +kernel
theorem d_R_make_207 : decode c_R_make 207 = .ok (.imul, 1) := by decide +kernel
theorem d_R_make_208 : decode c_R_make 208 = .ok (.iadd, 1) := by decide +kernel
theorem d_R_make_209 : decode c_R_make 209 = .ok (.iload 8, 2) := by decide +kernel
theorem d_R_make_211 : decode c_R_make 211 = .ok (.iconst 4, 1) := by decide +kernel
theorem d_R_make_212 : decode c_R_make 212 = .ok (.irem, 1) := by decide +kernel
theorem d_R_make_213 : decode c_R_make 213 = .ok (.iadd, 1) := by decide +kernel
theorem d_R_make_214 : decode c_R_make 214 = .ok (.iaload, 1) := by decide +kernel
theorem d_R_make_215 : decode c_R_make 215 = .ok (.imul, 1) := by decide +kernel
theorem d_R_make_216 : decode c_R_make 216 = .ok (.iadd, 1) := by decide +kernel
theorem d_R_make_217 : decode c_R_make 217 = .ok (.ldc 104, 2) := by decide +kernel
theorem d_R_make_219 : decode c_R_make 219 = .ok (.irem, 1) := by decide +kernel
theorem d_R_make_220 : decode c_R_make 220 = .ok (.istore 9, 2) := by decide +kernel
theorem d_R_make_222 : decode c_R_make 222 = .ok (.iinc 10 1, 3) := by decide +kernel
theorem d_R_make_225 : decode c_R_make 225 = .ok (.goto (-58), 3) := by decide +kernel
theorem d_R_make_228 : decode c_R_make 228 = .ok (.aload_n 0, 1) := by decide +kernel
theorem d_R_make_229 : decode c_R_make 229 = .ok (.getfield 51, 3) := by decide +kernel
theorem d_R_make_232 : decode c_R_make 232 = .ok (.bipush 32, 2) := by decide +kernel
theorem d_R_make_234 : decode c_R_make 234 = .ok (.iload_n 1, 1) := by decide +kernel
theorem d_R_make_235 : decode c_R_make 235 = .ok (.imul, 1) := by decide +kernel
theorem d_R_make_236 : decode c_R_make 236 = .ok (.iload 8, 2) := by decide +kernel
theorem d_R_make_238 : decode c_R_make 238 = .ok (.iadd, 1) := by decide +kernel
theorem d_R_make_239 : decode c_R_make 239 = .ok (.iload 9, 2) := by decide +kernel
theorem d_R_make_241 : decode c_R_make 241 = .ok (.iastore, 1) := by decide +kernel
theorem d_R_make_242 : decode c_R_make 242 = .ok (.iinc 8 1, 3) := by decide +kernel
theorem d_R_make_245 : decode c_R_make 245 = .ok (.goto (-102), 3) := by decide +kernel
theorem d_R_make_248 : decode c_R_make 248 = .ok (.aload_n 0, 1) := by decide +kernel
theorem d_R_make_249 : decode c_R_make 249 = .ok (.iload_n 1, 1) := by decide +kernel
theorem d_R_make_250 : decode c_R_make 250 = .ok (.invokevirtual 128, 3) := by decide +kernel
theorem d_R_make_253 : decode c_R_make 253 = .ok (.aload_n 0, 1) := by decide +kernel
theorem d_R_make_254 : decode c_R_make 254 = .ok (.bipush 8, 2) := by decide +kernel
theorem d_R_make_256 : decode c_R_make 256 = .ok (.invokevirtual 109, 3) := by decide +kernel
theorem d_R_make_259 : decode c_R_make 259 = .ok (.aload_n 0, 1) := by decide +kernel
theorem d_R_make_260 : decode c_R_make 260 = .ok (.getfield 42, 3) := by decide +kernel
theorem d_R_make_263 : decode c_R_make 263 = .ok (.iload_n 1, 1) := by decide +kernel
theorem d_R_make_264 : decode c_R_make 264 = .ok (.aload_n 0, 1) := by decide +kernel
theorem d_R_make_265 : decode c_R_make 265 = .ok (.iconst 0, 1) := by decide +kernel
theorem d_R_make_266 : decode c_R_make 266 = .ok (.invokevirtual 116, 3) := by decide +kernel
theorem d_R_make_269 : decode c_R_make 269 = .ok (.lastore, 1) := by decide +kernel
theorem d_R_make_270 : decode c_R_make 270 = .ok (.aload_n 0, 1) := by decide +kernel
theorem d_R_make_271 : decode c_R_make 271 = .ok (.getfield 33, 3) := by decide +kernel
theorem d_R_make_274 : decode c_R_make 274 = .ok (.iload_n 1, 1) := by decide +kernel
theorem d_R_make_275 : decode c_R_make 275 = .ok (.iconst 1, 1) := by decide +kernel
theorem d_R_make_276 : decode c_R_make 276 = .ok (.bastore, 1) := by decide +kernel
theorem d_R_make_277 : decode c_R_make 277 = .ok (.aload_n 0, 1) := by decide +kernel
theorem d_R_make_278 : decode c_R_make 278 = .ok (.getfield 42, 3) := by decide +kernel
theorem d_R_make_281 : decode c_R_make 281 = .ok (.iload_n 1, 1) := by decide +kernel
theorem d_R_make_282 : decode c_R_make 282 = .ok (.laload, 1) := by decide +kernel
theorem d_R_make_283 : decode c_R_make 283 = .ok (.lreturn, 1) := by decide +kernel
theorem d_R_isPlace_0 : decode c_R_isPlace 0 = .ok (.iload_n 0, 1) := by decide +kernel
theorem d_R_isPlace_1 : decode c_R_isPlace 1 = .ok (.ifCond .lt 12, 3) := by decide +kernel
theorem d_R_isPlace_4 : decode c_R_isPlace 4 = .ok (.iload_n 0, 1) := by decide +kernel
theorem d_R_isPlace_5 : decode c_R_isPlace 5 = .ok (.iconst 4, 1) := by decide +kernel
theorem d_R_isPlace_6 : decode c_R_isPlace 6 = .ok (.if_icmp .ge 7, 3) := by decide +kernel
theorem d_R_isPlace_9 : decode c_R_isPlace 9 = .ok (.iconst 1, 1) := by decide +kernel
theorem d_R_isPlace_10 : decode c_R_isPlace 10 = .ok (.goto 4, 3) := by decide +kernel
theorem d_R_isPlace_13 : decode c_R_isPlace 13 = .ok (.iconst 0, 1) := by decide +kernel
theorem d_R_isPlace_14 : decode c_R_isPlace 14 = .ok (.ireturn, 1) := by decide +kernel
theorem d_R_addBytes_0 : decode c_R_addBytes 0 = .ok (.iconst 0, 1) := by decide +kernel
theorem d_R_addBytes_1 : decode c_R_addBytes 1 = .ok (.istore 4, 2) := by decide +kernel
theorem d_R_addBytes_3 : decode c_R_addBytes 3 = .ok (.iload 4, 2) := by decide +kernel
theorem d_R_addBytes_5 : decode c_R_addBytes 5 = .ok (.iload_n 3, 1) := by decide +kernel
theorem d_R_addBytes_6 : decode c_R_addBytes 6 = .ok (.if_icmp .ge 40, 3) := by decide +kernel
theorem d_R_addBytes_9 : decode c_R_addBytes 9 = .ok (.aload_n 0, 1) := by decide +kernel
theorem d_R_addBytes_10 : decode c_R_addBytes 10 = .ok (.getfield 27, 3) := by decide +kernel
theorem d_R_addBytes_13 : decode c_R_addBytes 13 = .ok (.aload_n 0, 1) := by decide +kernel
theorem d_R_addBytes_14 : decode c_R_addBytes 14 = .ok (.getfield 82, 3) := by decide +kernel
theorem d_R_addBytes_17 : decode c_R_addBytes 17 = .ok (.lload_n 1, 1) := by decide +kernel
theorem d_R_addBytes_18 : decode c_R_addBytes 18 = .ok (.bipush 8, 2) := by decide +kernel
theorem d_R_addBytes_20 : decode c_R_addBytes 20 = .ok (.iload 4, 2) := by decide +kernel
theorem d_R_addBytes_22 : decode c_R_addBytes 22 = .ok (.imul, 1) := by decide +kernel
theorem d_R_addBytes_23 : decode c_R_addBytes 23 = .ok (.lushr, 1) := by decide +kernel
theorem d_R_addBytes_24 : decode c_R_addBytes 24 = .ok (.ldc2_w 85, 3) := by decide +kernel
theorem d_R_addBytes_27 : decode c_R_addBytes 27 = .ok (.land, 1) := by decide +kernel
theorem d_R_addBytes_28 : decode c_R_addBytes 28 = .ok (.l2i, 1) := by decide +kernel
theorem d_R_addBytes_29 : decode c_R_addBytes 29 = .ok (.iastore, 1) := by decide +kernel
theorem d_R_addBytes_30 : decode c_R_addBytes 30 = .ok (.aload_n 0, 1) := by decide +kernel
theorem d_R_addBytes_31 : decode c_R_addBytes 31 = .ok (.dup, 1) := by decide +kernel
theorem d_R_addBytes_32 : decode c_R_addBytes 32 = .ok (.getfield 82, 3) := by decide +kernel
theorem d_R_addBytes_35 : decode c_R_addBytes 35 = .ok (.iconst 1, 1) := by decide +kernel
theorem d_R_addBytes_36 : decode c_R_addBytes 36 = .ok (.iadd, 1) := by decide +kernel
theorem d_R_addBytes_37 : decode c_R_addBytes 37 = .ok (.putfield 82, 3) := by decide +kernel
theorem d_R_addBytes_40 : decode c_R_addBytes 40 = .ok (.iinc 4 1, 3) := by decide +kernel
theorem d_R_addBytes_43 : decode c_R_addBytes 43 = .ok (.goto (-40), 3) := by decide +kernel
theorem d_R_addBytes_46 : decode c_R_addBytes 46 = .ok (.return_, 1) := by decide +kernel
theorem d_R_shakeRow_0 : decode c_R_shakeRow 0 = .ok (.aload_n 0, 1) := by decide +kernel
theorem d_R_shakeRow_1 : decode c_R_shakeRow 1 = .ok (.ldc2_w 91, 3) := by decide +kernel
theorem d_R_shakeRow_4 : decode c_R_shakeRow 4 = .ok (.iconst 1, 1) := by decide +kernel
theorem d_R_shakeRow_5 : decode c_R_shakeRow 5 = .ok (.invokevirtual 87, 3) := by decide +kernel
theorem d_R_shakeRow_8 : decode c_R_shakeRow 8 = .ok (.aload_n 0, 1) := by decide +kernel
theorem d_R_shakeRow_9 : decode c_R_shakeRow 9 = .ok (.getfield 82, 3) := by decide +kernel
theorem d_R_shakeRow_12 : decode c_R_shakeRow 12 = .ok (.sipush 168, 3) := by decide +kernel
theorem d_R_shakeRow_15 : decode c_R_shakeRow 15 = .ok (.if_icmp .ge 12, 3) := by decide +kernel
theorem d_R_shakeRow_18 : decode c_R_shakeRow 18 = .ok (.aload_n 0, 1) := by decide +kernel
theorem d_R_shakeRow_19 : decode c_R_shakeRow 19 = .ok (.lconst 0, 1) := by decide +kernel
theorem d_R_shakeRow_20 : decode c_R_shakeRow 20 = .ok (.iconst 1, 1) := by decide +kernel
theorem d_R_shakeRow_21 : decode c_R_shakeRow 21 = .ok (.invokevirtual 87, 3) := by decide +kernel
theorem d_R_shakeRow_24 : decode c_R_shakeRow 24 = .ok (.goto (-16), 3) := by decide +kernel
theorem d_R_shakeRow_27 : decode c_R_shakeRow 27 = .ok (.aload_n 0, 1) := by decide +kernel
theorem d_R_shakeRow_28 : decode c_R_shakeRow 28 = .ok (.getfield 27, 3) := by decide +kernel
theorem d_R_shakeRow_31 : decode c_R_shakeRow 31 = .ok (.sipush 167, 3) := by decide +kernel
theorem d_R_shakeRow_34 : decode c_R_shakeRow 34 = .ok (.aload_n 0, 1) := by decide +kernel
theorem d_R_shakeRow_35 : decode c_R_shakeRow 35 = .ok (.getfield 27, 3) := by decide +kernel
theorem d_R_shakeRow_38 : decode c_R_shakeRow 38 = .ok (.sipush 167, 3) := by decide +kernel
theorem d_R_shakeRow_41 : decode c_R_shakeRow 41 = .ok (.iaload, 1) := by decide +kernel
theorem d_R_shakeRow_42 : decode c_R_shakeRow 42 = .ok (.sipush 128, 3) := by decide +kernel
theorem d_R_shakeRow_45 : decode c_R_shakeRow 45 = .ok (.ixor, 1) := by decide +kernel
theorem d_R_shakeRow_46 : decode c_R_shakeRow 46 = .ok (.iastore, 1) := by decide +kernel
theorem d_R_shakeRow_47 : decode c_R_shakeRow 47 = .ok (.aload_n 0, 1) := by decide +kernel
theorem d_R_shakeRow_48 : decode c_R_shakeRow 48 = .ok (.iconst 0, 1) := by decide +kernel
theorem d_R_shakeRow_49 : decode c_R_shakeRow 49 = .ok (.putfield 82, 3) := by decide +kernel
theorem d_R_shakeRow_52 : decode c_R_shakeRow 52 = .ok (.iconst 0, 1) := by decide +kernel
theorem d_R_shakeRow_53 : decode c_R_shakeRow 53 = .ok (.istore_n 2, 1) := by decide +kernel
theorem d_R_shakeRow_54 : decode c_R_shakeRow 54 = .ok (.iload_n 2, 1) := by decide +kernel
theorem d_R_shakeRow_55 : decode c_R_shakeRow 55 = .ok (.bipush 25, 2) := by decide +kernel
theorem d_R_shakeRow_57 : decode c_R_shakeRow 57 = .ok (.if_icmp .ge 16, 3) := by decide +kernel
theorem d_R_shakeRow_60 : decode c_R_shakeRow 60 = .ok (.aload_n 0, 1) := by decide +kernel
theorem d_R_shakeRow_61 : decode c_R_shakeRow 61 = .ok (.getfield 17, 3) := by decide +kernel
theorem d_R_shakeRow_64 : decode c_R_shakeRow 64 = .ok (.iload_n 2, 1) := by decide +kernel
theorem d_R_shakeRow_65 : decode c_R_shakeRow 65 = .ok (.lconst 0, 1) := by decide +kernel
theorem d_R_shakeRow_66 : decode c_R_shakeRow 66 = .ok (.lastore, 1) := by decide +kernel
theorem d_R_shakeRow_67 : decode c_R_shakeRow 67 = .ok (.iinc 2 1, 3) := by decide +kernel
theorem d_R_shakeRow_70 : decode c_R_shakeRow 70 = .ok (.goto (-16), 3) := by decide +kernel
theorem d_R_shakeRow_73 : decode c_R_shakeRow 73 = .ok (.iconst 0, 1) := by decide +kernel
theorem d_R_shakeRow_74 : decode c_R_shakeRow 74 = .ok (.istore_n 2, 1) := by decide +kernel
theorem d_R_shakeRow_75 : decode c_R_shakeRow 75 = .ok (.iload_n 2, 1) := by decide +kernel
theorem d_R_shakeRow_76 : decode c_R_shakeRow 76 = .ok (.sipush 168, 3) := by decide +kernel
theorem d_R_shakeRow_79 : decode c_R_shakeRow 79 = .ok (.if_icmp .ge 43, 3) := by decide +kernel
theorem d_R_shakeRow_82 : decode c_R_shakeRow 82 = .ok (.aload_n 0, 1) := by decide +kernel
theorem d_R_shakeRow_83 : decode c_R_shakeRow 83 = .ok (.getfield 17, 3) := by decide +kernel
theorem d_R_shakeRow_86 : decode c_R_shakeRow 86 = .ok (.iload_n 2, 1) := by decide +kernel
theorem d_R_shakeRow_87 : decode c_R_shakeRow 87 = .ok (.bipush 8, 2) := by decide +kernel
theorem d_R_shakeRow_89 : decode c_R_shakeRow 89 = .ok (.idiv, 1) := by decide +kernel
theorem d_R_shakeRow_90 : decode c_R_shakeRow 90 = .ok (.aload_n 0, 1) := by decide +kernel
theorem d_R_shakeRow_91 : decode c_R_shakeRow 91 = .ok (.getfield 17, 3) := by decide +kernel
theorem d_R_shakeRow_94 : decode c_R_shakeRow 94 = .ok (.iload_n 2, 1) := by decide +kernel
theorem d_R_shakeRow_95 : decode c_R_shakeRow 95 = .ok (.bipush 8, 2) := by decide +kernel
theorem d_R_shakeRow_97 : decode c_R_shakeRow 97 = .ok (.idiv, 1) := by decide +kernel
theorem d_R_shakeRow_98 : decode c_R_shakeRow 98 = .ok (.laload, 1) := by decide +kernel
theorem d_R_shakeRow_99 : decode c_R_shakeRow 99 = .ok (.aload_n 0, 1) := by decide +kernel
theorem d_R_shakeRow_100 : decode c_R_shakeRow 100 = .ok (.getfield 27, 3) := by decide +kernel
theorem d_R_shakeRow_103 : decode c_R_shakeRow 103 = .ok (.iload_n 2, 1) := by decide +kernel
theorem d_R_shakeRow_104 : decode c_R_shakeRow 104 = .ok (.iaload, 1) := by decide +kernel
theorem d_R_shakeRow_105 : decode c_R_shakeRow 105 = .ok (.i2l, 1) := by decide +kernel
theorem d_R_shakeRow_106 : decode c_R_shakeRow 106 = .ok (.bipush 8, 2) := by decide +kernel
theorem d_R_shakeRow_108 : decode c_R_shakeRow 108 = .ok (.iload_n 2, 1) := by decide +kernel
theorem d_R_shakeRow_109 : decode c_R_shakeRow 109 = .ok (.bipush 8, 2) := by decide +kernel
theorem d_R_shakeRow_111 : decode c_R_shakeRow 111 = .ok (.irem, 1) := by decide +kernel
theorem d_R_shakeRow_112 : decode c_R_shakeRow 112 = .ok (.imul, 1) := by decide +kernel
theorem d_R_shakeRow_113 : decode c_R_shakeRow 113 = .ok (.lshl, 1) := by decide +kernel
theorem d_R_shakeRow_114 : decode c_R_shakeRow 114 = .ok (.lor, 1) := by decide +kernel
theorem d_R_shakeRow_115 : decode c_R_shakeRow 115 = .ok (.lastore, 1) := by decide +kernel
theorem d_R_shakeRow_116 : decode c_R_shakeRow 116 = .ok (.iinc 2 1, 3) := by decide +kernel
theorem d_R_shakeRow_119 : decode c_R_shakeRow 119 = .ok (.goto (-44), 3) := by decide +kernel
theorem d_R_shakeRow_122 : decode c_R_shakeRow 122 = .ok (.iconst 0, 1) := by decide +kernel
theorem d_R_shakeRow_123 : decode c_R_shakeRow 123 = .ok (.istore_n 2, 1) := by decide +kernel
theorem d_R_shakeRow_124 : decode c_R_shakeRow 124 = .ok (.iload_n 2, 1) := by decide +kernel
theorem d_R_shakeRow_125 : decode c_R_shakeRow 125 = .ok (.bipush 24, 2) := by decide +kernel
theorem d_R_shakeRow_127 : decode c_R_shakeRow 127 = .ok (.if_icmp .ge 14, 3) := by decide +kernel
theorem d_R_shakeRow_130 : decode c_R_shakeRow 130 = .ok (.aload_n 0, 1) := by decide +kernel
theorem d_R_shakeRow_131 : decode c_R_shakeRow 131 = .ok (.iload_n 2, 1) := by decide +kernel
theorem d_R_shakeRow_132 : decode c_R_shakeRow 132 = .ok (.invokevirtual 93, 3) := by decide +kernel
theorem d_R_shakeRow_135 : decode c_R_shakeRow 135 = .ok (.iinc 2 1, 3) := by decide +kernel
theorem d_R_shakeRow_138 : decode c_R_shakeRow 138 = .ok (.goto (-14), 3) := by decide +kernel
theorem d_R_shakeRow_141 : decode c_R_shakeRow 141 = .ok (.iconst 0, 1) := by decide +kernel
theorem d_R_shakeRow_142 : decode c_R_shakeRow 142 = .ok (.istore_n 2, 1) := by decide +kernel
theorem d_R_shakeRow_143 : decode c_R_shakeRow 143 = .ok (.iload_n 2, 1) := by decide +kernel
theorem d_R_shakeRow_144 : decode c_R_shakeRow 144 = .ok (.iload_n 1, 1) := by decide +kernel
theorem d_R_shakeRow_145 : decode c_R_shakeRow 145 = .ok (.if_icmp .ge 37, 3) := by decide +kernel
theorem d_R_shakeRow_148 : decode c_R_shakeRow 148 = .ok (.aload_n 0, 1) := by decide +kernel
theorem d_R_shakeRow_149 : decode c_R_shakeRow 149 = .ok (.getfield 30, 3) := by decide +kernel
theorem d_R_shakeRow_152 : decode c_R_shakeRow 152 = .ok (.iload_n 2, 1) := by decide +kernel
theorem d_R_shakeRow_153 : decode c_R_shakeRow 153 = .ok (.aload_n 0, 1) := by decide +kernel
theorem d_R_shakeRow_154 : decode c_R_shakeRow 154 = .ok (.getfield 17, 3) := by decide +kernel
theorem d_R_shakeRow_157 : decode c_R_shakeRow 157 = .ok (.iload_n 2, 1) := by decide +kernel
theorem d_R_shakeRow_158 : decode c_R_shakeRow 158 = .ok (.bipush 8, 2) := by decide +kernel
theorem d_R_shakeRow_160 : decode c_R_shakeRow 160 = .ok (.idiv, 1) := by decide +kernel
theorem d_R_shakeRow_161 : decode c_R_shakeRow 161 = .ok (.laload, 1) := by decide +kernel
theorem d_R_shakeRow_162 : decode c_R_shakeRow 162 = .ok (.bipush 8, 2) := by decide +kernel
theorem d_R_shakeRow_164 : decode c_R_shakeRow 164 = .ok (.iload_n 2, 1) := by decide +kernel
theorem d_R_shakeRow_165 : decode c_R_shakeRow 165 = .ok (.bipush 8, 2) := by decide +kernel
theorem d_R_shakeRow_167 : decode c_R_shakeRow 167 = .ok (.irem, 1) := by decide +kernel
theorem d_R_shakeRow_168 : decode c_R_shakeRow 168 = .ok (.imul, 1) := by decide +kernel
theorem d_R_shakeRow_169 : decode c_R_shakeRow 169 = .ok (.lushr, 1) := by decide +kernel
theorem d_R_shakeRow_170 : decode c_R_shakeRow 170 = .ok (.ldc2_w 85, 3) := by decide +kernel
theorem d_R_shakeRow_173 : decode c_R_shakeRow 173 = .ok (.land, 1) := by decide +kernel
theorem d_R_shakeRow_174 : decode c_R_shakeRow 174 = .ok (.l2i, 1) := by decide +kernel
theorem d_R_shakeRow_175 : decode c_R_shakeRow 175 = .ok (.iastore, 1) := by decide +kernel
theorem d_R_shakeRow_176 : decode c_R_shakeRow 176 = .ok (.iinc 2 1, 3) := by decide +kernel
theorem d_R_shakeRow_179 : decode c_R_shakeRow 179 = .ok (.goto (-36), 3) := by decide +kernel
theorem d_R_shakeRow_182 : decode c_R_shakeRow 182 = .ok (.return_, 1) := by decide +kernel
theorem d_R_round_0 : decode c_R_round 0 = .ok (.iconst 0, 1) := by decide +kernel
theorem d_R_round_1 : decode c_R_round 1 = .ok (.istore_n 2, 1) := by decide +kernel
theorem d_R_round_2 : decode c_R_round 2 = .ok (.iload_n 2, 1) := by decide +kernel
theorem d_R_round_3 : decode c_R_round 3 = .ok (.iconst 5, 1) := by decide +kernel
theorem d_R_round_4 : decode c_R_round 4 = .ok (.if_icmp .ge 60, 3) := by decide +kernel
theorem d_R_round_7 : decode c_R_round 7 = .ok (.aload_n 0, 1) := by decide +kernel
theorem d_R_round_8 : decode c_R_round 8 = .ok (.getfield 24, 3) := by decide +kernel
theorem d_R_round_11 : decode c_R_round 11 = .ok (.iload_n 2, 1) := by decide +kernel
theorem d_R_round_12 : decode c_R_round 12 = .ok (.aload_n 0, 1) := by decide +kernel
theorem d_R_round_13 : decode c_R_round 13 = .ok (.getfield 17, 3) := by decide +kernel
theorem d_R_round_16 : decode c_R_round 16 = .ok (.iload_n 2, 1) := by decide +kernel
theorem d_R_round_17 : decode c_R_round 17 = .ok (.laload, 1) := by decide +kernel
theorem d_R_round_18 : decode c_R_round 18 = .ok (.aload_n 0, 1) := by decide +kernel
theorem d_R_round_19 : decode c_R_round 19 = .ok (.getfield 17, 3) := by decide +kernel
theorem d_R_round_22 : decode c_R_round 22 = .ok (.iload_n 2, 1) := by decide +kernel
theorem d_R_round_23 : decode c_R_round 23 = .ok (.iconst 5, 1) := by decide +kernel
theorem d_R_round_24 : decode c_R_round 24 = .ok (.iadd, 1) := by decide +kernel
theorem d_R_round_25 : decode c_R_round 25 = .ok (.laload, 1) := by decide +kernel
theorem d_R_round_26 : decode c_R_round 26 = .ok (.lxor, 1) := by decide +kernel
theorem d_R_round_27 : decode c_R_round 27 = .ok (.aload_n 0, 1) := by decide +kernel
theorem d_R_round_28 : decode c_R_round 28 = .ok (.getfield 17, 3) := by decide +kernel
theorem d_R_round_31 : decode c_R_round 31 = .ok (.iload_n 2, 1) := by decide +kernel
theorem d_R_round_32 : decode c_R_round 32 = .ok (.bipush 10, 2) := by decide +kernel
theorem d_R_round_34 : decode c_R_round 34 = .ok (.iadd, 1) := by decide +kernel
theorem d_R_round_35 : decode c_R_round 35 = .ok (.laload, 1) := by decide +kernel
theorem d_R_round_36 : decode c_R_round 36 = .ok (.lxor, 1) := by decide +kernel
theorem d_R_round_37 : decode c_R_round 37 = .ok (.aload_n 0, 1) := by decide +kernel
theorem d_R_round_38 : decode c_R_round 38 = .ok (.getfield 17, 3) := by decide +kernel
theorem d_R_round_41 : decode c_R_round 41 = .ok (.iload_n 2, 1) := by decide +kernel
theorem d_R_round_42 : decode c_R_round 42 = .ok (.bipush 15, 2) := by decide +kernel
theorem d_R_round_44 : decode c_R_round 44 = .ok (.iadd, 1) := by decide +kernel
theorem d_R_round_45 : decode c_R_round 45 = .ok (.laload, 1) := by decide +kernel
theorem d_R_round_46 : decode c_R_round 46 = .ok (.lxor, 1) := by decide +kernel
theorem d_R_round_47 : decode c_R_round 47 = .ok (.aload_n 0, 1) := by decide +kernel
theorem d_R_round_48 : decode c_R_round 48 = .ok (.getfield 17, 3) := by decide +kernel
theorem d_R_round_51 : decode c_R_round 51 = .ok (.iload_n 2, 1) := by decide +kernel
theorem d_R_round_52 : decode c_R_round 52 = .ok (.bipush 20, 2) := by decide +kernel
theorem d_R_round_54 : decode c_R_round 54 = .ok (.iadd, 1) := by decide +kernel
theorem d_R_round_55 : decode c_R_round 55 = .ok (.laload, 1) := by decide +kernel
theorem d_R_round_56 : decode c_R_round 56 = .ok (.lxor, 1) := by decide +kernel
theorem d_R_round_57 : decode c_R_round 57 = .ok (.lastore, 1) := by decide +kernel
theorem d_R_round_58 : decode c_R_round 58 = .ok (.iinc 2 1, 3) := by decide +kernel
theorem d_R_round_61 : decode c_R_round 61 = .ok (.goto (-59), 3) := by decide +kernel
theorem d_R_round_64 : decode c_R_round 64 = .ok (.iconst 0, 1) := by decide +kernel
theorem d_R_round_65 : decode c_R_round 65 = .ok (.istore_n 2, 1) := by decide +kernel
theorem d_R_round_66 : decode c_R_round 66 = .ok (.iload_n 2, 1) := by decide +kernel
theorem d_R_round_67 : decode c_R_round 67 = .ok (.bipush 25, 2) := by decide +kernel
theorem d_R_round_69 : decode c_R_round 69 = .ok (.if_icmp .ge 83, 3) := by decide +kernel
theorem d_R_round_72 : decode c_R_round 72 = .ok (.aload_n 0, 1) := by decide +kernel
theorem d_R_round_73 : decode c_R_round 73 = .ok (.getfield 17, 3) := by decide +kernel
theorem d_R_round_76 : decode c_R_round 76 = .ok (.iload_n 2, 1) := by decide +kernel
theorem d_R_round_77 : decode c_R_round 77 = .ok (.laload, 1) := by decide +kernel
theorem d_R_round_78 : decode c_R_round 78 = .ok (.aload_n 0, 1) := by decide +kernel
theorem d_R_round_79 : decode c_R_round 79 = .ok (.getfield 24, 3) := by decide +kernel
theorem d_R_round_82 : decode c_R_round 82 = .ok (.iload_n 2, 1) := by decide +kernel
theorem d_R_round_83 : decode c_R_round 83 = .ok (.iconst 4, 1) := by decide +kernel
theorem d_R_round_84 : decode c_R_round 84 = .ok (.iadd, 1) := by decide +kernel
theorem d_R_round_85 : decode c_R_round 85 = .ok (.iconst 5, 1) := by decide +kernel
theorem d_R_round_86 : decode c_R_round 86 = .ok (.irem, 1) := by decide +kernel
theorem d_R_round_87 : decode c_R_round 87 = .ok (.laload, 1) := by decide +kernel
theorem d_R_round_88 : decode c_R_round 88 = .ok (.lxor, 1) := by decide +kernel
theorem d_R_round_89 : decode c_R_round 89 = .ok (.aload_n 0, 1) := by decide +kernel
theorem d_R_round_90 : decode c_R_round 90 = .ok (.getfield 24, 3) := by decide +kernel
theorem d_R_round_93 : decode c_R_round 93 = .ok (.iload_n 2, 1) := by decide +kernel
theorem d_R_round_94 : decode c_R_round 94 = .ok (.iconst 1, 1) := by decide +kernel
theorem d_R_round_95 : decode c_R_round 95 = .ok (.iadd, 1) := by decide +kernel
theorem d_R_round_96 : decode c_R_round 96 = .ok (.iconst 5, 1) := by decide +kernel
theorem d_R_round_97 : decode c_R_round 97 = .ok (.irem, 1) := by decide +kernel
theorem d_R_round_98 : decode c_R_round 98 = .ok (.laload, 1) := by decide +kernel
theorem d_R_round_99 : decode c_R_round 99 = .ok (.iconst 1, 1) := by decide +kernel
theorem d_R_round_100 : decode c_R_round 100 = .ok (.invokestatic 76, 3) := by decide +kernel
theorem d_R_round_103 : decode c_R_round 103 = .ok (.lxor, 1) := by decide +kernel
theorem d_R_round_104 : decode c_R_round 104 = .ok (.lstore_n 3, 1) := by decide +kernel
theorem d_R_round_105 : decode c_R_round 105 = .ok (.iload_n 2, 1) := by decide +kernel
theorem d_R_round_106 : decode c_R_round 106 = .ok (.iconst 5, 1) := by decide +kernel
theorem d_R_round_107 : decode c_R_round 107 = .ok (.irem, 1) := by decide +kernel
theorem d_R_round_108 : decode c_R_round 108 = .ok (.istore 5, 2) := by decide +kernel
theorem d_R_round_110 : decode c_R_round 110 = .ok (.iload_n 2, 1) := by decide +kernel
theorem d_R_round_111 : decode c_R_round 111 = .ok (.iconst 5, 1) := by decide +kernel
theorem d_R_round_112 : decode c_R_round 112 = .ok (.idiv, 1) := by decide +kernel
theorem d_R_round_113 : decode c_R_round 113 = .ok (.istore 6, 2) := by decide +kernel
theorem d_R_round_115 : decode c_R_round 115 = .ok (.aload_n 0, 1) := by decide +kernel
theorem d_R_round_116 : decode c_R_round 116 = .ok (.getfield 21, 3) := by decide +kernel
theorem d_R_round_119 : decode c_R_round 119 = .ok (.iload 6, 2) := by decide +kernel
theorem d_R_round_121 : decode c_R_round 121 = .ok (.iconst 5, 1) := by decide +kernel
theorem d_R_round_122 : decode c_R_round 122 = .ok (.iconst 2, 1) := by decide +kernel
theorem d_R_round_123 : decode c_R_round 123 = .ok (.iload 5, 2) := by decide +kernel
theorem d_R_round_125 : decode c_R_round 125 = .ok (.imul, 1) := by decide +kernel
theorem d_R_round_126 : decode c_R_round 126 = .ok (.iconst 3, 1) := by decide +kernel
theorem d_R_round_127 : decode c_R_round 127 = .ok (.iload 6, 2) := by decide +kernel
theorem d_R_round_129 : decode c_R_round 129 = .ok (.imul, 1) := by decide +kernel
theorem d_R_round_130 : decode c_R_round 130 = .ok (.iadd, 1) := by decide +kernel
theorem d_R_round_131 : decode c_R_round 131 = .ok (.iconst 5, 1) := by decide +kernel
theorem d_R_round_132 : decode c_R_round 132 = .ok (.irem, 1) := by decide +kernel
theorem d_R_round_133 : decode c_R_round 133 = .ok (.imul, 1) := by decide +kernel
theorem d_R_round_134 : decode c_R_round 134 = .ok (.iadd, 1) := by decide +kernel
theorem d_R_round_135 : decode c_R_round 135 = .ok (.lload_n 3, 1) := by decide +kernel
theorem d_R_round_136 : decode c_R_round 136 = .ok (.aload_n 0, 1) := by decide +kernel
theorem d_R_round_137 : decode c_R_round 137 = .ok (.getfield 7, 3) := by decide +kernel
theorem d_R_round_140 : decode c_R_round 140 = .ok (.iload_n 2, 1) := by decide +kernel
theorem d_R_round_141 : decode c_R_round 141 = .ok (.iaload, 1) := by decide +kernel
theorem d_R_round_142 : decode c_R_round 142 = .ok (.invokestatic 76, 3) := by decide +kernel
theorem d_R_round_145 : decode c_R_round 145 = .ok (.lastore, 1) := by decide +kernel
theorem d_R_round_146 : decode c_R_round 146 = .ok (.iinc 2 1, 3) := by decide +kernel
theorem d_R_round_149 : decode c_R_round 149 = .ok (.goto (-83), 3) := by decide +kernel
theorem d_R_round_152 : decode c_R_round 152 = .ok (.iconst 0, 1) := by decide +kernel
theorem d_R_round_153 : decode c_R_round 153 = .ok (.istore_n 2, 1) := by decide +kernel
theorem d_R_round_154 : decode c_R_round 154 = .ok (.iload_n 2, 1) := by decide +kernel
theorem d_R_round_155 : decode c_R_round 155 = .ok (.bipush 25, 2) := by decide +kernel
theorem d_R_round_157 : decode c_R_round 157 = .ok (.if_icmp .ge 57, 3) := by decide +kernel
theorem d_R_round_160 : decode c_R_round 160 = .ok (.iload_n 2, 1) := by decide +kernel
theorem d_R_round_161 : decode c_R_round 161 = .ok (.iconst 5, 1) := by decide +kernel
theorem d_R_round_162 : decode c_R_round 162 = .ok (.idiv, 1) := by decide +kernel
theorem d_R_round_163 : decode c_R_round 163 = .ok (.iconst 5, 1) := by decide +kernel
theorem d_R_round_164 : decode c_R_round 164 = .ok (.imul, 1) := by decide +kernel
theorem d_R_round_165 : decode c_R_round 165 = .ok (.istore_n 3, 1) := by decide +kernel
theorem d_R_round_166 : decode c_R_round 166 = .ok (.aload_n 0, 1) := by decide +kernel
theorem d_R_round_167 : decode c_R_round 167 = .ok (.getfield 17, 3) := by decide +kernel
theorem d_R_round_170 : decode c_R_round 170 = .ok (.iload_n 2, 1) := by decide +kernel
theorem d_R_round_171 : decode c_R_round 171 = .ok (.aload_n 0, 1) := by decide +kernel
theorem d_R_round_172 : decode c_R_round 172 = .ok (.getfield 21, 3) := by decide +kernel
theorem d_R_round_175 : decode c_R_round 175 = .ok (.iload_n 2, 1) := by decide +kernel
theorem d_R_round_176 : decode c_R_round 176 = .ok (.laload, 1) := by decide +kernel
theorem d_R_round_177 : decode c_R_round 177 = .ok (.aload_n 0, 1) := by decide +kernel
theorem d_R_round_178 : decode c_R_round 178 = .ok (.getfield 21, 3) := by decide +kernel
theorem d_R_round_181 : decode c_R_round 181 = .ok (.iload_n 3, 1) := by decide +kernel
theorem d_R_round_182 : decode c_R_round 182 = .ok (.iload_n 2, 1) := by decide +kernel
theorem d_R_round_183 : decode c_R_round 183 = .ok (.iconst 1, 1) := by decide +kernel
theorem d_R_round_184 : decode c_R_round 184 = .ok (.iadd, 1) := by decide +kernel
theorem d_R_round_185 : decode c_R_round 185 = .ok (.iconst 5, 1) := by decide +kernel
theorem d_R_round_186 : decode c_R_round 186 = .ok (.irem, 1) := by decide +kernel
theorem d_R_round_187 : decode c_R_round 187 = .ok (.iadd, 1) := by decide +kernel
theorem d_R_round_188 : decode c_R_round 188 = .ok (.laload, 1) := by decide +kernel
theorem d_R_round_189 : decode c_R_round 189 = .ok (.ldc2_w 80, 3) := by decide +kernel
theorem d_R_round_192 : decode c_R_round 192 = .ok (.lxor, 1) := by decide +kernel
theorem d_R_round_193 : decode c_R_round 193 = .ok (.aload_n 0, 1) := by decide +kernel
theorem d_R_round_194 : decode c_R_round 194 = .ok (.getfield 21, 3) := by decide +kernel
theorem d_R_round_197 : decode c_R_round 197 = .ok (.iload_n 3, 1) := by decide +kernel
theorem d_R_round_198 : decode c_R_round 198 = .ok (.iload_n 2, 1) := by decide +kernel
theorem d_R_round_199 : decode c_R_round 199 = .ok (.iconst 2, 1) := by decide +kernel
theorem d_R_round_200 : decode c_R_round 200 = .ok (.iadd, 1) := by decide +kernel
theorem d_R_round_201 : decode c_R_round 201 = .ok (.iconst 5, 1) := by decide +kernel
theorem d_R_round_202 : decode c_R_round 202 = .ok (.irem, 1) := by decide +kernel
theorem d_R_round_203 : decode c_R_round 203 = .ok (.iadd, 1) := by decide +kernel
theorem d_R_round_204 : decode c_R_round 204 = .ok (.laload, 1) := by decide +kernel
theorem d_R_round_205 : decode c_R_round 205 = .ok (.land, 1) := by decide +kernel
theorem d_R_round_206 : decode c_R_round 206 = .ok (.lxor, 1) := by decide +kernel
theorem d_R_round_207 : decode c_R_round 207 = .ok (.lastore, 1) := by decide +kernel
theorem d_R_round_208 : decode c_R_round 208 = .ok (.iinc 2 1, 3) := by decide +kernel
theorem d_R_round_211 : decode c_R_round 211 = .ok (.goto (-57), 3) := by decide +kernel
theorem d_R_round_214 : decode c_R_round 214 = .ok (.iconst 0, 1) := by decide +kernel
theorem d_R_round_215 : decode c_R_round 215 = .ok (.istore_n 2, 1) := by decide +kernel
theorem d_R_round_216 : decode c_R_round 216 = .ok (.iload_n 2, 1) := by decide +kernel
theorem d_R_round_217 : decode c_R_round 217 = .ok (.bipush 7, 2) := by decide +kernel
theorem d_R_round_219 : decode c_R_round 219 = .ok (.if_icmp .ge 52, 3) := by decide +kernel
theorem d_R_round_222 : decode c_R_round 222 = .ok (.aload_n 0, 1) := by decide +kernel
theorem d_R_round_223 : decode c_R_round 223 = .ok (.getfield 17, 3) := by decide +kernel
theorem d_R_round_226 : decode c_R_round 226 = .ok (.iconst 0, 1) := by decide +kernel
theorem d_R_round_227 : decode c_R_round 227 = .ok (.aload_n 0, 1) := by decide +kernel
theorem d_R_round_228 : decode c_R_round 228 = .ok (.getfield 13, 3) := by decide +kernel
theorem d_R_round_231 : decode c_R_round 231 = .ok (.bipush 7, 2) := by decide +kernel
theorem d_R_round_233 : decode c_R_round 233 = .ok (.iload_n 1, 1) := by decide +kernel
theorem d_R_round_234 : decode c_R_round 234 = .ok (.imul, 1) := by decide +kernel
theorem d_R_round_235 : decode c_R_round 235 = .ok (.iload_n 2, 1) := by decide +kernel
theorem d_R_round_236 : decode c_R_round 236 = .ok (.iadd, 1) := by decide +kernel
theorem d_R_round_237 : decode c_R_round 237 = .ok (.baload, 1) := by decide +kernel
theorem d_R_round_238 : decode c_R_round 238 = .ok (.ifCond .eq 20, 3) := by decide +kernel
theorem d_R_round_241 : decode c_R_round 241 = .ok (.aload_n 0, 1) := by decide +kernel
theorem d_R_round_242 : decode c_R_round 242 = .ok (.getfield 17, 3) := by decide +kernel
theorem d_R_round_245 : decode c_R_round 245 = .ok (.iconst 0, 1) := by decide +kernel
theorem d_R_round_246 : decode c_R_round 246 = .ok (.laload, 1) := by decide +kernel
theorem d_R_round_247 : decode c_R_round 247 = .ok (.lconst 1, 1) := by decide +kernel
theorem d_R_round_248 : decode c_R_round 248 = .ok (.iconst 1, 1) := by decide +kernel
theorem d_R_round_249 : decode c_R_round 249 = .ok (.iload_n 2, 1) := by decide +kernel
theorem d_R_round_250 : decode c_R_round 250 = .ok (.ishl, 1) := by decide +kernel
theorem d_R_round_251 : decode c_R_round 251 = .ok (.iconst 1, 1) := by decide +kernel
theorem d_R_round_252 : decode c_R_round 252 = .ok (.isub, 1) := by decide +kernel
theorem d_R_round_253 : decode c_R_round 253 = .ok (.lshl, 1) := by decide +kernel
theorem d_R_round_254 : decode c_R_round 254 = .ok (.lxor, 1) := by decide +kernel
theorem d_R_round_255 : decode c_R_round 255 = .ok (.goto 9, 3) := by decide +kernel
theorem d_R_round_258 : decode c_R_round 258 = .ok (.aload_n 0, 1) := by decide +kernel
theorem d_R_round_259 : decode c_R_round 259 = .ok (.getfield 17, 3) := by decide +kernel
theorem d_R_round_262 : decode c_R_round 262 = .ok (.iconst 0, 1) := by decide +kernel
theorem d_R_round_263 : decode c_R_round 263 = .ok (.laload, 1) := by decide +kernel
theorem d_R_round_264 : decode c_R_round 264 = .ok (.lastore, 1) := by decide +kernel
theorem d_R_round_265 : decode c_R_round 265 = .ok (.iinc 2 1, 3) := by decide +kernel
theorem d_R_round_268 : decode c_R_round 268 = .ok (.goto (-52), 3) := by decide +kernel
theorem d_R_round_271 : decode c_R_round 271 = .ok (.return_, 1) := by decide +kernel
theorem d_R_rot_0 : decode c_R_rot 0 = .ok (.iload_n 2, 1) := by decide +kernel
theorem d_R_rot_1 : decode c_R_rot 1 = .ok (.ifCond .ne 7, 3) := by decide +kernel
theorem d_R_rot_4 : decode c_R_rot 4 = .ok (.lload_n 0, 1) := by decide +kernel
theorem d_R_rot_5 : decode c_R_rot 5 = .ok (.goto 13, 3) := by decide +kernel
theorem d_R_rot_8 : decode c_R_rot 8 = .ok (.lload_n 0, 1) := by decide +kernel
theorem d_R_rot_9 : decode c_R_rot 9 = .ok (.iload_n 2, 1) := by decide +kernel
theorem d_R_rot_10 : decode c_R_rot 10 = .ok (.lshl, 1) := by decide +kernel
theorem d_R_rot_11 : decode c_R_rot 11 = .ok (.lload_n 0, 1) := by decide +kernel
theorem d_R_rot_12 : decode c_R_rot 12 = .ok (.bipush 64, 2) := by decide +kernel
theorem d_R_rot_14 : decode c_R_rot 14 = .ok (.iload_n 2, 1) := by decide +kernel
theorem d_R_rot_15 : decode c_R_rot 15 = .ok (.isub, 1) := by decide +kernel
theorem d_R_rot_16 : decode c_R_rot 16 = .ok (.lushr, 1) := by decide +kernel
theorem d_R_rot_17 : decode c_R_rot 17 = .ok (.lor, 1) := by decide +kernel
theorem d_R_rot_18 : decode c_R_rot 18 = .ok (.lreturn, 1) := by decide +kernel
theorem d_R_longAt_0 : decode c_R_longAt 0 = .ok (.lconst 0, 1) := by decide +kernel
theorem d_R_longAt_1 : decode c_R_longAt 1 = .ok (.lstore_n 2, 1) := by decide +kernel
theorem d_R_longAt_2 : decode c_R_longAt 2 = .ok (.bipush 7, 2) := by decide +kernel
theorem d_R_longAt_4 : decode c_R_longAt 4 = .ok (.istore 4, 2) := by decide +kernel
theorem d_R_longAt_6 : decode c_R_longAt 6 = .ok (.iload 4, 2) := by decide +kernel
theorem d_R_longAt_8 : decode c_R_longAt 8 = .ok (.ifCond .lt 25, 3) := by decide +kernel
theorem d_R_longAt_11 : decode c_R_longAt 11 = .ok (.lload_n 2, 1) := by decide +kernel
theorem d_R_longAt_12 : decode c_R_longAt 12 = .ok (.bipush 8, 2) := by decide +kernel
theorem d_R_longAt_14 : decode c_R_longAt 14 = .ok (.lshl, 1) := by decide +kernel
theorem d_R_longAt_15 : decode c_R_longAt 15 = .ok (.aload_n 0, 1) := by decide +kernel
theorem d_R_longAt_16 : decode c_R_longAt 16 = .ok (.getfield 30, 3) := by decide +kernel
theorem d_R_longAt_19 : decode c_R_longAt 19 = .ok (.iload_n 1, 1) := by decide +kernel
theorem d_R_longAt_20 : decode c_R_longAt 20 = .ok (.iload 4, 2) := by decide +kernel
theorem d_R_longAt_22 : decode c_R_longAt 22 = .ok (.iadd, 1) := by decide +kernel
theorem d_R_longAt_23 : decode c_R_longAt 23 = .ok (.iaload, 1) := by decide +kernel
theorem d_R_longAt_24 : decode c_R_longAt 24 = .ok (.i2l, 1) := by decide +kernel
theorem d_R_longAt_25 : decode c_R_longAt 25 = .ok (.lor, 1) := by decide +kernel
theorem d_R_longAt_26 : decode c_R_longAt 26 = .ok (.lstore_n 2, 1) := by decide +kernel
theorem d_R_longAt_27 : decode c_R_longAt 27 = .ok (.iinc 4 (-1), 3) := by decide +kernel
theorem d_R_longAt_30 : decode c_R_longAt 30 = .ok (.goto (-24), 3) := by decide +kernel
theorem d_R_longAt_33 : decode c_R_longAt 33 = .ok (.lload_n 2, 1) := by decide +kernel
theorem d_R_longAt_34 : decode c_R_longAt 34 = .ok (.lreturn, 1) := by decide +kernel
theorem d_R_sampleAt_0 : decode c_R_sampleAt 0 = .ok (.aload_n 0, 1) := by decide +kernel
theorem d_R_sampleAt_1 : decode c_R_sampleAt 1 = .ok (.iload_n 1, 1) := by decide +kernel
theorem d_R_sampleAt_2 : decode c_R_sampleAt 2 = .ok (.invokevirtual 97, 3) := by decide +kernel
theorem d_R_sampleAt_5 : decode c_R_sampleAt 5 = .ok (.istore_n 2, 1) := by decide +kernel
theorem d_R_sampleAt_6 : decode c_R_sampleAt 6 = .ok (.iconst 0, 1) := by decide +kernel
theorem d_R_sampleAt_7 : decode c_R_sampleAt 7 = .ok (.istore_n 3, 1) := by decide +kernel
theorem d_R_sampleAt_8 : decode c_R_sampleAt 8 = .ok (.iconst 0, 1) := by decide +kernel
theorem d_R_sampleAt_9 : decode c_R_sampleAt 9 = .ok (.istore 4, 2) := by decide +kernel
theorem d_R_sampleAt_11 : decode c_R_sampleAt 11 = .ok (.iload 4, 2) := by decide +kernel
theorem d_R_sampleAt_13 : decode c_R_sampleAt 13 = .ok (.bipush 12, 2) := by decide +kernel
theorem d_R_sampleAt_15 : decode c_R_sampleAt 15 = .ok (.if_icmp .ge 28, 3) := by decide +kernel
theorem d_R_sampleAt_18 : decode c_R_sampleAt 18 = .ok (.iload 4, 2) := by decide +kernel
theorem d_R_sampleAt_20 : decode c_R_sampleAt 20 = .ok (.invokestatic 101, 3) := by decide +kernel
theorem d_R_sampleAt_23 : decode c_R_sampleAt 23 = .ok (.iload_n 2, 1) := by decide +kernel
theorem d_R_sampleAt_24 : decode c_R_sampleAt 24 = .ok (.iconst 2, 1) := by decide +kernel
theorem d_R_sampleAt_25 : decode c_R_sampleAt 25 = .ok (.idiv, 1) := by decide +kernel
theorem d_R_sampleAt_26 : decode c_R_sampleAt 26 = .ok (.if_icmp .ge 9, 3) := by decide +kernel
theorem d_R_sampleAt_29 : decode c_R_sampleAt 29 = .ok (.iload_n 3, 1) := by decide +kernel
theorem d_R_sampleAt_30 : decode c_R_sampleAt 30 = .ok (.iconst 1, 1) := by decide +kernel
theorem d_R_sampleAt_31 : decode c_R_sampleAt 31 = .ok (.iadd, 1) := by decide +kernel
theorem d_R_sampleAt_32 : decode c_R_sampleAt 32 = .ok (.goto 4, 3) := by decide +kernel
theorem d_R_sampleAt_35 : decode c_R_sampleAt 35 = .ok (.iload_n 3, 1) := by decide +kernel
theorem d_R_sampleAt_36 : decode c_R_sampleAt 36 = .ok (.istore_n 3, 1) := by decide +kernel
theorem d_R_sampleAt_37 : decode c_R_sampleAt 37 = .ok (.iinc 4 1, 3) := by decide +kernel
theorem d_R_sampleAt_40 : decode c_R_sampleAt 40 = .ok (.goto (-29), 3) := by decide +kernel
theorem d_R_sampleAt_43 : decode c_R_sampleAt 43 = .ok (.iload_n 2, 1) := by decide +kernel
theorem d_R_sampleAt_44 : decode c_R_sampleAt 44 = .ok (.iconst 2, 1) := by decide +kernel
theorem d_R_sampleAt_45 : decode c_R_sampleAt 45 = .ok (.irem, 1) := by decide +kernel
theorem d_R_sampleAt_46 : decode c_R_sampleAt 46 = .ok (.iconst 1, 1) := by decide +kernel
theorem d_R_sampleAt_47 : decode c_R_sampleAt 47 = .ok (.if_icmp .ne 13, 3) := by decide +kernel
theorem d_R_sampleAt_50 : decode c_R_sampleAt 50 = .ok (.ldc 104, 2) := by decide +kernel
theorem d_R_sampleAt_52 : decode c_R_sampleAt 52 = .ok (.iload_n 3, 1) := by decide +kernel
theorem d_R_sampleAt_53 : decode c_R_sampleAt 53 = .ok (.isub, 1) := by decide +kernel
theorem d_R_sampleAt_54 : decode c_R_sampleAt 54 = .ok (.ldc 104, 2) := by decide +kernel
theorem d_R_sampleAt_56 : decode c_R_sampleAt 56 = .ok (.irem, 1) := by decide +kernel
theorem d_R_sampleAt_57 : decode c_R_sampleAt 57 = .ok (.goto 4, 3) := by decide +kernel
theorem d_R_sampleAt_60 : decode c_R_sampleAt 60 = .ok (.iload_n 3, 1) := by decide +kernel
theorem d_R_sampleAt_61 : decode c_R_sampleAt 61 = .ok (.ireturn, 1) := by decide +kernel
theorem d_R_pairAt_0 : decode c_R_pairAt 0 = .ok (.aload_n 0, 1) := by decide +kernel
theorem d_R_pairAt_1 : decode c_R_pairAt 1 = .ok (.getfield 30, 3) := by decide +kernel
theorem d_R_pairAt_4 : decode c_R_pairAt 4 = .ok (.iconst 2, 1) := by decide +kernel
theorem d_R_pairAt_5 : decode c_R_pairAt 5 = .ok (.iload_n 1, 1) := by decide +kernel
theorem d_R_pairAt_6 : decode c_R_pairAt 6 = .ok (.imul, 1) := by decide +kernel
theorem d_R_pairAt_7 : decode c_R_pairAt 7 = .ok (.iaload, 1) := by decide +kernel
theorem d_R_pairAt_8 : decode c_R_pairAt 8 = .ok (.sipush 256, 3) := by decide +kernel
theorem d_R_pairAt_11 : decode c_R_pairAt 11 = .ok (.aload_n 0, 1) := by decide +kernel
theorem d_R_pairAt_12 : decode c_R_pairAt 12 = .ok (.getfield 30, 3) := by decide +kernel
theorem d_R_pairAt_15 : decode c_R_pairAt 15 = .ok (.iconst 2, 1) := by decide +kernel
theorem d_R_pairAt_16 : decode c_R_pairAt 16 = .ok (.iload_n 1, 1) := by decide +kernel
theorem d_R_pairAt_17 : decode c_R_pairAt 17 = .ok (.imul, 1) := by decide +kernel
theorem d_R_pairAt_18 : decode c_R_pairAt 18 = .ok (.iconst 1, 1) := by decide +kernel
theorem d_R_pairAt_19 : decode c_R_pairAt 19 = .ok (.iadd, 1) := by decide +kernel
theorem d_R_pairAt_20 : decode c_R_pairAt 20 = .ok (.iaload, 1) := by decide +kernel
theorem d_R_pairAt_21 : decode c_R_pairAt 21 = .ok (.imul, 1) := by decide +kernel
theorem d_R_pairAt_22 : decode c_R_pairAt 22 = .ok (.iadd, 1) := by decide +kernel
theorem d_R_pairAt_23 : decode c_R_pairAt 23 = .ok (.ireturn, 1) := by decide +kernel
theorem d_R_step_0 : decode c_R_step 0 = .ok (.iload_n 0, 1) := by decide +kernel
theorem d_R_step_1 : decode c_R_step 1 = .ok (.tableswitch 103 0 10 #[59, 63, 67, 71, 75, 79, 83, 87, 91, 95, 99], 59) := by decide +kernel
theorem d_R_step_60 : decode c_R_step 60 = .ok (.sipush 4643, 3) := by decide +kernel
theorem d_R_step_63 : decode c_R_step 63 = .ok (.ireturn, 1) := by decide +kernel
theorem d_R_step_64 : decode c_R_step 64 = .ok (.sipush 13363, 3) := by decide +kernel
theorem d_R_step_67 : decode c_R_step 67 = .ok (.ireturn, 1) := by decide +kernel
theorem d_R_step_68 : decode c_R_step 68 = .ok (.sipush 20579, 3) := by decide +kernel
theorem d_R_step_71 : decode c_R_step 71 = .ok (.ireturn, 1) := by decide +kernel
theorem d_R_step_72 : decode c_R_step 72 = .ok (.sipush 25843, 3) := by decide +kernel
theorem d_R_step_75 : decode c_R_step 75 = .ok (.ireturn, 1) := by decide +kernel
theorem d_R_step_76 : decode c_R_step 76 = .ok (.sipush 29227, 3) := by decide +kernel
theorem d_R_step_79 : decode c_R_step 79 = .ok (.ireturn, 1) := by decide +kernel
theorem d_R_step_80 : decode c_R_step 80 = .ok (.sipush 31145, 3) := by decide +kernel
theorem d_R_step_83 : decode c_R_step 83 = .ok (.ireturn, 1) := by decide +kernel
theorem d_R_step_84 : decode c_R_step 84 = .ok (.sipush 32103, 3) := by decide +kernel
theorem d_R_step_87 : decode c_R_step 87 = .ok (.ireturn, 1) := by decide +kernel
theorem d_R_step_88 : decode c_R_step 88 = .ok (.sipush 32525, 3) := by decide +kernel
theorem d_R_step_91 : decode c_R_step 91 = .ok (.ireturn, 1) := by decide +kernel
theorem d_R_step_92 : decode c_R_step 92 = .ok (.sipush 32689, 3) := by decide +kernel
theorem d_R_step_95 : decode c_R_step 95 = .ok (.ireturn, 1) := by decide +kernel
theorem d_R_step_96 : decode c_R_step 96 = .ok (.sipush 32745, 3) := by decide +kernel
theorem d_R_step_99 : decode c_R_step 99 = .ok (.ireturn, 1) := by decide +kernel
theorem d_R_step_100 : decode c_R_step 100 = .ok (.sipush 32762, 3) := by decide +kernel
theorem d_R_step_103 : decode c_R_step 103 = .ok (.ireturn, 1) := by decide +kernel
theorem d_R_step_104 : decode c_R_step 104 = .ok (.sipush 32766, 3) := by decide +kernel
theorem d_R_step_107 : decode c_R_step 107 = .ok (.ireturn, 1) := by decide +kernel
theorem d_R_expand_0 : decode c_R_expand 0 = .ok (.iconst 0, 1) := by decide +kernel
theorem d_R_expand_1 : decode c_R_expand 1 = .ok (.istore_n 2, 1) := by decide +kernel
theorem d_R_expand_2 : decode c_R_expand 2 = .ok (.iload_n 2, 1) := by decide +kernel
theorem d_R_expand_3 : decode c_R_expand 3 = .ok (.bipush 8, 2) := by decide +kernel
theorem d_R_expand_5 : decode c_R_expand 5 = .ok (.if_icmp .ge 72, 3) := by decide +kernel
theorem d_R_expand_8 : decode c_R_expand 8 = .ok (.aload_n 0, 1) := by decide +kernel
theorem d_R_expand_9 : decode c_R_expand 9 = .ok (.iload_n 2, 1) := by decide +kernel
theorem d_R_expand_10 : decode c_R_expand 10 = .ok (.i2l, 1) := by decide +kernel
theorem d_R_expand_11 : decode c_R_expand 11 = .ok (.iconst 2, 1) := by decide +kernel
theorem d_R_expand_12 : decode c_R_expand 12 = .ok (.invokevirtual 87, 3) := by decide +kernel
theorem d_R_expand_15 : decode c_R_expand 15 = .ok (.aload_n 0, 1) := by decide +kernel
theorem d_R_expand_16 : decode c_R_expand 16 = .ok (.aload_n 0, 1) := by decide +kernel
theorem d_R_expand_17 : decode c_R_expand 17 = .ok (.getfield 36, 3) := by decide +kernel
theorem d_R_expand_20 : decode c_R_expand 20 = .ok (.iload_n 1, 1) := by decide +kernel
theorem d_R_expand_21 : decode c_R_expand 21 = .ok (.laload, 1) := by decide +kernel
theorem d_R_expand_22 : decode c_R_expand 22 = .ok (.bipush 8, 2) := by decide +kernel
theorem d_R_expand_24 : decode c_R_expand 24 = .ok (.invokevirtual 87, 3) := by decide +kernel
theorem d_R_expand_27 : decode c_R_expand 27 = .ok (.aload_n 0, 1) := by decide +kernel
theorem d_R_expand_28 : decode c_R_expand 28 = .ok (.bipush 16, 2) := by decide +kernel
theorem d_R_expand_30 : decode c_R_expand 30 = .ok (.invokevirtual 109, 3) := by decide +kernel
theorem d_R_expand_33 : decode c_R_expand 33 = .ok (.iconst 0, 1) := by decide +kernel
theorem d_R_expand_34 : decode c_R_expand 34 = .ok (.istore_n 3, 1) := by decide +kernel
theorem d_R_expand_35 : decode c_R_expand 35 = .ok (.iload_n 3, 1) := by decide +kernel
theorem d_R_expand_36 : decode c_R_expand 36 = .ok (.bipush 8, 2) := by decide +kernel
theorem d_R_expand_38 : decode c_R_expand 38 = .ok (.if_icmp .ge 33, 3) := by decide +kernel
theorem d_R_expand_41 : decode c_R_expand 41 = .ok (.aload_n 0, 1) := by decide +kernel
theorem d_R_expand_42 : decode c_R_expand 42 = .ok (.getfield 45, 3) := by decide +kernel
theorem d_R_expand_45 : decode c_R_expand 45 = .ok (.bipush 64, 2) := by decide +kernel
theorem d_R_expand_47 : decode c_R_expand 47 = .ok (.iload_n 1, 1) := by decide +kernel
theorem d_R_expand_48 : decode c_R_expand 48 = .ok (.imul, 1) := by decide +kernel
theorem d_R_expand_49 : decode c_R_expand 49 = .ok (.bipush 8, 2) := by decide +kernel
theorem d_R_expand_51 : decode c_R_expand 51 = .ok (.iload_n 2, 1) := by decide +kernel
theorem d_R_expand_52 : decode c_R_expand 52 = .ok (.imul, 1) := by decide +kernel
theorem d_R_expand_53 : decode c_R_expand 53 = .ok (.iadd, 1) := by decide +kernel
theorem d_R_expand_54 : decode c_R_expand 54 = .ok (.iload_n 3, 1) := by decide +kernel
theorem d_R_expand_55 : decode c_R_expand 55 = .ok (.iadd, 1) := by decide +kernel
theorem d_R_expand_56 : decode c_R_expand 56 = .ok (.aload_n 0, 1) := by decide +kernel
theorem d_R_expand_57 : decode c_R_expand 57 = .ok (.iload_n 3, 1) := by decide +kernel
theorem d_R_expand_58 : decode c_R_expand 58 = .ok (.invokevirtual 97, 3) := by decide +kernel
theorem d_R_expand_61 : decode c_R_expand 61 = .ok (.ldc 104, 2) := by decide +kernel
theorem d_R_expand_63 : decode c_R_expand 63 = .ok (.irem, 1) := by decide +kernel
theorem d_R_expand_64 : decode c_R_expand 64 = .ok (.iastore, 1) := by decide +kernel
theorem d_R_expand_65 : decode c_R_expand 65 = .ok (.iinc 3 1, 3) := by decide +kernel
theorem d_R_expand_68 : decode c_R_expand 68 = .ok (.goto (-33), 3) := by decide +kernel
theorem d_R_expand_71 : decode c_R_expand 71 = .ok (.iinc 2 1, 3) := by decide +kernel
theorem d_R_expand_74 : decode c_R_expand 74 = .ok (.goto (-72), 3) := by decide +kernel
theorem d_R_expand_77 : decode c_R_expand 77 = .ok (.return_, 1) := by decide +kernel
theorem d_R_addPublic_0 : decode c_R_addPublic 0 = .ok (.aload_n 0, 1) := by decide +kernel
theorem d_R_addPublic_1 : decode c_R_addPublic 1 = .ok (.aload_n 0, 1) := by decide +kernel
theorem d_R_addPublic_2 : decode c_R_addPublic 2 = .ok (.getfield 36, 3) := by decide +kernel
theorem d_R_addPublic_5 : decode c_R_addPublic 5 = .ok (.iload_n 1, 1) := by decide +kernel
theorem d_R_addPublic_6 : decode c_R_addPublic 6 = .ok (.laload, 1) := by decide +kernel
theorem d_R_addPublic_7 : decode c_R_addPublic 7 = .ok (.bipush 8, 2) := by decide +kernel
theorem d_R_addPublic_9 : decode c_R_addPublic 9 = .ok (.invokevirtual 87, 3) := by decide +kernel
theorem d_R_addPublic_12 : decode c_R_addPublic 12 = .ok (.iconst 0, 1) := by decide +kernel
theorem d_R_addPublic_13 : decode c_R_addPublic 13 = .ok (.istore_n 2, 1) := by decide +kernel
theorem d_R_addPublic_14 : decode c_R_addPublic 14 = .ok (.iload_n 2, 1) := by decide +kernel
theorem d_R_addPublic_15 : decode c_R_addPublic 15 = .ok (.bipush 60, 2) := by decide +kernel
theorem d_R_addPublic_17 : decode c_R_addPublic 17 = .ok (.if_icmp .ge 27, 3) := by decide +kernel
theorem d_R_addPublic_20 : decode c_R_addPublic 20 = .ok (.aload_n 0, 1) := by decide +kernel
theorem d_R_addPublic_21 : decode c_R_addPublic 21 = .ok (.aload_n 0, 1) := by decide +kernel
theorem d_R_addPublic_22 : decode c_R_addPublic 22 = .ok (.getfield 51, 3) := by decide +kernel
theorem d_R_addPublic_25 : decode c_R_addPublic 25 = .ok (.bipush 32, 2) := by decide +kernel
theorem d_R_addPublic_27 : decode c_R_addPublic 27 = .ok (.iload_n 1, 1) := by decide +kernel
theorem d_R_addPublic_28 : decode c_R_addPublic 28 = .ok (.imul, 1) := by decide +kernel
theorem d_R_addPublic_29 : decode c_R_addPublic 29 = .ok (.iload_n 2, 1) := by decide +kernel
theorem d_R_addPublic_30 : decode c_R_addPublic 30 = .ok (.invokestatic 105, 3) := by decide +kernel
theorem d_R_addPublic_33 : decode c_R_addPublic 33 = .ok (.i2l, 1) := by decide +kernel
theorem d_R_addPublic_34 : decode c_R_addPublic 34 = .ok (.iconst 1, 1) := by decide +kernel
theorem d_R_addPublic_35 : decode c_R_addPublic 35 = .ok (.invokevirtual 87, 3) := by decide +kernel
theorem d_R_addPublic_38 : decode c_R_addPublic 38 = .ok (.iinc 2 1, 3) := by decide +kernel
theorem d_R_addPublic_41 : decode c_R_addPublic 41 = .ok (.goto (-27), 3) := by decide +kernel
theorem d_R_addPublic_44 : decode c_R_addPublic 44 = .ok (.return_, 1) := by decide +kernel
theorem d_R_packedByte_0 : decode c_R_packedByte 0 = .ok (.iconst 0, 1) := by decide +kernel
theorem d_R_packedByte_1 : decode c_R_packedByte 1 = .ok (.istore_n 3, 1) := by decide +kernel
theorem d_R_packedByte_2 : decode c_R_packedByte 2 = .ok (.bipush 8, 2) := by decide +kernel
theorem d_R_packedByte_4 : decode c_R_packedByte 4 = .ok (.iload_n 2, 1) := by decide +kernel
theorem d_R_packedByte_5 : decode c_R_packedByte 5 = .ok (.imul, 1) := by decide +kernel
theorem d_R_packedByte_6 : decode c_R_packedByte 6 = .ok (.istore 4, 2) := by decide +kernel
theorem d_R_packedByte_8 : decode c_R_packedByte 8 = .ok (.iload 4, 2) := by decide +kernel
theorem d_R_packedByte_10 : decode c_R_packedByte 10 = .ok (.bipush 8, 2) := by decide +kernel
theorem d_R_packedByte_12 : decode c_R_packedByte 12 = .ok (.iload_n 2, 1) := by decide +kernel
theorem d_R_packedByte_13 : decode c_R_packedByte 13 = .ok (.imul, 1) := by decide +kernel
theorem d_R_packedByte_14 : decode c_R_packedByte 14 = .ok (.bipush 8, 2) := by decide +kernel
theorem d_R_packedByte_16 : decode c_R_packedByte 16 = .ok (.iadd, 1) := by decide +kernel
theorem d_R_packedByte_17 : decode c_R_packedByte 17 = .ok (.if_icmp .ge 34, 3) := by decide +kernel
theorem d_R_packedByte_20 : decode c_R_packedByte 20 = .ok (.iconst 2, 1) := by decide +kernel
theorem d_R_packedByte_21 : decode c_R_packedByte 21 = .ok (.iload_n 3, 1) := by decide +kernel
theorem d_R_packedByte_22 : decode c_R_packedByte 22 = .ok (.imul, 1) := by decide +kernel
theorem d_R_packedByte_23 : decode c_R_packedByte 23 = .ok (.aload_n 0, 1) := by decide +kernel
theorem d_R_packedByte_24 : decode c_R_packedByte 24 = .ok (.iload_n 1, 1) := by decide +kernel
theorem d_R_packedByte_25 : decode c_R_packedByte 25 = .ok (.iload 4, 2) := by decide +kernel
theorem d_R_packedByte_27 : decode c_R_packedByte 27 = .ok (.bipush 15, 2) := by decide +kernel
theorem d_R_packedByte_29 : decode c_R_packedByte 29 = .ok (.idiv, 1) := by decide +kernel
theorem d_R_packedByte_30 : decode c_R_packedByte 30 = .ok (.iadd, 1) := by decide +kernel
theorem d_R_packedByte_31 : decode c_R_packedByte 31 = .ok (.iaload, 1) := by decide +kernel
theorem d_R_packedByte_32 : decode c_R_packedByte 32 = .ok (.bipush 14, 2) := by decide +kernel
theorem d_R_packedByte_34 : decode c_R_packedByte 34 = .ok (.iload 4, 2) := by decide +kernel
theorem d_R_packedByte_36 : decode c_R_packedByte 36 = .ok (.bipush 15, 2) := by decide +kernel
theorem d_R_packedByte_38 : decode c_R_packedByte 38 = .ok (.irem, 1) := by decide +kernel
theorem d_R_packedByte_39 : decode c_R_packedByte 39 = .ok (.isub, 1) := by decide +kernel
theorem d_R_packedByte_40 : decode c_R_packedByte 40 = .ok (.ishr, 1) := by decide +kernel
theorem d_R_packedByte_41 : decode c_R_packedByte 41 = .ok (.iconst 1, 1) := by decide +kernel
theorem d_R_packedByte_42 : decode c_R_packedByte 42 = .ok (.iand, 1) := by decide +kernel
theorem d_R_packedByte_43 : decode c_R_packedByte 43 = .ok (.iadd, 1) := by decide +kernel
theorem d_R_packedByte_44 : decode c_R_packedByte 44 = .ok (.istore_n 3, 1) := by decide +kernel
theorem d_R_packedByte_45 : decode c_R_packedByte 45 = .ok (.iinc 4 1, 3) := by decide +kernel
theorem d_R_packedByte_48 : decode c_R_packedByte 48 = .ok (.goto (-40), 3) := by decide +kernel
theorem d_R_packedByte_51 : decode c_R_packedByte 51 = .ok (.iload_n 3, 1) := by decide +kernel
theorem d_R_packedByte_52 : decode c_R_packedByte 52 = .ok (.ireturn, 1) := by decide +kernel
theorem d_R_wrap_0 : decode c_R_wrap 0 = .ok (.aload_n 0, 1) := by decide +kernel
theorem d_R_wrap_1 : decode c_R_wrap 1 = .ok (.iload_n 1, 1) := by decide +kernel
theorem d_R_wrap_2 : decode c_R_wrap 2 = .ok (.invokestatic 112, 3) := by decide +kernel
theorem d_R_wrap_5 : decode c_R_wrap 5 = .ok (.ifCond .eq 10, 3) := by decide +kernel
theorem d_R_wrap_8 : decode c_R_wrap 8 = .ok (.iload_n 2, 1) := by decide +kernel
theorem d_R_wrap_9 : decode c_R_wrap 9 = .ok (.invokestatic 112, 3) := by decide +kernel
theorem d_R_wrap_12 : decode c_R_wrap 12 = .ok (.ifCond .ne 7, 3) := by decide +kernel
theorem d_R_wrap_15 : decode c_R_wrap 15 = .ok (.iconst 1, 1) := by decide +kernel
theorem d_R_wrap_16 : decode c_R_wrap 16 = .ok (.goto 17, 3) := by decide +kernel
theorem d_R_wrap_19 : decode c_R_wrap 19 = .ok (.aload_n 0, 1) := by decide +kernel
theorem d_R_wrap_20 : decode c_R_wrap 20 = .ok (.getfield 33, 3) := by decide +kernel
theorem d_R_wrap_23 : decode c_R_wrap 23 = .ok (.iload_n 2, 1) := by decide +kernel
theorem d_R_wrap_24 : decode c_R_wrap 24 = .ok (.baload, 1) := by decide +kernel
theorem d_R_wrap_25 : decode c_R_wrap 25 = .ok (.ifCond .ne 7, 3) := by decide +kernel
theorem d_R_wrap_28 : decode c_R_wrap 28 = .ok (.iconst 2, 1) := by decide +kernel
theorem d_R_wrap_29 : decode c_R_wrap 29 = .ok (.goto 4, 3) := by decide +kernel
theorem d_R_wrap_32 : decode c_R_wrap 32 = .ok (.iconst 0, 1) := by decide +kernel
theorem d_R_wrap_33 : decode c_R_wrap 33 = .ok (.putfield 72, 3) := by decide +kernel
theorem d_R_wrap_36 : decode c_R_wrap 36 = .ok (.aload_n 0, 1) := by decide +kernel
theorem d_R_wrap_37 : decode c_R_wrap 37 = .ok (.getfield 72, 3) := by decide +kernel
theorem d_R_wrap_40 : decode c_R_wrap 40 = .ok (.ifCond .le 5, 3) := by decide +kernel
theorem d_R_wrap_43 : decode c_R_wrap 43 = .ok (.lconst 0, 1) := by decide +kernel
theorem d_R_wrap_44 : decode c_R_wrap 44 = .ok (.lreturn, 1) := by decide +kernel
theorem d_R_wrap_45 : decode c_R_wrap 45 = .ok (.aload_n 0, 1) := by decide +kernel
theorem d_R_wrap_46 : decode c_R_wrap 46 = .ok (.getfield 57, 3) := by decide +kernel
theorem d_R_wrap_49 : decode c_R_wrap 49 = .ok (.iload_n 1, 1) := by decide +kernel
theorem d_R_wrap_50 : decode c_R_wrap 50 = .ok (.iconst 1, 1) := by decide +kernel
theorem d_R_wrap_51 : decode c_R_wrap 51 = .ok (.bastore, 1) := by decide +kernel
theorem d_R_wrap_52 : decode c_R_wrap 52 = .ok (.aload_n 0, 1) := by decide +kernel
theorem d_R_wrap_53 : decode c_R_wrap 53 = .ok (.iload_n 1, 1) := by decide +kernel
theorem d_R_wrap_54 : decode c_R_wrap 54 = .ok (.iload_n 2, 1) := by decide +kernel
theorem d_R_wrap_55 : decode c_R_wrap 55 = .ok (.iload_n 3, 1) := by decide +kernel
theorem d_R_wrap_56 : decode c_R_wrap 56 = .ok (.invokevirtual 144, 3) := by decide +kernel
theorem d_R_wrap_59 : decode c_R_wrap 59 = .ok (.lreturn, 1) := by decide +kernel
theorem d_R_wrapInto_0 : decode c_R_wrapInto 0 = .ok (.aload_n 0, 1) := by decide +kernel
theorem d_R_wrapInto_1 : decode c_R_wrapInto 1 = .ok (.aload_n 0, 1) := by decide +kernel
theorem d_R_wrapInto_2 : decode c_R_wrapInto 2 = .ok (.getfield 42, 3) := by decide +kernel
theorem d_R_wrapInto_5 : decode c_R_wrapInto 5 = .ok (.iload_n 2, 1) := by decide +kernel
theorem d_R_wrapInto_6 : decode c_R_wrapInto 6 = .ok (.laload, 1) := by decide +kernel
theorem d_R_wrapInto_7 : decode c_R_wrapInto 7 = .ok (.bipush 8, 2) := by decide +kernel
theorem d_R_wrapInto_9 : decode c_R_wrapInto 9 = .ok (.invokevirtual 87, 3) := by decide +kernel
theorem d_R_wrapInto_12 : decode c_R_wrapInto 12 = .ok (.aload_n 0, 1) := by decide +kernel
theorem d_R_wrapInto_13 : decode c_R_wrapInto 13 = .ok (.iload_n 3, 1) := by decide +kernel
theorem d_R_wrapInto_14 : decode c_R_wrapInto 14 = .ok (.i2l, 1) := by decide +kernel
theorem d_R_wrapInto_15 : decode c_R_wrapInto 15 = .ok (.iconst 4, 1) := by decide +kernel
theorem d_R_wrapInto_16 : decode c_R_wrapInto 16 = .ok (.invokevirtual 87, 3) := by decide +kernel
theorem d_R_wrapInto_19 : decode c_R_wrapInto 19 = .ok (.aload_n 0, 1) := by decide +kernel
theorem d_R_wrapInto_20 : decode c_R_wrapInto 20 = .ok (.bipush 16, 2) := by decide +kernel
theorem d_R_wrapInto_22 : decode c_R_wrapInto 22 = .ok (.invokevirtual 109, 3) := by decide +kernel
theorem d_R_wrapInto_25 : decode c_R_wrapInto 25 = .ok (.aload_n 0, 1) := by decide +kernel
theorem d_R_wrapInto_26 : decode c_R_wrapInto 26 = .ok (.iconst 0, 1) := by decide +kernel
theorem d_R_wrapInto_27 : decode c_R_wrapInto 27 = .ok (.invokevirtual 116, 3) := by decide +kernel
theorem d_R_wrapInto_30 : decode c_R_wrapInto 30 = .ok (.lstore 4, 2) := by decide +kernel
theorem d_R_wrapInto_32 : decode c_R_wrapInto 32 = .ok (.aload_n 0, 1) := by decide +kernel
theorem d_R_wrapInto_33 : decode c_R_wrapInto 33 = .ok (.bipush 8, 2) := by decide +kernel
theorem d_R_wrapInto_35 : decode c_R_wrapInto 35 = .ok (.invokevirtual 116, 3) := by decide +kernel
theorem d_R_wrapInto_38 : decode c_R_wrapInto 38 = .ok (.lstore 6, 2) := by decide +kernel
theorem d_R_wrapInto_40 : decode c_R_wrapInto 40 = .ok (.aload_n 0, 1) := by decide +kernel
theorem d_R_wrapInto_41 : decode c_R_wrapInto 41 = .ok (.ldc2_w 131, 3) := by decide +kernel
theorem d_R_wrapInto_44 : decode c_R_wrapInto 44 = .ok (.iconst 1, 1) := by decide +kernel
theorem d_R_wrapInto_45 : decode c_R_wrapInto 45 = .ok (.invokevirtual 87, 3) := by decide +kernel
theorem d_R_wrapInto_48 : decode c_R_wrapInto 48 = .ok (.aload_n 0, 1) := by decide +kernel
theorem d_R_wrapInto_49 : decode c_R_wrapInto 49 = .ok (.lload 4, 2) := by decide +kernel
theorem d_R_wrapInto_51 : decode c_R_wrapInto 51 = .ok (.bipush 8, 2) := by decide +kernel
theorem d_R_wrapInto_53 : decode c_R_wrapInto 53 = .ok (.invokevirtual 87, 3) := by decide +kernel
theorem d_R_wrapInto_56 : decode c_R_wrapInto 56 = .ok (.aload_n 0, 1) := by decide +kernel
theorem d_R_wrapInto_57 : decode c_R_wrapInto 57 = .ok (.sipush 160, 3) := by decide +kernel
theorem d_R_wrapInto_60 : decode c_R_wrapInto 60 = .ok (.invokevirtual 109, 3) := by decide +kernel
theorem d_R_wrapInto_63 : decode c_R_wrapInto 63 = .ok (.iconst 0, 1) := by decide +kernel
theorem d_R_wrapInto_64 : decode c_R_wrapInto 64 = .ok (.istore 8, 2) := by decide +kernel
theorem d_R_wrapInto_66 : decode c_R_wrapInto 66 = .ok (.iload 8, 2) := by decide +kernel
theorem d_R_wrapInto_68 : decode c_R_wrapInto 68 = .ok (.bipush 80, 2) := by decide +kernel
theorem d_R_wrapInto_70 : decode c_R_wrapInto 70 = .ok (.if_icmp .ge 22, 3) := by decide +kernel
theorem d_R_wrapInto_73 : decode c_R_wrapInto 73 = .ok (.aload_n 0, 1) := by decide +kernel
theorem d_R_wrapInto_74 : decode c_R_wrapInto 74 = .ok (.getfield 63, 3) := by decide +kernel
theorem d_R_wrapInto_77 : decode c_R_wrapInto 77 = .ok (.iload 8, 2) := by decide +kernel
theorem d_R_wrapInto_79 : decode c_R_wrapInto 79 = .ok (.aload_n 0, 1) := by decide +kernel
theorem d_R_wrapInto_80 : decode c_R_wrapInto 80 = .ok (.iload 8, 2) := by decide +kernel
theorem d_R_wrapInto_82 : decode c_R_wrapInto 82 = .ok (.invokevirtual 122, 3) := by decide +kernel
theorem d_R_wrapInto_85 : decode c_R_wrapInto 85 = .ok (.iastore, 1) := by decide +kernel
theorem d_R_wrapInto_86 : decode c_R_wrapInto 86 = .ok (.iinc 8 1, 3) := by decide +kernel
theorem d_R_wrapInto_89 : decode c_R_wrapInto 89 = .ok (.goto (-23), 3) := by decide +kernel
theorem d_R_wrapInto_92 : decode c_R_wrapInto 92 = .ok (.iconst 0, 1) := by decide +kernel
theorem d_R_wrapInto_93 : decode c_R_wrapInto 93 = .ok (.istore 8, 2) := by decide +kernel
theorem d_R_wrapInto_95 : decode c_R_wrapInto 95 = .ok (.iload 8, 2) := by decide +kernel
theorem d_R_wrapInto_97 : decode c_R_wrapInto 97 = .ok (.bipush 32, 2) := by decide +kernel
theorem d_R_wrapInto_99 : decode c_R_wrapInto 99 = .ok (.if_icmp .ge 92, 3) := by decide +kernel
theorem d_R_wrapInto_102 : decode c_R_wrapInto 102 = .ok (.aload_n 0, 1) := by decide +kernel
theorem d_R_wrapInto_103 : decode c_R_wrapInto 103 = .ok (.getfield 63, 3) := by decide +kernel
theorem d_R_wrapInto_106 : decode c_R_wrapInto 106 = .ok (.bipush 32, 2) := by decide +kernel
theorem d_R_wrapInto_108 : decode c_R_wrapInto 108 = .ok (.iload 8, 2) := by decide +kernel
theorem d_R_wrapInto_110 : decode c_R_wrapInto 110 = .ok (.iadd, 1) := by decide +kernel
theorem d_R_wrapInto_111 : decode c_R_wrapInto 111 = .ok (.iaload, 1) := by decide +kernel
theorem d_R_wrapInto_112 : decode c_R_wrapInto 112 = .ok (.istore 9, 2) := by decide +kernel
theorem d_R_wrapInto_114 : decode c_R_wrapInto 114 = .ok (.iconst 0, 1) := by decide +kernel
theorem d_R_wrapInto_115 : decode c_R_wrapInto 115 = .ok (.istore 10, 2) := by decide +kernel
theorem d_R_wrapInto_117 : decode c_R_wrapInto 117 = .ok (.iload 10, 2) := by decide +kernel
theorem d_R_wrapInto_119 : decode c_R_wrapInto 119 = .ok (.bipush 8, 2) := by decide +kernel
theorem d_R_wrapInto_121 : decode c_R_wrapInto 121 = .ok (.if_icmp .ge 55, 3) := by decide +kernel
theorem d_R_wrapInto_124 : decode c_R_wrapInto 124 = .ok (.iload 9, 2) := by decide +kernel
theorem d_R_wrapInto_126 : decode c_R_wrapInto 126 = .ok (.aload_n 0, 1) := by decide +kernel
theorem d_R_wrapInto_127 : decode c_R_wrapInto 127 = .ok (.getfield 63, 3) := by decide +kernel
theorem d_R_wrapInto_130 : decode c_R_wrapInto 130 = .ok (.bipush 8, 2) := by decide +kernel
theorem d_R_wrapInto_132 : decode c_R_wrapInto 132 = .ok (.iload 8, 2) := by decide +kernel
theorem d_R_wrapInto_134 : decode c_R_wrapInto 134 = .ok (.bipush 8, 2) := by decide +kernel
theorem d_R_wrapInto_136 : decode c_R_wrapInto 136 = .ok (.idiv, 1) := by decide +kernel
theorem d_R_wrapInto_137 : decode c_R_wrapInto 137 = .ok (.imul, 1) := by decide +kernel
theorem d_R_wrapInto_138 : decode c_R_wrapInto 138 = .ok (.iload 10, 2) := by decide +kernel
theorem d_R_wrapInto_140 : decode c_R_wrapInto 140 = .ok (.iadd, 1) := by decide +kernel
theorem d_R_wrapInto_141 : decode c_R_wrapInto 141 = .ok (.iaload, 1) := by decide +kernel
theorem d_R_wrapInto_142 : decode c_R_wrapInto 142 = .ok (.aload_n 0, 1) := by decide +kernel
theorem d_R_wrapInto_143 : decode c_R_wrapInto 143 = .ok (.getfield 45, 3) := by decide +kernel
theorem d_R_wrapInto_146 : decode c_R_wrapInto 146 = .ok (.bipush 64, 2) := by decide +kernel
theorem d_R_wrapInto_148 : decode c_R_wrapInto 148 = .ok (.iload_n 2, 1) := by decide +kernel
theorem d_R_wrapInto_149 : decode c_R_wrapInto 149 = .ok (.imul, 1) := by decide +kernel
theorem d_R_wrapInto_150 : decode c_R_wrapInto 150 = .ok (.bipush 8, 2) := by decide +kernel
theorem d_R_wrapInto_152 : decode c_R_wrapInto 152 = .ok (.iload 10, 2) := by decide +kernel
theorem d_R_wrapInto_154 : decode c_R_wrapInto 154 = .ok (.imul, 1) := by decide +kernel
theorem d_R_wrapInto_155 : decode c_R_wrapInto 155 = .ok (.iadd, 1) := by decide +kernel
theorem d_R_wrapInto_156 : decode c_R_wrapInto 156 = .ok (.iload 8, 2) := by decide +kernel
theorem d_R_wrapInto_158 : decode c_R_wrapInto 158 = .ok (.bipush 8, 2) := by decide +kernel
theorem d_R_wrapInto_160 : decode c_R_wrapInto 160 = .ok (.irem, 1) := by decide +kernel
theorem d_R_wrapInto_161 : decode c_R_wrapInto 161 = .ok (.iadd, 1) := by decide +kernel
theorem d_R_wrapInto_162 : decode c_R_wrapInto 162 = .ok (.iaload, 1) := by decide +kernel
theorem d_R_wrapInto_163 : decode c_R_wrapInto 163 = .ok (.imul, 1) := by decide +kernel
theorem d_R_wrapInto_164 : decode c_R_wrapInto 164 = .ok (.iadd, 1) := by decide +kernel
theorem d_R_wrapInto_165 : decode c_R_wrapInto 165 = .ok (.ldc 104, 2) := by decide +kernel
theorem d_R_wrapInto_167 : decode c_R_wrapInto 167 = .ok (.irem, 1) := by decide +kernel
theorem d_R_wrapInto_168 : decode c_R_wrapInto 168 = .ok (.istore 9, 2) := by decide +kernel
theorem d_R_wrapInto_170 : decode c_R_wrapInto 170 = .ok (.iinc 10 1, 3) := by decide +kernel
theorem d_R_wrapInto_173 : decode c_R_wrapInto 173 = .ok (.goto (-56), 3) := by decide +kernel
theorem d_R_wrapInto_176 : decode c_R_wrapInto 176 = .ok (.aload_n 0, 1) := by decide +kernel
theorem d_R_wrapInto_177 : decode c_R_wrapInto 177 = .ok (.getfield 66, 3) := by decide +kernel
theorem d_R_wrapInto_180 : decode c_R_wrapInto 180 = .ok (.iload 8, 2) := by decide +kernel
theorem d_R_wrapInto_182 : decode c_R_wrapInto 182 = .ok (.iload 9, 2) := by decide +kernel
theorem d_R_wrapInto_184 : decode c_R_wrapInto 184 = .ok (.iastore, 1) := by decide +kernel
theorem d_R_wrapInto_185 : decode c_R_wrapInto 185 = .ok (.iinc 8 1, 3) := by decide +kernel
theorem d_R_wrapInto_188 : decode c_R_wrapInto 188 = .ok (.goto (-93), 3) := by decide +kernel
theorem d_R_wrapInto_191 : decode c_R_wrapInto 191 = .ok (.iconst 0, 1) := by decide +kernel
theorem d_R_wrapInto_192 : decode c_R_wrapInto 192 = .ok (.istore 8, 2) := by decide +kernel
theorem d_R_wrapInto_194 : decode c_R_wrapInto 194 = .ok (.iload 8, 2) := by decide +kernel
theorem d_R_wrapInto_196 : decode c_R_wrapInto 196 = .ok (.bipush 16, 2) := by decide +kernel
theorem d_R_wrapInto_198 : decode c_R_wrapInto 198 = .ok (.if_icmp .ge 105, 3) := by decide +kernel
theorem d_R_wrapInto_201 : decode c_R_wrapInto 201 = .ok (.aload_n 0, 1) := by decide +kernel
theorem d_R_wrapInto_202 : decode c_R_wrapInto 202 = .ok (.getfield 63, 3) := by decide +kernel
theorem d_R_wrapInto_205 : decode c_R_wrapInto 205 = .ok (.bipush 64, 2) := by decide +kernel
theorem d_R_wrapInto_207 : decode c_R_wrapInto 207 = .ok (.iload 8, 2) := by decide +kernel
theorem d_R_wrapInto_209 : decode c_R_wrapInto 209 = .ok (.iadd, 1) := by decide +kernel
theorem d_R_wrapInto_210 : decode c_R_wrapInto 210 = .ok (.iaload, 1) := by decide +kernel
theorem d_R_wrapInto_211 : decode c_R_wrapInto 211 = .ok (.sipush 8192, 3) := by decide +kernel
theorem d_R_wrapInto_214 : decode c_R_wrapInto 214 = .ok (.iload_n 3, 1) := by decide +kernel
theorem d_R_wrapInto_215 : decode c_R_wrapInto 215 = .ok (.iconst 2, 1) := by decide +kernel
theorem d_R_wrapInto_216 : decode c_R_wrapInto 216 = .ok (.iload 8, 2) := by decide +kernel
theorem d_R_wrapInto_218 : decode c_R_wrapInto 218 = .ok (.imul, 1) := by decide +kernel
theorem d_R_wrapInto_219 : decode c_R_wrapInto 219 = .ok (.iushr, 1) := by decide +kernel
theorem d_R_wrapInto_220 : decode c_R_wrapInto 220 = .ok (.iconst 3, 1) := by decide +kernel
theorem d_R_wrapInto_221 : decode c_R_wrapInto 221 = .ok (.iand, 1) := by decide +kernel
theorem d_R_wrapInto_222 : decode c_R_wrapInto 222 = .ok (.imul, 1) := by decide +kernel
theorem d_R_wrapInto_223 : decode c_R_wrapInto 223 = .ok (.iadd, 1) := by decide +kernel
theorem d_R_wrapInto_224 : decode c_R_wrapInto 224 = .ok (.istore 9, 2) := by decide +kernel
theorem d_R_wrapInto_226 : decode c_R_wrapInto 226 = .ok (.iconst 0, 1) := by decide +kernel
theorem d_R_wrapInto_227 : decode c_R_wrapInto 227 = .ok (.istore 10, 2) := by decide +kernel
theorem d_R_wrapInto_229 : decode c_R_wrapInto 229 = .ok (.iload 10, 2) := by decide +kernel
theorem d_R_wrapInto_231 : decode c_R_wrapInto 231 = .ok (.bipush 8, 2) := by decide +kernel
theorem d_R_wrapInto_233 : decode c_R_wrapInto 233 = .ok (.if_icmp .ge 52, 3) := by decide +kernel
theorem d_R_wrapInto_236 : decode c_R_wrapInto 236 = .ok (.iload 9, 2) := by decide +kernel
theorem d_R_wrapInto_238 : decode c_R_wrapInto 238 = .ok (.aload_n 0, 1) := by decide +kernel
theorem d_R_wrapInto_239 : decode c_R_wrapInto 239 = .ok (.getfield 63, 3) := by decide +kernel
theorem d_R_wrapInto_242 : decode c_R_wrapInto 242 = .ok (.bipush 8, 2) := by decide +kernel
theorem d_R_wrapInto_244 : decode c_R_wrapInto 244 = .ok (.iload 8, 2) := by decide +kernel
theorem d_R_wrapInto_246 : decode c_R_wrapInto 246 = .ok (.iconst 4, 1) := by decide +kernel
theorem d_R_wrapInto_247 : decode c_R_wrapInto 247 = .ok (.idiv, 1) := by decide +kernel
theorem d_R_wrapInto_248 : decode c_R_wrapInto 248 = .ok (.imul, 1) := by decide +kernel
theorem d_R_wrapInto_249 : decode c_R_wrapInto 249 = .ok (.iload 10, 2) := by decide +kernel
theorem d_R_wrapInto_251 : decode c_R_wrapInto 251 = .ok (.iadd, 1) := by decide +kernel
theorem d_R_wrapInto_252 : decode c_R_wrapInto 252 = .ok (.iaload, 1) := by decide +kernel
theorem d_R_wrapInto_253 : decode c_R_wrapInto 253 = .ok (.aload_n 0, 1) := by decide +kernel
theorem d_R_wrapInto_254 : decode c_R_wrapInto 254 = .ok (.getfield 51, 3) := by decide +kernel
theorem d_R_wrapInto_257 : decode c_R_wrapInto 257 = .ok (.bipush 32, 2) := by decide +kernel
theorem d_R_wrapInto_259 : decode c_R_wrapInto 259 = .ok (.iload_n 2, 1) := by decide +kernel
theorem d_R_wrapInto_260 : decode c_R_wrapInto 260 = .ok (.imul, 1) := by decide +kernel
theorem d_R_wrapInto_261 : decode c_R_wrapInto 261 = .ok (.iconst 4, 1) := by decide +kernel
theorem d_R_wrapInto_262 : decode c_R_wrapInto 262 = .ok (.iload 10, 2) := by decide +kernel
theorem d_R_wrapInto_264 : decode c_R_wrapInto 264 = .ok (.imul, 1) := by decide +kernel
theorem d_R_wrapInto_265 : decode c_R_wrapInto 265 = .ok (.iadd, 1) := by decide +kernel
theorem d_R_wrapInto_266 : decode c_R_wrapInto 266 = .ok (.iload 8, 2) := by decide +kernel
theorem d_R_wrapInto_268 : decode c_R_wrapInto 268 = .ok (.iconst 4, 1) := by decide +kernel
theorem d_R_wrapInto_269 : decode c_R_wrapInto 269 = .ok (.irem, 1) := by decide +kernel
theorem d_R_wrapInto_270 : decode c_R_wrapInto 270 = .ok (.iadd, 1) := by decide +kernel
theorem d_R_wrapInto_271 : decode c_R_wrapInto 271 = .ok (.iaload, 1) := by decide +kernel
theorem d_R_wrapInto_272 : decode c_R_wrapInto 272 = .ok (.imul, 1) := by decide +kernel
theorem d_R_wrapInto_273 : decode c_R_wrapInto 273 = .ok (.iadd, 1) := by decide +kernel
theorem d_R_wrapInto_274 : decode c_R_wrapInto 274 = .ok (.ldc 104, 2) := by decide +kernel
theorem d_R_wrapInto_276 : decode c_R_wrapInto 276 = .ok (.irem, 1) := by decide +kernel
theorem d_R_wrapInto_277 : decode c_R_wrapInto 277 = .ok (.istore 9, 2) := by decide +kernel
theorem d_R_wrapInto_279 : decode c_R_wrapInto 279 = .ok (.iinc 10 1, 3) := by decide +kernel
theorem d_R_wrapInto_282 : decode c_R_wrapInto 282 = .ok (.goto (-53), 3) := by decide +kernel
theorem d_R_wrapInto_285 : decode c_R_wrapInto 285 = .ok (.aload_n 0, 1) := by decide +kernel
theorem d_R_wrapInto_286 : decode c_R_wrapInto 286 = .ok (.getfield 69, 3) := by decide +kernel
theorem d_R_wrapInto_289 : decode c_R_wrapInto 289 = .ok (.iload 8, 2) := by decide +kernel
theorem d_R_wrapInto_291 : decode c_R_wrapInto 291 = .ok (.iload 9, 2) := by decide +kernel
theorem d_R_wrapInto_293 : decode c_R_wrapInto 293 = .ok (.ldc 104, 2) := by decide +kernel
theorem d_R_wrapInto_295 : decode c_R_wrapInto 295 = .ok (.irem, 1) := by decide +kernel
theorem d_R_wrapInto_296 : decode c_R_wrapInto 296 = .ok (.iastore, 1) := by decide +kernel
theorem d_R_wrapInto_297 : decode c_R_wrapInto 297 = .ok (.iinc 8 1, 3) := by decide +kernel
theorem d_R_wrapInto_300 : decode c_R_wrapInto 300 = .ok (.goto (-106), 3) := by decide +kernel
theorem d_R_wrapInto_303 : decode c_R_wrapInto 303 = .ok (.iconst 0, 1) := by decide +kernel
theorem d_R_wrapInto_304 : decode c_R_wrapInto 304 = .ok (.istore 8, 2) := by decide +kernel
theorem d_R_wrapInto_306 : decode c_R_wrapInto 306 = .ok (.iload 8, 2) := by decide +kernel
theorem d_R_wrapInto_308 : decode c_R_wrapInto 308 = .ok (.bipush 90, 2) := by decide +kernel
theorem d_R_wrapInto_310 : decode c_R_wrapInto 310 = .ok (.if_icmp .ge 54, 3) := by decide +kernel
theorem d_R_wrapInto_313 : decode c_R_wrapInto 313 = .ok (.aload_n 0, 1) := by decide +kernel
theorem d_R_wrapInto_314 : decode c_R_wrapInto 314 = .ok (.getfield 60, 3) := by decide +kernel
theorem d_R_wrapInto_317 : decode c_R_wrapInto 317 = .ok (.bipush 90, 2) := by decide +kernel
theorem d_R_wrapInto_319 : decode c_R_wrapInto 319 = .ok (.iload_n 1, 1) := by decide +kernel
theorem d_R_wrapInto_320 : decode c_R_wrapInto 320 = .ok (.imul, 1) := by decide +kernel
theorem d_R_wrapInto_321 : decode c_R_wrapInto 321 = .ok (.iload 8, 2) := by decide +kernel
theorem d_R_wrapInto_323 : decode c_R_wrapInto 323 = .ok (.iadd, 1) := by decide +kernel
theorem d_R_wrapInto_324 : decode c_R_wrapInto 324 = .ok (.iload 8, 2) := by decide +kernel
theorem d_R_wrapInto_326 : decode c_R_wrapInto 326 = .ok (.bipush 60, 2) := by decide +kernel
theorem d_R_wrapInto_328 : decode c_R_wrapInto 328 = .ok (.if_icmp .ge 16, 3) := by decide +kernel
theorem d_R_wrapInto_331 : decode c_R_wrapInto 331 = .ok (.aload_n 0, 1) := by decide +kernel
theorem d_R_wrapInto_332 : decode c_R_wrapInto 332 = .ok (.getfield 66, 3) := by decide +kernel
theorem d_R_wrapInto_335 : decode c_R_wrapInto 335 = .ok (.iconst 0, 1) := by decide +kernel
theorem d_R_wrapInto_336 : decode c_R_wrapInto 336 = .ok (.iload 8, 2) := by decide +kernel
theorem d_R_wrapInto_338 : decode c_R_wrapInto 338 = .ok (.invokestatic 105, 3) := by decide +kernel
theorem d_R_wrapInto_341 : decode c_R_wrapInto 341 = .ok (.goto 16, 3) := by decide +kernel
theorem d_R_wrapInto_344 : decode c_R_wrapInto 344 = .ok (.aload_n 0, 1) := by decide +kernel
theorem d_R_wrapInto_345 : decode c_R_wrapInto 345 = .ok (.getfield 69, 3) := by decide +kernel
theorem d_R_wrapInto_348 : decode c_R_wrapInto 348 = .ok (.iconst 0, 1) := by decide +kernel
theorem d_R_wrapInto_349 : decode c_R_wrapInto 349 = .ok (.iload 8, 2) := by decide +kernel
theorem d_R_wrapInto_351 : decode c_R_wrapInto 351 = .ok (.bipush 60, 2) := by decide +kernel
theorem d_R_wrapInto_353 : decode c_R_wrapInto 353 = .ok (.isub, 1) := by decide +kernel
theorem d_R_wrapInto_354 : decode c_R_wrapInto 354 = .ok (.invokestatic 105, 3) := by decide +kernel
theorem d_R_wrapInto_357 : decode c_R_wrapInto 357 = .ok (.iastore, 1) := by decide +kernel
theorem d_R_wrapInto_358 : decode c_R_wrapInto 358 = .ok (.iinc 8 1, 3) := by decide +kernel
theorem d_R_wrapInto_361 : decode c_R_wrapInto 361 = .ok (.goto (-55), 3) := by decide +kernel
theorem d_R_wrapInto_364 : decode c_R_wrapInto 364 = .ok (.aload_n 0, 1) := by decide +kernel
theorem d_R_wrapInto_365 : decode c_R_wrapInto 365 = .ok (.iload_n 1, 1) := by decide +kernel
theorem d_R_wrapInto_366 : decode c_R_wrapInto 366 = .ok (.invokevirtual 133, 3) := by decide +kernel
theorem d_R_wrapInto_369 : decode c_R_wrapInto 369 = .ok (.aload_n 0, 1) := by decide +kernel
theorem d_R_wrapInto_370 : decode c_R_wrapInto 370 = .ok (.lload 6, 2) := by decide +kernel
theorem d_R_wrapInto_372 : decode c_R_wrapInto 372 = .ok (.bipush 8, 2) := by decide +kernel
theorem d_R_wrapInto_374 : decode c_R_wrapInto 374 = .ok (.invokevirtual 87, 3) := by decide +kernel
theorem d_R_wrapInto_377 : decode c_R_wrapInto 377 = .ok (.aload_n 0, 1) := by decide +kernel
theorem d_R_wrapInto_378 : decode c_R_wrapInto 378 = .ok (.bipush 8, 2) := by decide +kernel
theorem d_R_wrapInto_380 : decode c_R_wrapInto 380 = .ok (.invokevirtual 109, 3) := by decide +kernel
theorem d_R_wrapInto_383 : decode c_R_wrapInto 383 = .ok (.aload_n 0, 1) := by decide +kernel
theorem d_R_wrapInto_384 : decode c_R_wrapInto 384 = .ok (.iconst 0, 1) := by decide +kernel
theorem d_R_wrapInto_385 : decode c_R_wrapInto 385 = .ok (.invokevirtual 116, 3) := by decide +kernel
theorem d_R_wrapInto_388 : decode c_R_wrapInto 388 = .ok (.lreturn, 1) := by decide +kernel
theorem d_R_addWrap_0 : decode c_R_addWrap 0 = .ok (.iconst 0, 1) := by decide +kernel
theorem d_R_addWrap_1 : decode c_R_addWrap 1 = .ok (.istore_n 2, 1) := by decide +kernel
theorem d_R_addWrap_2 : decode c_R_addWrap 2 = .ok (.iload_n 2, 1) := by decide +kernel
theorem d_R_addWrap_3 : decode c_R_addWrap 3 = .ok (.bipush 90, 2) := by decide +kernel
theorem d_R_addWrap_5 : decode c_R_addWrap 5 = .ok (.if_icmp .ge 26, 3) := by decide +kernel
theorem d_R_addWrap_8 : decode c_R_addWrap 8 = .ok (.aload_n 0, 1) := by decide +kernel
theorem d_R_addWrap_9 : decode c_R_addWrap 9 = .ok (.aload_n 0, 1) := by decide +kernel
theorem d_R_addWrap_10 : decode c_R_addWrap 10 = .ok (.getfield 60, 3) := by decide +kernel
theorem d_R_addWrap_13 : decode c_R_addWrap 13 = .ok (.bipush 90, 2) := by decide +kernel
theorem d_R_addWrap_15 : decode c_R_addWrap 15 = .ok (.iload_n 1, 1) := by decide +kernel
theorem d_R_addWrap_16 : decode c_R_addWrap 16 = .ok (.imul, 1) := by decide +kernel
theorem d_R_addWrap_17 : decode c_R_addWrap 17 = .ok (.iload_n 2, 1) := by decide +kernel
theorem d_R_addWrap_18 : decode c_R_addWrap 18 = .ok (.iadd, 1) := by decide +kernel
theorem d_R_addWrap_19 : decode c_R_addWrap 19 = .ok (.iaload, 1) := by decide +kernel
theorem d_R_addWrap_20 : decode c_R_addWrap 20 = .ok (.i2l, 1) := by decide +kernel
theorem d_R_addWrap_21 : decode c_R_addWrap 21 = .ok (.iconst 1, 1) := by decide +kernel
theorem d_R_addWrap_22 : decode c_R_addWrap 22 = .ok (.invokevirtual 87, 3) := by decide +kernel
theorem d_R_addWrap_25 : decode c_R_addWrap 25 = .ok (.iinc 2 1, 3) := by decide +kernel
theorem d_R_addWrap_28 : decode c_R_addWrap 28 = .ok (.goto (-26), 3) := by decide +kernel
theorem d_R_addWrap_31 : decode c_R_addWrap 31 = .ok (.return_, 1) := by decide +kernel
theorem d_R_unwrap_0 : decode c_R_unwrap 0 = .ok (.aload_n 0, 1) := by decide +kernel
theorem d_R_unwrap_1 : decode c_R_unwrap 1 = .ok (.aload_n 0, 1) := by decide +kernel
theorem d_R_unwrap_2 : decode c_R_unwrap 2 = .ok (.iload_n 1, 1) := by decide +kernel
theorem d_R_unwrap_3 : decode c_R_unwrap 3 = .ok (.iload_n 2, 1) := by decide +kernel
theorem d_R_unwrap_4 : decode c_R_unwrap 4 = .ok (.invokevirtual 148, 3) := by decide +kernel
theorem d_R_unwrap_7 : decode c_R_unwrap 7 = .ok (.putfield 72, 3) := by decide +kernel
theorem d_R_unwrap_10 : decode c_R_unwrap 10 = .ok (.aload_n 0, 1) := by decide +kernel
theorem d_R_unwrap_11 : decode c_R_unwrap 11 = .ok (.getfield 72, 3) := by decide +kernel
theorem d_R_unwrap_14 : decode c_R_unwrap 14 = .ok (.ifCond .le 5, 3) := by decide +kernel
theorem d_R_unwrap_17 : decode c_R_unwrap 17 = .ok (.lconst 0, 1) := by decide +kernel
theorem d_R_unwrap_18 : decode c_R_unwrap 18 = .ok (.lreturn, 1) := by decide +kernel
theorem d_R_unwrap_19 : decode c_R_unwrap 19 = .ok (.aload_n 0, 1) := by decide +kernel
theorem d_R_unwrap_20 : decode c_R_unwrap 20 = .ok (.iconst 4, 1) := by decide +kernel
theorem d_R_unwrap_21 : decode c_R_unwrap 21 = .ok (.iload_n 2, 1) := by decide +kernel
theorem d_R_unwrap_22 : decode c_R_unwrap 22 = .ok (.aload_n 0, 1) := by decide +kernel
theorem d_R_unwrap_23 : decode c_R_unwrap 23 = .ok (.iload_n 1, 1) := by decide +kernel
theorem d_R_unwrap_24 : decode c_R_unwrap 24 = .ok (.iload_n 2, 1) := by decide +kernel
theorem d_R_unwrap_25 : decode c_R_unwrap 25 = .ok (.invokevirtual 151, 3) := by decide +kernel
theorem d_R_unwrap_28 : decode c_R_unwrap 28 = .ok (.invokevirtual 144, 3) := by decide +kernel
theorem d_R_unwrap_31 : decode c_R_unwrap 31 = .ok (.lstore_n 3, 1) := by decide +kernel
theorem d_R_unwrap_32 : decode c_R_unwrap 32 = .ok (.iconst 1, 1) := by decide +kernel
theorem d_R_unwrap_33 : decode c_R_unwrap 33 = .ok (.istore 5, 2) := by decide +kernel
theorem d_R_unwrap_35 : decode c_R_unwrap 35 = .ok (.iconst 0, 1) := by decide +kernel
theorem d_R_unwrap_36 : decode c_R_unwrap 36 = .ok (.istore 6, 2) := by decide +kernel
theorem d_R_unwrap_38 : decode c_R_unwrap 38 = .ok (.iload 6, 2) := by decide +kernel
theorem d_R_unwrap_40 : decode c_R_unwrap 40 = .ok (.bipush 90, 2) := by decide +kernel
theorem d_R_unwrap_42 : decode c_R_unwrap 42 = .ok (.if_icmp .ge 47, 3) := by decide +kernel
theorem d_R_unwrap_45 : decode c_R_unwrap 45 = .ok (.iload 5, 2) := by decide +kernel
theorem d_R_unwrap_47 : decode c_R_unwrap 47 = .ok (.ifCond .eq 33, 3) := by decide +kernel
theorem d_R_unwrap_50 : decode c_R_unwrap 50 = .ok (.aload_n 0, 1) := by decide +kernel
theorem d_R_unwrap_51 : decode c_R_unwrap 51 = .ok (.getfield 60, 3) := by decide +kernel
theorem d_R_unwrap_54 : decode c_R_unwrap 54 = .ok (.sipush 360, 3) := by decide +kernel
theorem d_R_unwrap_57 : decode c_R_unwrap 57 = .ok (.iload 6, 2) := by decide +kernel
theorem d_R_unwrap_59 : decode c_R_unwrap 59 = .ok (.iadd, 1) := by decide +kernel
theorem d_R_unwrap_60 : decode c_R_unwrap 60 = .ok (.iaload, 1) := by decide +kernel
theorem d_R_unwrap_61 : decode c_R_unwrap 61 = .ok (.aload_n 0, 1) := by decide +kernel
theorem d_R_unwrap_62 : decode c_R_unwrap 62 = .ok (.getfield 60, 3) := by decide +kernel
theorem d_R_unwrap_65 : decode c_R_unwrap 65 = .ok (.bipush 90, 2) := by decide +kernel
theorem d_R_unwrap_67 : decode c_R_unwrap 67 = .ok (.iload_n 1, 1) := by decide +kernel
theorem d_R_unwrap_68 : decode c_R_unwrap 68 = .ok (.imul, 1) := by decide +kernel
theorem d_R_unwrap_69 : decode c_R_unwrap 69 = .ok (.iload 6, 2) := by decide +kernel
theorem d_R_unwrap_71 : decode c_R_unwrap 71 = .ok (.iadd, 1) := by decide +kernel
theorem d_R_unwrap_72 : decode c_R_unwrap 72 = .ok (.iaload, 1) := by decide +kernel
theorem d_R_unwrap_73 : decode c_R_unwrap 73 = .ok (.if_icmp .ne 7, 3) := by decide +kernel
theorem d_R_unwrap_76 : decode c_R_unwrap 76 = .ok (.iconst 1, 1) := by decide +kernel
theorem d_R_unwrap_77 : decode c_R_unwrap 77 = .ok (.goto 4, 3) := by decide +kernel
theorem d_R_unwrap_80 : decode c_R_unwrap 80 = .ok (.iconst 0, 1) := by decide +kernel
theorem d_R_unwrap_81 : decode c_R_unwrap 81 = .ok (.istore 5, 2) := by decide +kernel
theorem d_R_unwrap_83 : decode c_R_unwrap 83 = .ok (.iinc 6 1, 3) := by decide +kernel
theorem d_R_unwrap_86 : decode c_R_unwrap 86 = .ok (.goto (-48), 3) := by decide +kernel
theorem d_R_unwrap_89 : decode c_R_unwrap 89 = .ok (.iload 5, 2) := by decide +kernel
theorem d_R_unwrap_91 : decode c_R_unwrap 91 = .ok (.ifCond .eq 5, 3) := by decide +kernel
theorem d_R_unwrap_94 : decode c_R_unwrap 94 = .ok (.lload_n 3, 1) := by decide +kernel
theorem d_R_unwrap_95 : decode c_R_unwrap 95 = .ok (.lreturn, 1) := by decide +kernel
theorem d_R_unwrap_96 : decode c_R_unwrap 96 = .ok (.aload_n 0, 1) := by decide +kernel
theorem d_R_unwrap_97 : decode c_R_unwrap 97 = .ok (.iload_n 1, 1) := by decide +kernel
theorem d_R_unwrap_98 : decode c_R_unwrap 98 = .ok (.invokevirtual 133, 3) := by decide +kernel
theorem d_R_unwrap_101 : decode c_R_unwrap 101 = .ok (.aload_n 0, 1) := by decide +kernel
theorem d_R_unwrap_102 : decode c_R_unwrap 102 = .ok (.aload_n 0, 1) := by decide +kernel
theorem d_R_unwrap_103 : decode c_R_unwrap 103 = .ok (.getfield 39, 3) := by decide +kernel
theorem d_R_unwrap_106 : decode c_R_unwrap 106 = .ok (.iload_n 2, 1) := by decide +kernel
theorem d_R_unwrap_107 : decode c_R_unwrap 107 = .ok (.laload, 1) := by decide +kernel
theorem d_R_unwrap_108 : decode c_R_unwrap 108 = .ok (.bipush 8, 2) := by decide +kernel
theorem d_R_unwrap_110 : decode c_R_unwrap 110 = .ok (.invokevirtual 87, 3) := by decide +kernel
theorem d_R_unwrap_113 : decode c_R_unwrap 113 = .ok (.aload_n 0, 1) := by decide +kernel
theorem d_R_unwrap_114 : decode c_R_unwrap 114 = .ok (.bipush 8, 2) := by decide +kernel
theorem d_R_unwrap_116 : decode c_R_unwrap 116 = .ok (.invokevirtual 109, 3) := by decide +kernel
theorem d_R_unwrap_119 : decode c_R_unwrap 119 = .ok (.aload_n 0, 1) := by decide +kernel
theorem d_R_unwrap_120 : decode c_R_unwrap 120 = .ok (.iconst 0, 1) := by decide +kernel
theorem d_R_unwrap_121 : decode c_R_unwrap 121 = .ok (.invokevirtual 116, 3) := by decide +kernel
theorem d_R_unwrap_124 : decode c_R_unwrap 124 = .ok (.lreturn, 1) := by decide +kernel
theorem d_R_refusal_0 : decode c_R_refusal 0 = .ok (.iload_n 1, 1) := by decide +kernel
theorem d_R_refusal_1 : decode c_R_refusal 1 = .ok (.invokestatic 112, 3) := by decide +kernel
theorem d_R_refusal_4 : decode c_R_refusal 4 = .ok (.ifCond .eq 10, 3) := by decide +kernel
theorem d_R_refusal_7 : decode c_R_refusal 7 = .ok (.iload_n 2, 1) := by decide +kernel
theorem d_R_refusal_8 : decode c_R_refusal 8 = .ok (.invokestatic 112, 3) := by decide +kernel
theorem d_R_refusal_11 : decode c_R_refusal 11 = .ok (.ifCond .ne 7, 3) := by decide +kernel
theorem d_R_refusal_14 : decode c_R_refusal 14 = .ok (.iconst 1, 1) := by decide +kernel
theorem d_R_refusal_15 : decode c_R_refusal 15 = .ok (.goto 26, 3) := by decide +kernel
theorem d_R_refusal_18 : decode c_R_refusal 18 = .ok (.aload_n 0, 1) := by decide +kernel
theorem d_R_refusal_19 : decode c_R_refusal 19 = .ok (.getfield 33, 3) := by decide +kernel
theorem d_R_refusal_22 : decode c_R_refusal 22 = .ok (.iload_n 2, 1) := by decide +kernel
theorem d_R_refusal_23 : decode c_R_refusal 23 = .ok (.baload, 1) := by decide +kernel
theorem d_R_refusal_24 : decode c_R_refusal 24 = .ok (.ifCond .eq 12, 3) := by decide +kernel
theorem d_R_refusal_27 : decode c_R_refusal 27 = .ok (.aload_n 0, 1) := by decide +kernel
theorem d_R_refusal_28 : decode c_R_refusal 28 = .ok (.getfield 57, 3) := by decide +kernel
theorem d_R_refusal_31 : decode c_R_refusal 31 = .ok (.iload_n 1, 1) := by decide +kernel
theorem d_R_refusal_32 : decode c_R_refusal 32 = .ok (.baload, 1) := by decide +kernel
theorem d_R_refusal_33 : decode c_R_refusal 33 = .ok (.ifCond .ne 7, 3) := by decide +kernel
theorem d_R_refusal_36 : decode c_R_refusal 36 = .ok (.iconst 2, 1) := by decide +kernel
theorem d_R_refusal_37 : decode c_R_refusal 37 = .ok (.goto 4, 3) := by decide +kernel
theorem d_R_refusal_40 : decode c_R_refusal 40 = .ok (.iconst 0, 1) := by decide +kernel
theorem d_R_refusal_41 : decode c_R_refusal 41 = .ok (.ireturn, 1) := by decide +kernel
theorem d_R_readFrom_0 : decode c_R_readFrom 0 = .ok (.iconst 0, 1) := by decide +kernel
theorem d_R_readFrom_1 : decode c_R_readFrom 1 = .ok (.istore_n 3, 1) := by decide +kernel
theorem d_R_readFrom_2 : decode c_R_readFrom 2 = .ok (.bipush 15, 2) := by decide +kernel
theorem d_R_readFrom_4 : decode c_R_readFrom 4 = .ok (.istore 4, 2) := by decide +kernel
theorem d_R_readFrom_6 : decode c_R_readFrom 6 = .ok (.iload 4, 2) := by decide +kernel
theorem d_R_readFrom_8 : decode c_R_readFrom 8 = .ok (.ifCond .lt 32, 3) := by decide +kernel
theorem d_R_readFrom_11 : decode c_R_readFrom 11 = .ok (.iload_n 3, 1) := by decide +kernel
theorem d_R_readFrom_12 : decode c_R_readFrom 12 = .ok (.iconst 2, 1) := by decide +kernel
theorem d_R_readFrom_13 : decode c_R_readFrom 13 = .ok (.ishl, 1) := by decide +kernel
theorem d_R_readFrom_14 : decode c_R_readFrom 14 = .ok (.aload_n 0, 1) := by decide +kernel
theorem d_R_readFrom_15 : decode c_R_readFrom 15 = .ok (.iload_n 1, 1) := by decide +kernel
theorem d_R_readFrom_16 : decode c_R_readFrom 16 = .ok (.iload_n 2, 1) := by decide +kernel
theorem d_R_readFrom_17 : decode c_R_readFrom 17 = .ok (.iload 4, 2) := by decide +kernel
theorem d_R_readFrom_19 : decode c_R_readFrom 19 = .ok (.iconst 4, 1) := by decide +kernel
theorem d_R_readFrom_20 : decode c_R_readFrom 20 = .ok (.idiv, 1) := by decide +kernel
theorem d_R_readFrom_21 : decode c_R_readFrom 21 = .ok (.iload 4, 2) := by decide +kernel
theorem d_R_readFrom_23 : decode c_R_readFrom 23 = .ok (.iconst 4, 1) := by decide +kernel
theorem d_R_readFrom_24 : decode c_R_readFrom 24 = .ok (.irem, 1) := by decide +kernel
theorem d_R_readFrom_25 : decode c_R_readFrom 25 = .ok (.invokevirtual 140, 3) := by decide +kernel
theorem d_R_readFrom_28 : decode c_R_readFrom 28 = .ok (.sipush 8192, 3) := by decide +kernel
theorem d_R_readFrom_31 : decode c_R_readFrom 31 = .ok (.idiv, 1) := by decide +kernel
theorem d_R_readFrom_32 : decode c_R_readFrom 32 = .ok (.ior, 1) := by decide +kernel
theorem d_R_readFrom_33 : decode c_R_readFrom 33 = .ok (.istore_n 3, 1) := by decide +kernel
theorem d_R_readFrom_34 : decode c_R_readFrom 34 = .ok (.iinc 4 (-1), 3) := by decide +kernel
theorem d_R_readFrom_37 : decode c_R_readFrom 37 = .ok (.goto (-31), 3) := by decide +kernel
theorem d_R_readFrom_40 : decode c_R_readFrom 40 = .ok (.iload_n 3, 1) := by decide +kernel
theorem d_R_readFrom_41 : decode c_R_readFrom 41 = .ok (.ireturn, 1) := by decide +kernel
theorem d_R_shifted_0 : decode c_R_shifted 0 = .ok (.aload_n 0, 1) := by decide +kernel
theorem d_R_shifted_1 : decode c_R_shifted 1 = .ok (.iload_n 1, 1) := by decide +kernel
theorem d_R_shifted_2 : decode c_R_shifted 2 = .ok (.bipush 32, 2) := by decide +kernel
theorem d_R_shifted_4 : decode c_R_shifted 4 = .ok (.iconst 4, 1) := by decide +kernel
theorem d_R_shifted_5 : decode c_R_shifted 5 = .ok (.iload_n 3, 1) := by decide +kernel
theorem d_R_shifted_6 : decode c_R_shifted 6 = .ok (.imul, 1) := by decide +kernel
theorem d_R_shifted_7 : decode c_R_shifted 7 = .ok (.iadd, 1) := by decide +kernel
theorem d_R_shifted_8 : decode c_R_shifted 8 = .ok (.iload 4, 2) := by decide +kernel
theorem d_R_shifted_10 : decode c_R_shifted 10 = .ok (.iadd, 1) := by decide +kernel
theorem d_R_shifted_11 : decode c_R_shifted 11 = .ok (.invokevirtual 136, 3) := by decide +kernel
theorem d_R_shifted_14 : decode c_R_shifted 14 = .ok (.sipush 4096, 3) := by decide +kernel
theorem d_R_shifted_17 : decode c_R_shifted 17 = .ok (.iadd, 1) := by decide +kernel
theorem d_R_shifted_18 : decode c_R_shifted 18 = .ok (.istore 5, 2) := by decide +kernel
theorem d_R_shifted_20 : decode c_R_shifted 20 = .ok (.iconst 0, 1) := by decide +kernel
theorem d_R_shifted_21 : decode c_R_shifted 21 = .ok (.istore 6, 2) := by decide +kernel
theorem d_R_shifted_23 : decode c_R_shifted 23 = .ok (.iload 6, 2) := by decide +kernel
theorem d_R_shifted_25 : decode c_R_shifted 25 = .ok (.bipush 8, 2) := by decide +kernel
theorem d_R_shifted_27 : decode c_R_shifted 27 = .ok (.if_icmp .ge 50, 3) := by decide +kernel
theorem d_R_shifted_30 : decode c_R_shifted 30 = .ok (.iload 5, 2) := by decide +kernel
theorem d_R_shifted_32 : decode c_R_shifted 32 = .ok (.aload_n 0, 1) := by decide +kernel
theorem d_R_shifted_33 : decode c_R_shifted 33 = .ok (.iload_n 1, 1) := by decide +kernel
theorem d_R_shifted_34 : decode c_R_shifted 34 = .ok (.bipush 8, 2) := by decide +kernel
theorem d_R_shifted_36 : decode c_R_shifted 36 = .ok (.iload_n 3, 1) := by decide +kernel
theorem d_R_shifted_37 : decode c_R_shifted 37 = .ok (.imul, 1) := by decide +kernel
theorem d_R_shifted_38 : decode c_R_shifted 38 = .ok (.iload 6, 2) := by decide +kernel
theorem d_R_shifted_40 : decode c_R_shifted 40 = .ok (.iadd, 1) := by decide +kernel
theorem d_R_shifted_41 : decode c_R_shifted 41 = .ok (.invokevirtual 136, 3) := by decide +kernel
theorem d_R_shifted_44 : decode c_R_shifted 44 = .ok (.ldc 104, 2) := by decide +kernel
theorem d_R_shifted_46 : decode c_R_shifted 46 = .ok (.aload_n 0, 1) := by decide +kernel
theorem d_R_shifted_47 : decode c_R_shifted 47 = .ok (.getfield 48, 3) := by decide +kernel
theorem d_R_shifted_50 : decode c_R_shifted 50 = .ok (.bipush 32, 2) := by decide +kernel
theorem d_R_shifted_52 : decode c_R_shifted 52 = .ok (.iload_n 2, 1) := by decide +kernel
theorem d_R_shifted_53 : decode c_R_shifted 53 = .ok (.imul, 1) := by decide +kernel
theorem d_R_shifted_54 : decode c_R_shifted 54 = .ok (.iconst 4, 1) := by decide +kernel
theorem d_R_shifted_55 : decode c_R_shifted 55 = .ok (.iload 6, 2) := by decide +kernel
theorem d_R_shifted_57 : decode c_R_shifted 57 = .ok (.imul, 1) := by decide +kernel
theorem d_R_shifted_58 : decode c_R_shifted 58 = .ok (.iadd, 1) := by decide +kernel
theorem d_R_shifted_59 : decode c_R_shifted 59 = .ok (.iload 4, 2) := by decide +kernel
theorem d_R_shifted_61 : decode c_R_shifted 61 = .ok (.iadd, 1) := by decide +kernel
theorem d_R_shifted_62 : decode c_R_shifted 62 = .ok (.iaload, 1) := by decide +kernel
theorem d_R_shifted_63 : decode c_R_shifted 63 = .ok (.isub, 1) := by decide +kernel
theorem d_R_shifted_64 : decode c_R_shifted 64 = .ok (.imul, 1) := by decide +kernel
theorem d_R_shifted_65 : decode c_R_shifted 65 = .ok (.iadd, 1) := by decide +kernel
theorem d_R_shifted_66 : decode c_R_shifted 66 = .ok (.ldc 104, 2) := by decide +kernel
theorem d_R_shifted_68 : decode c_R_shifted 68 = .ok (.irem, 1) := by decide +kernel
theorem d_R_shifted_69 : decode c_R_shifted 69 = .ok (.istore 5, 2) := by decide +kernel
theorem d_R_shifted_71 : decode c_R_shifted 71 = .ok (.iinc 6 1, 3) := by decide +kernel
theorem d_R_shifted_74 : decode c_R_shifted 74 = .ok (.goto (-51), 3) := by decide +kernel
theorem d_R_shifted_77 : decode c_R_shifted 77 = .ok (.iload 5, 2) := by decide +kernel
theorem d_R_shifted_79 : decode c_R_shifted 79 = .ok (.ldc 104, 2) := by decide +kernel
theorem d_R_shifted_81 : decode c_R_shifted 81 = .ok (.irem, 1) := by decide +kernel
theorem d_R_shifted_82 : decode c_R_shifted 82 = .ok (.ireturn, 1) := by decide +kernel
theorem d_R_wrapEntry_0 : decode c_R_wrapEntry 0 = .ok (.iconst 0, 1) := by decide +kernel
theorem d_R_wrapEntry_1 : decode c_R_wrapEntry 1 = .ok (.istore_n 3, 1) := by decide +kernel
theorem d_R_wrapEntry_2 : decode c_R_wrapEntry 2 = .ok (.bipush 15, 2) := by decide +kernel
theorem d_R_wrapEntry_4 : decode c_R_wrapEntry 4 = .ok (.iload_n 2, 1) := by decide +kernel
theorem d_R_wrapEntry_5 : decode c_R_wrapEntry 5 = .ok (.imul, 1) := by decide +kernel
theorem d_R_wrapEntry_6 : decode c_R_wrapEntry 6 = .ok (.istore 4, 2) := by decide +kernel
theorem d_R_wrapEntry_8 : decode c_R_wrapEntry 8 = .ok (.iload 4, 2) := by decide +kernel
theorem d_R_wrapEntry_10 : decode c_R_wrapEntry 10 = .ok (.bipush 15, 2) := by decide +kernel
theorem d_R_wrapEntry_12 : decode c_R_wrapEntry 12 = .ok (.iload_n 2, 1) := by decide +kernel
theorem d_R_wrapEntry_13 : decode c_R_wrapEntry 13 = .ok (.imul, 1) := by decide +kernel
theorem d_R_wrapEntry_14 : decode c_R_wrapEntry 14 = .ok (.bipush 15, 2) := by decide +kernel
theorem d_R_wrapEntry_16 : decode c_R_wrapEntry 16 = .ok (.iadd, 1) := by decide +kernel
theorem d_R_wrapEntry_17 : decode c_R_wrapEntry 17 = .ok (.if_icmp .ge 40, 3) := by decide +kernel
theorem d_R_wrapEntry_20 : decode c_R_wrapEntry 20 = .ok (.iconst 2, 1) := by decide +kernel
theorem d_R_wrapEntry_21 : decode c_R_wrapEntry 21 = .ok (.iload_n 3, 1) := by decide +kernel
theorem d_R_wrapEntry_22 : decode c_R_wrapEntry 22 = .ok (.imul, 1) := by decide +kernel
theorem d_R_wrapEntry_23 : decode c_R_wrapEntry 23 = .ok (.aload_n 0, 1) := by decide +kernel
theorem d_R_wrapEntry_24 : decode c_R_wrapEntry 24 = .ok (.getfield 60, 3) := by decide +kernel
theorem d_R_wrapEntry_27 : decode c_R_wrapEntry 27 = .ok (.bipush 90, 2) := by decide +kernel
theorem d_R_wrapEntry_29 : decode c_R_wrapEntry 29 = .ok (.iload_n 1, 1) := by decide +kernel
theorem d_R_wrapEntry_30 : decode c_R_wrapEntry 30 = .ok (.imul, 1) := by decide +kernel
theorem d_R_wrapEntry_31 : decode c_R_wrapEntry 31 = .ok (.iload 4, 2) := by decide +kernel
theorem d_R_wrapEntry_33 : decode c_R_wrapEntry 33 = .ok (.bipush 8, 2) := by decide +kernel
theorem d_R_wrapEntry_35 : decode c_R_wrapEntry 35 = .ok (.idiv, 1) := by decide +kernel
theorem d_R_wrapEntry_36 : decode c_R_wrapEntry 36 = .ok (.iadd, 1) := by decide +kernel
theorem d_R_wrapEntry_37 : decode c_R_wrapEntry 37 = .ok (.iaload, 1) := by decide +kernel
theorem d_R_wrapEntry_38 : decode c_R_wrapEntry 38 = .ok (.bipush 7, 2) := by decide +kernel
theorem d_R_wrapEntry_40 : decode c_R_wrapEntry 40 = .ok (.iload 4, 2) := by decide +kernel
theorem d_R_wrapEntry_42 : decode c_R_wrapEntry 42 = .ok (.bipush 8, 2) := by decide +kernel
theorem d_R_wrapEntry_44 : decode c_R_wrapEntry 44 = .ok (.irem, 1) := by decide +kernel
theorem d_R_wrapEntry_45 : decode c_R_wrapEntry 45 = .ok (.isub, 1) := by decide +kernel
theorem d_R_wrapEntry_46 : decode c_R_wrapEntry 46 = .ok (.ishr, 1) := by decide +kernel
theorem d_R_wrapEntry_47 : decode c_R_wrapEntry 47 = .ok (.iconst 1, 1) := by decide +kernel
theorem d_R_wrapEntry_48 : decode c_R_wrapEntry 48 = .ok (.iand, 1) := by decide +kernel
theorem d_R_wrapEntry_49 : decode c_R_wrapEntry 49 = .ok (.iadd, 1) := by decide +kernel
theorem d_R_wrapEntry_50 : decode c_R_wrapEntry 50 = .ok (.istore_n 3, 1) := by decide +kernel
theorem d_R_wrapEntry_51 : decode c_R_wrapEntry 51 = .ok (.iinc 4 1, 3) := by decide +kernel
theorem d_R_wrapEntry_54 : decode c_R_wrapEntry 54 = .ok (.goto (-46), 3) := by decide +kernel
theorem d_R_wrapEntry_57 : decode c_R_wrapEntry 57 = .ok (.iload_n 3, 1) := by decide +kernel
theorem d_R_wrapEntry_58 : decode c_R_wrapEntry 58 = .ok (.ireturn, 1) := by decide +kernel
theorem d_R_change_0 : decode c_R_change 0 = .ok (.aload_n 0, 1) := by decide +kernel
theorem d_R_change_1 : decode c_R_change 1 = .ok (.aload_n 0, 1) := by decide +kernel
theorem d_R_change_2 : decode c_R_change 2 = .ok (.iload_n 1, 1) := by decide +kernel
theorem d_R_change_3 : decode c_R_change 3 = .ok (.iload_n 2, 1) := by decide +kernel
theorem d_R_change_4 : decode c_R_change 4 = .ok (.invokevirtual 154, 3) := by decide +kernel
theorem d_R_change_7 : decode c_R_change 7 = .ok (.putfield 72, 3) := by decide +kernel
theorem d_R_change_10 : decode c_R_change 10 = .ok (.aload_n 0, 1) := by decide +kernel
theorem d_R_change_11 : decode c_R_change 11 = .ok (.getfield 72, 3) := by decide +kernel
theorem d_R_change_14 : decode c_R_change 14 = .ok (.ifCond .le 5, 3) := by decide +kernel
theorem d_R_change_17 : decode c_R_change 17 = .ok (.iconst 0, 1) := by decide +kernel
theorem d_R_change_18 : decode c_R_change 18 = .ok (.ireturn, 1) := by decide +kernel
theorem d_R_change_19 : decode c_R_change 19 = .ok (.aload_n 0, 1) := by decide +kernel
theorem d_R_change_20 : decode c_R_change 20 = .ok (.getfield 60, 3) := by decide +kernel
theorem d_R_change_23 : decode c_R_change 23 = .ok (.bipush 90, 2) := by decide +kernel
theorem d_R_change_25 : decode c_R_change 25 = .ok (.iload_n 1, 1) := by decide +kernel
theorem d_R_change_26 : decode c_R_change 26 = .ok (.imul, 1) := by decide +kernel
theorem d_R_change_27 : decode c_R_change 27 = .ok (.iload_n 2, 1) := by decide +kernel
theorem d_R_change_28 : decode c_R_change 28 = .ok (.iadd, 1) := by decide +kernel
theorem d_R_change_29 : decode c_R_change 29 = .ok (.aload_n 0, 1) := by decide +kernel
theorem d_R_change_30 : decode c_R_change 30 = .ok (.getfield 60, 3) := by decide +kernel
theorem d_R_change_33 : decode c_R_change 33 = .ok (.bipush 90, 2) := by decide +kernel
theorem d_R_change_35 : decode c_R_change 35 = .ok (.iload_n 1, 1) := by decide +kernel
theorem d_R_change_36 : decode c_R_change 36 = .ok (.imul, 1) := by decide +kernel
theorem d_R_change_37 : decode c_R_change 37 = .ok (.iload_n 2, 1) := by decide +kernel
theorem d_R_change_38 : decode c_R_change 38 = .ok (.iadd, 1) := by decide +kernel
theorem d_R_change_39 : decode c_R_change 39 = .ok (.iaload, 1) := by decide +kernel
theorem d_R_change_40 : decode c_R_change 40 = .ok (.iload_n 3, 1) := by decide +kernel
theorem d_R_change_41 : decode c_R_change 41 = .ok (.sipush 255, 3) := by decide +kernel
theorem d_R_change_44 : decode c_R_change 44 = .ok (.iand, 1) := by decide +kernel
theorem d_R_change_45 : decode c_R_change 45 = .ok (.ixor, 1) := by decide +kernel
theorem d_R_change_46 : decode c_R_change 46 = .ok (.iastore, 1) := by decide +kernel
theorem d_R_change_47 : decode c_R_change 47 = .ok (.aload_n 0, 1) := by decide +kernel
theorem d_R_change_48 : decode c_R_change 48 = .ok (.getfield 60, 3) := by decide +kernel
theorem d_R_change_51 : decode c_R_change 51 = .ok (.bipush 90, 2) := by decide +kernel
theorem d_R_change_53 : decode c_R_change 53 = .ok (.iload_n 1, 1) := by decide +kernel
theorem d_R_change_54 : decode c_R_change 54 = .ok (.imul, 1) := by decide +kernel
theorem d_R_change_55 : decode c_R_change 55 = .ok (.iload_n 2, 1) := by decide +kernel
theorem d_R_change_56 : decode c_R_change 56 = .ok (.iadd, 1) := by decide +kernel
theorem d_R_change_57 : decode c_R_change 57 = .ok (.iaload, 1) := by decide +kernel
theorem d_R_change_58 : decode c_R_change 58 = .ok (.ireturn, 1) := by decide +kernel
theorem d_R_byteRefusal_0 : decode c_R_byteRefusal 0 = .ok (.iload_n 1, 1) := by decide +kernel
theorem d_R_byteRefusal_1 : decode c_R_byteRefusal 1 = .ok (.invokestatic 112, 3) := by decide +kernel
theorem d_R_byteRefusal_4 : decode c_R_byteRefusal 4 = .ok (.ifCond .ne 7, 3) := by decide +kernel
theorem d_R_byteRefusal_7 : decode c_R_byteRefusal 7 = .ok (.iconst 1, 1) := by decide +kernel
theorem d_R_byteRefusal_8 : decode c_R_byteRefusal 8 = .ok (.goto 31, 3) := by decide +kernel
theorem d_R_byteRefusal_11 : decode c_R_byteRefusal 11 = .ok (.aload_n 0, 1) := by decide +kernel
theorem d_R_byteRefusal_12 : decode c_R_byteRefusal 12 = .ok (.getfield 57, 3) := by decide +kernel
theorem d_R_byteRefusal_15 : decode c_R_byteRefusal 15 = .ok (.iload_n 1, 1) := by decide +kernel
theorem d_R_byteRefusal_16 : decode c_R_byteRefusal 16 = .ok (.baload, 1) := by decide +kernel
theorem d_R_byteRefusal_17 : decode c_R_byteRefusal 17 = .ok (.ifCond .ne 7, 3) := by decide +kernel
theorem d_R_byteRefusal_20 : decode c_R_byteRefusal 20 = .ok (.iconst 2, 1) := by decide +kernel
theorem d_R_byteRefusal_21 : decode c_R_byteRefusal 21 = .ok (.goto 18, 3) := by decide +kernel
theorem d_R_byteRefusal_24 : decode c_R_byteRefusal 24 = .ok (.iload_n 2, 1) := by decide +kernel
theorem d_R_byteRefusal_25 : decode c_R_byteRefusal 25 = .ok (.ifCond .lt 9, 3) := by decide +kernel
theorem d_R_byteRefusal_28 : decode c_R_byteRefusal 28 = .ok (.iload_n 2, 1) := by decide +kernel
theorem d_R_byteRefusal_29 : decode c_R_byteRefusal 29 = .ok (.bipush 89, 2) := by decide +kernel
theorem d_R_byteRefusal_31 : decode c_R_byteRefusal 31 = .ok (.if_icmp .le 7, 3) := by decide +kernel
theorem d_R_byteRefusal_34 : decode c_R_byteRefusal 34 = .ok (.iconst 3, 1) := by decide +kernel
theorem d_R_byteRefusal_35 : decode c_R_byteRefusal 35 = .ok (.goto 4, 3) := by decide +kernel
theorem d_R_byteRefusal_38 : decode c_R_byteRefusal 38 = .ok (.iconst 0, 1) := by decide +kernel
theorem d_R_byteRefusal_39 : decode c_R_byteRefusal 39 = .ok (.ireturn, 1) := by decide +kernel
theorem d_R_copy_0 : decode c_R_copy 0 = .ok (.aload_n 0, 1) := by decide +kernel
theorem d_R_copy_1 : decode c_R_copy 1 = .ok (.iload_n 1, 1) := by decide +kernel
theorem d_R_copy_2 : decode c_R_copy 2 = .ok (.invokestatic 112, 3) := by decide +kernel
theorem d_R_copy_5 : decode c_R_copy 5 = .ok (.ifCond .eq 10, 3) := by decide +kernel
theorem d_R_copy_8 : decode c_R_copy 8 = .ok (.iload_n 2, 1) := by decide +kernel
theorem d_R_copy_9 : decode c_R_copy 9 = .ok (.invokestatic 112, 3) := by decide +kernel
theorem d_R_copy_12 : decode c_R_copy 12 = .ok (.ifCond .ne 7, 3) := by decide +kernel
theorem d_R_copy_15 : decode c_R_copy 15 = .ok (.iconst 1, 1) := by decide +kernel
theorem d_R_copy_16 : decode c_R_copy 16 = .ok (.goto 17, 3) := by decide +kernel
theorem d_R_copy_19 : decode c_R_copy 19 = .ok (.aload_n 0, 1) := by decide +kernel
theorem d_R_copy_20 : decode c_R_copy 20 = .ok (.getfield 57, 3) := by decide +kernel
theorem d_R_copy_23 : decode c_R_copy 23 = .ok (.iload_n 1, 1) := by decide +kernel
theorem d_R_copy_24 : decode c_R_copy 24 = .ok (.baload, 1) := by decide +kernel
theorem d_R_copy_25 : decode c_R_copy 25 = .ok (.ifCond .ne 7, 3) := by decide +kernel
theorem d_R_copy_28 : decode c_R_copy 28 = .ok (.iconst 2, 1) := by decide +kernel
theorem d_R_copy_29 : decode c_R_copy 29 = .ok (.goto 4, 3) := by decide +kernel
theorem d_R_copy_32 : decode c_R_copy 32 = .ok (.iconst 0, 1) := by decide +kernel
theorem d_R_copy_33 : decode c_R_copy 33 = .ok (.putfield 72, 3) := by decide +kernel
theorem d_R_copy_36 : decode c_R_copy 36 = .ok (.iconst 0, 1) := by decide +kernel
theorem d_R_copy_37 : decode c_R_copy 37 = .ok (.istore_n 3, 1) := by decide +kernel
theorem d_R_copy_38 : decode c_R_copy 38 = .ok (.iload_n 3, 1) := by decide +kernel
theorem d_R_copy_39 : decode c_R_copy 39 = .ok (.bipush 90, 2) := by decide +kernel
theorem d_R_copy_41 : decode c_R_copy 41 = .ok (.if_icmp .ge 45, 3) := by decide +kernel
theorem d_R_copy_44 : decode c_R_copy 44 = .ok (.aload_n 0, 1) := by decide +kernel
theorem d_R_copy_45 : decode c_R_copy 45 = .ok (.getfield 72, 3) := by decide +kernel
theorem d_R_copy_48 : decode c_R_copy 48 = .ok (.ifCond .ne 38, 3) := by decide +kernel
theorem d_R_copy_51 : decode c_R_copy 51 = .ok (.aload_n 0, 1) := by decide +kernel
theorem d_R_copy_52 : decode c_R_copy 52 = .ok (.getfield 60, 3) := by decide +kernel
theorem d_R_copy_55 : decode c_R_copy 55 = .ok (.bipush 90, 2) := by decide +kernel
theorem d_R_copy_57 : decode c_R_copy 57 = .ok (.iload_n 2, 1) := by decide +kernel
theorem d_R_copy_58 : decode c_R_copy 58 = .ok (.imul, 1) := by decide +kernel
theorem d_R_copy_59 : decode c_R_copy 59 = .ok (.iload_n 3, 1) := by decide +kernel
theorem d_R_copy_60 : decode c_R_copy 60 = .ok (.iadd, 1) := by decide +kernel
theorem d_R_copy_61 : decode c_R_copy 61 = .ok (.aload_n 0, 1) := by decide +kernel
theorem d_R_copy_62 : decode c_R_copy 62 = .ok (.getfield 60, 3) := by decide +kernel
theorem d_R_copy_65 : decode c_R_copy 65 = .ok (.bipush 90, 2) := by decide +kernel
theorem d_R_copy_67 : decode c_R_copy 67 = .ok (.iload_n 1, 1) := by decide +kernel
theorem d_R_copy_68 : decode c_R_copy 68 = .ok (.imul, 1) := by decide +kernel
theorem d_R_copy_69 : decode c_R_copy 69 = .ok (.iload_n 3, 1) := by decide +kernel
theorem d_R_copy_70 : decode c_R_copy 70 = .ok (.iadd, 1) := by decide +kernel
theorem d_R_copy_71 : decode c_R_copy 71 = .ok (.iaload, 1) := by decide +kernel
theorem d_R_copy_72 : decode c_R_copy 72 = .ok (.iastore, 1) := by decide +kernel
theorem d_R_copy_73 : decode c_R_copy 73 = .ok (.aload_n 0, 1) := by decide +kernel
theorem d_R_copy_74 : decode c_R_copy 74 = .ok (.getfield 57, 3) := by decide +kernel
theorem d_R_copy_77 : decode c_R_copy 77 = .ok (.iload_n 2, 1) := by decide +kernel
theorem d_R_copy_78 : decode c_R_copy 78 = .ok (.iconst 1, 1) := by decide +kernel
theorem d_R_copy_79 : decode c_R_copy 79 = .ok (.bastore, 1) := by decide +kernel
theorem d_R_copy_80 : decode c_R_copy 80 = .ok (.iinc 3 1, 3) := by decide +kernel
theorem d_R_copy_83 : decode c_R_copy 83 = .ok (.goto (-45), 3) := by decide +kernel
theorem d_R_copy_86 : decode c_R_copy 86 = .ok (.return_, 1) := by decide +kernel
theorem d_R_forget_0 : decode c_R_forget 0 = .ok (.aload_n 0, 1) := by decide +kernel
theorem d_R_forget_1 : decode c_R_forget 1 = .ok (.iload_n 2, 1) := by decide +kernel
theorem d_R_forget_2 : decode c_R_forget 2 = .ok (.invokestatic 112, 3) := by decide +kernel
theorem d_R_forget_5 : decode c_R_forget 5 = .ok (.ifCond .eq 7, 3) := by decide +kernel
theorem d_R_forget_8 : decode c_R_forget 8 = .ok (.iconst 0, 1) := by decide +kernel
theorem d_R_forget_9 : decode c_R_forget 9 = .ok (.goto 4, 3) := by decide +kernel
theorem d_R_forget_12 : decode c_R_forget 12 = .ok (.iconst 1, 1) := by decide +kernel
theorem d_R_forget_13 : decode c_R_forget 13 = .ok (.putfield 72, 3) := by decide +kernel
theorem d_R_forget_16 : decode c_R_forget 16 = .ok (.aload_n 0, 1) := by decide +kernel
theorem d_R_forget_17 : decode c_R_forget 17 = .ok (.getfield 72, 3) := by decide +kernel
theorem d_R_forget_20 : decode c_R_forget 20 = .ok (.ifCond .le 5, 3) := by decide +kernel
theorem d_R_forget_23 : decode c_R_forget 23 = .ok (.iconst 0, 1) := by decide +kernel
theorem d_R_forget_24 : decode c_R_forget 24 = .ok (.ireturn, 1) := by decide +kernel
theorem d_R_forget_25 : decode c_R_forget 25 = .ok (.iload_n 1, 1) := by decide +kernel
theorem d_R_forget_26 : decode c_R_forget 26 = .ok (.ifCond .eq 12, 3) := by decide +kernel
theorem d_R_forget_29 : decode c_R_forget 29 = .ok (.aload_n 0, 1) := by decide +kernel
theorem d_R_forget_30 : decode c_R_forget 30 = .ok (.getfield 33, 3) := by decide +kernel
theorem d_R_forget_33 : decode c_R_forget 33 = .ok (.iload_n 2, 1) := by decide +kernel
theorem d_R_forget_34 : decode c_R_forget 34 = .ok (.baload, 1) := by decide +kernel
theorem d_R_forget_35 : decode c_R_forget 35 = .ok (.goto 9, 3) := by decide +kernel
theorem d_R_forget_38 : decode c_R_forget 38 = .ok (.aload_n 0, 1) := by decide +kernel
theorem d_R_forget_39 : decode c_R_forget 39 = .ok (.getfield 57, 3) := by decide +kernel
theorem d_R_forget_42 : decode c_R_forget 42 = .ok (.iload_n 2, 1) := by decide +kernel
theorem d_R_forget_43 : decode c_R_forget 43 = .ok (.baload, 1) := by decide +kernel
theorem d_R_forget_44 : decode c_R_forget 44 = .ok (.istore_n 3, 1) := by decide +kernel
theorem d_R_forget_45 : decode c_R_forget 45 = .ok (.iload_n 1, 1) := by decide +kernel
theorem d_R_forget_46 : decode c_R_forget 46 = .ok (.ifCond .eq 13, 3) := by decide +kernel
theorem d_R_forget_49 : decode c_R_forget 49 = .ok (.aload_n 0, 1) := by decide +kernel
theorem d_R_forget_50 : decode c_R_forget 50 = .ok (.getfield 33, 3) := by decide +kernel
theorem d_R_forget_53 : decode c_R_forget 53 = .ok (.iload_n 2, 1) := by decide +kernel
theorem d_R_forget_54 : decode c_R_forget 54 = .ok (.iconst 0, 1) := by decide +kernel
theorem d_R_forget_55 : decode c_R_forget 55 = .ok (.bastore, 1) := by decide +kernel
theorem d_R_forget_56 : decode c_R_forget 56 = .ok (.goto 10, 3) := by decide +kernel
theorem d_R_forget_59 : decode c_R_forget 59 = .ok (.aload_n 0, 1) := by decide +kernel
theorem d_R_forget_60 : decode c_R_forget 60 = .ok (.getfield 57, 3) := by decide +kernel
theorem d_R_forget_63 : decode c_R_forget 63 = .ok (.iload_n 2, 1) := by decide +kernel
theorem d_R_forget_64 : decode c_R_forget 64 = .ok (.iconst 0, 1) := by decide +kernel
theorem d_R_forget_65 : decode c_R_forget 65 = .ok (.bastore, 1) := by decide +kernel
theorem d_R_forget_66 : decode c_R_forget 66 = .ok (.iload_n 3, 1) := by decide +kernel
theorem d_R_forget_67 : decode c_R_forget 67 = .ok (.ireturn, 1) := by decide +kernel
theorem d_R_wrapByte_0 : decode c_R_wrapByte 0 = .ok (.aload_n 0, 1) := by decide +kernel
theorem d_R_wrapByte_1 : decode c_R_wrapByte 1 = .ok (.aload_n 0, 1) := by decide +kernel
theorem d_R_wrapByte_2 : decode c_R_wrapByte 2 = .ok (.iload_n 1, 1) := by decide +kernel
theorem d_R_wrapByte_3 : decode c_R_wrapByte 3 = .ok (.iload_n 2, 1) := by decide +kernel
theorem d_R_wrapByte_4 : decode c_R_wrapByte 4 = .ok (.invokevirtual 154, 3) := by decide +kernel
theorem d_R_wrapByte_7 : decode c_R_wrapByte 7 = .ok (.putfield 72, 3) := by decide +kernel
theorem d_R_wrapByte_10 : decode c_R_wrapByte 10 = .ok (.aload_n 0, 1) := by decide +kernel
theorem d_R_wrapByte_11 : decode c_R_wrapByte 11 = .ok (.getfield 72, 3) := by decide +kernel
theorem d_R_wrapByte_14 : decode c_R_wrapByte 14 = .ok (.ifCond .le 7, 3) := by decide +kernel
theorem d_R_wrapByte_17 : decode c_R_wrapByte 17 = .ok (.iconst 0, 1) := by decide +kernel
theorem d_R_wrapByte_18 : decode c_R_wrapByte 18 = .ok (.goto 14, 3) := by decide +kernel
theorem d_R_wrapByte_21 : decode c_R_wrapByte 21 = .ok (.aload_n 0, 1) := by decide +kernel
theorem d_R_wrapByte_22 : decode c_R_wrapByte 22 = .ok (.getfield 60, 3) := by decide +kernel
theorem d_R_wrapByte_25 : decode c_R_wrapByte 25 = .ok (.bipush 90, 2) := by decide +kernel
theorem d_R_wrapByte_27 : decode c_R_wrapByte 27 = .ok (.iload_n 1, 1) := by decide +kernel
theorem d_R_wrapByte_28 : decode c_R_wrapByte 28 = .ok (.imul, 1) := by decide +kernel
theorem d_R_wrapByte_29 : decode c_R_wrapByte 29 = .ok (.iload_n 2, 1) := by decide +kernel
theorem d_R_wrapByte_30 : decode c_R_wrapByte 30 = .ok (.iadd, 1) := by decide +kernel
theorem d_R_wrapByte_31 : decode c_R_wrapByte 31 = .ok (.iaload, 1) := by decide +kernel
theorem d_R_wrapByte_32 : decode c_R_wrapByte 32 = .ok (.ireturn, 1) := by decide +kernel
theorem d_R_publicByte_0 : decode c_R_publicByte 0 = .ok (.aload_n 0, 1) := by decide +kernel
theorem d_R_publicByte_1 : decode c_R_publicByte 1 = .ok (.iload_n 1, 1) := by decide +kernel
theorem d_R_publicByte_2 : decode c_R_publicByte 2 = .ok (.invokestatic 112, 3) := by decide +kernel
theorem d_R_publicByte_5 : decode c_R_publicByte 5 = .ok (.ifCond .ne 7, 3) := by decide +kernel
theorem d_R_publicByte_8 : decode c_R_publicByte 8 = .ok (.iconst 1, 1) := by decide +kernel
theorem d_R_publicByte_9 : decode c_R_publicByte 9 = .ok (.goto 31, 3) := by decide +kernel
theorem d_R_publicByte_12 : decode c_R_publicByte 12 = .ok (.aload_n 0, 1) := by decide +kernel
theorem d_R_publicByte_13 : decode c_R_publicByte 13 = .ok (.getfield 33, 3) := by decide +kernel
theorem d_R_publicByte_16 : decode c_R_publicByte 16 = .ok (.iload_n 1, 1) := by decide +kernel
theorem d_R_publicByte_17 : decode c_R_publicByte 17 = .ok (.baload, 1) := by decide +kernel
theorem d_R_publicByte_18 : decode c_R_publicByte 18 = .ok (.ifCond .ne 7, 3) := by decide +kernel
theorem d_R_publicByte_21 : decode c_R_publicByte 21 = .ok (.iconst 2, 1) := by decide +kernel
theorem d_R_publicByte_22 : decode c_R_publicByte 22 = .ok (.goto 18, 3) := by decide +kernel
theorem d_R_publicByte_25 : decode c_R_publicByte 25 = .ok (.iload_n 2, 1) := by decide +kernel
theorem d_R_publicByte_26 : decode c_R_publicByte 26 = .ok (.ifCond .lt 9, 3) := by decide +kernel
theorem d_R_publicByte_29 : decode c_R_publicByte 29 = .ok (.iload_n 2, 1) := by decide +kernel
theorem d_R_publicByte_30 : decode c_R_publicByte 30 = .ok (.bipush 67, 2) := by decide +kernel
theorem d_R_publicByte_32 : decode c_R_publicByte 32 = .ok (.if_icmp .le 7, 3) := by decide +kernel
theorem d_R_publicByte_35 : decode c_R_publicByte 35 = .ok (.iconst 3, 1) := by decide +kernel
theorem d_R_publicByte_36 : decode c_R_publicByte 36 = .ok (.goto 4, 3) := by decide +kernel
theorem d_R_publicByte_39 : decode c_R_publicByte 39 = .ok (.iconst 0, 1) := by decide +kernel
theorem d_R_publicByte_40 : decode c_R_publicByte 40 = .ok (.putfield 72, 3) := by decide +kernel
theorem d_R_publicByte_43 : decode c_R_publicByte 43 = .ok (.aload_n 0, 1) := by decide +kernel
theorem d_R_publicByte_44 : decode c_R_publicByte 44 = .ok (.getfield 72, 3) := by decide +kernel
theorem d_R_publicByte_47 : decode c_R_publicByte 47 = .ok (.ifCond .le 5, 3) := by decide +kernel
theorem d_R_publicByte_50 : decode c_R_publicByte 50 = .ok (.iconst 0, 1) := by decide +kernel
theorem d_R_publicByte_51 : decode c_R_publicByte 51 = .ok (.ireturn, 1) := by decide +kernel
theorem d_R_publicByte_52 : decode c_R_publicByte 52 = .ok (.iload_n 2, 1) := by decide +kernel
theorem d_R_publicByte_53 : decode c_R_publicByte 53 = .ok (.bipush 8, 2) := by decide +kernel
theorem d_R_publicByte_55 : decode c_R_publicByte 55 = .ok (.if_icmp .ge 22, 3) := by decide +kernel
theorem d_R_publicByte_58 : decode c_R_publicByte 58 = .ok (.aload_n 0, 1) := by decide +kernel
theorem d_R_publicByte_59 : decode c_R_publicByte 59 = .ok (.getfield 36, 3) := by decide +kernel
theorem d_R_publicByte_62 : decode c_R_publicByte 62 = .ok (.iload_n 1, 1) := by decide +kernel
theorem d_R_publicByte_63 : decode c_R_publicByte 63 = .ok (.laload, 1) := by decide +kernel
theorem d_R_publicByte_64 : decode c_R_publicByte 64 = .ok (.bipush 8, 2) := by decide +kernel
theorem d_R_publicByte_66 : decode c_R_publicByte 66 = .ok (.iload_n 2, 1) := by decide +kernel
theorem d_R_publicByte_67 : decode c_R_publicByte 67 = .ok (.imul, 1) := by decide +kernel
theorem d_R_publicByte_68 : decode c_R_publicByte 68 = .ok (.lushr, 1) := by decide +kernel
theorem d_R_publicByte_69 : decode c_R_publicByte 69 = .ok (.ldc2_w 85, 3) := by decide +kernel
theorem d_R_publicByte_72 : decode c_R_publicByte 72 = .ok (.land, 1) := by decide +kernel
theorem d_R_publicByte_73 : decode c_R_publicByte 73 = .ok (.l2i, 1) := by decide +kernel
theorem d_R_publicByte_74 : decode c_R_publicByte 74 = .ok (.goto 18, 3) := by decide +kernel
theorem d_R_publicByte_77 : decode c_R_publicByte 77 = .ok (.aload_n 0, 1) := by decide +kernel
theorem d_R_publicByte_78 : decode c_R_publicByte 78 = .ok (.getfield 51, 3) := by decide +kernel
theorem d_R_publicByte_81 : decode c_R_publicByte 81 = .ok (.bipush 32, 2) := by decide +kernel
theorem d_R_publicByte_83 : decode c_R_publicByte 83 = .ok (.iload_n 1, 1) := by decide +kernel
theorem d_R_publicByte_84 : decode c_R_publicByte 84 = .ok (.imul, 1) := by decide +kernel
theorem d_R_publicByte_85 : decode c_R_publicByte 85 = .ok (.iload_n 2, 1) := by decide +kernel
theorem d_R_publicByte_86 : decode c_R_publicByte 86 = .ok (.bipush 8, 2) := by decide +kernel
theorem d_R_publicByte_88 : decode c_R_publicByte 88 = .ok (.isub, 1) := by decide +kernel
theorem d_R_publicByte_89 : decode c_R_publicByte 89 = .ok (.invokestatic 105, 3) := by decide +kernel
theorem d_R_publicByte_92 : decode c_R_publicByte 92 = .ok (.ireturn, 1) := by decide +kernel
theorem d_R_entry_0 : decode c_R_entry 0 = .ok (.aload_n 0, 1) := by decide +kernel
theorem d_R_entry_1 : decode c_R_entry 1 = .ok (.iload_n 1, 1) := by decide +kernel
theorem d_R_entry_2 : decode c_R_entry 2 = .ok (.invokestatic 112, 3) := by decide +kernel
theorem d_R_entry_5 : decode c_R_entry 5 = .ok (.ifCond .eq 12, 3) := by decide +kernel
theorem d_R_entry_8 : decode c_R_entry 8 = .ok (.iload_n 2, 1) := by decide +kernel
theorem d_R_entry_9 : decode c_R_entry 9 = .ok (.ifCond .lt 8, 3) := by decide +kernel
theorem d_R_entry_12 : decode c_R_entry 12 = .ok (.iload_n 2, 1) := by decide +kernel
theorem d_R_entry_13 : decode c_R_entry 13 = .ok (.iconst 3, 1) := by decide +kernel
theorem d_R_entry_14 : decode c_R_entry 14 = .ok (.if_icmp .le 7, 3) := by decide +kernel
theorem d_R_entry_17 : decode c_R_entry 17 = .ok (.iconst 1, 1) := by decide +kernel
theorem d_R_entry_18 : decode c_R_entry 18 = .ok (.goto 51, 3) := by decide +kernel
theorem d_R_entry_21 : decode c_R_entry 21 = .ok (.aload_n 0, 1) := by decide +kernel
theorem d_R_entry_22 : decode c_R_entry 22 = .ok (.getfield 33, 3) := by decide +kernel
theorem d_R_entry_25 : decode c_R_entry 25 = .ok (.iload_n 1, 1) := by decide +kernel
theorem d_R_entry_26 : decode c_R_entry 26 = .ok (.baload, 1) := by decide +kernel
theorem d_R_entry_27 : decode c_R_entry 27 = .ok (.ifCond .ne 7, 3) := by decide +kernel
theorem d_R_entry_30 : decode c_R_entry 30 = .ok (.iconst 2, 1) := by decide +kernel
theorem d_R_entry_31 : decode c_R_entry 31 = .ok (.goto 38, 3) := by decide +kernel
theorem d_R_entry_34 : decode c_R_entry 34 = .ok (.iload_n 3, 1) := by decide +kernel
theorem d_R_entry_35 : decode c_R_entry 35 = .ok (.ifCond .lt 29, 3) := by decide +kernel
theorem d_R_entry_38 : decode c_R_entry 38 = .ok (.iload_n 3, 1) := by decide +kernel
theorem d_R_entry_39 : decode c_R_entry 39 = .ok (.bipush 7, 2) := by decide +kernel
theorem d_R_entry_41 : decode c_R_entry 41 = .ok (.if_icmp .gt 23, 3) := by decide +kernel
theorem d_R_entry_44 : decode c_R_entry 44 = .ok (.iload 4, 2) := by decide +kernel
theorem d_R_entry_46 : decode c_R_entry 46 = .ok (.ifCond .lt 18, 3) := by decide +kernel
theorem d_R_entry_49 : decode c_R_entry 49 = .ok (.iload 4, 2) := by decide +kernel
theorem d_R_entry_51 : decode c_R_entry 51 = .ok (.iload_n 2, 1) := by decide +kernel
theorem d_R_entry_52 : decode c_R_entry 52 = .ok (.ifCond .ne 8, 3) := by decide +kernel
theorem d_R_entry_55 : decode c_R_entry 55 = .ok (.bipush 7, 2) := by decide +kernel
theorem d_R_entry_57 : decode c_R_entry 57 = .ok (.goto 4, 3) := by decide +kernel
theorem d_R_entry_60 : decode c_R_entry 60 = .ok (.iconst 3, 1) := by decide +kernel
theorem d_R_entry_61 : decode c_R_entry 61 = .ok (.if_icmp .le 7, 3) := by decide +kernel
theorem d_R_entry_64 : decode c_R_entry 64 = .ok (.iconst 3, 1) := by decide +kernel
theorem d_R_entry_65 : decode c_R_entry 65 = .ok (.goto 4, 3) := by decide +kernel
theorem d_R_entry_68 : decode c_R_entry 68 = .ok (.iconst 0, 1) := by decide +kernel
theorem d_R_entry_69 : decode c_R_entry 69 = .ok (.putfield 72, 3) := by decide +kernel
theorem d_R_entry_72 : decode c_R_entry 72 = .ok (.aload_n 0, 1) := by decide +kernel
theorem d_R_entry_73 : decode c_R_entry 73 = .ok (.getfield 72, 3) := by decide +kernel
theorem d_R_entry_76 : decode c_R_entry 76 = .ok (.ifCond .le 5, 3) := by decide +kernel
theorem d_R_entry_79 : decode c_R_entry 79 = .ok (.iconst 0, 1) := by decide +kernel
theorem d_R_entry_80 : decode c_R_entry 80 = .ok (.ireturn, 1) := by decide +kernel
theorem d_R_entry_81 : decode c_R_entry 81 = .ok (.bipush 32, 2) := by decide +kernel
theorem d_R_entry_83 : decode c_R_entry 83 = .ok (.iload_n 1, 1) := by decide +kernel
theorem d_R_entry_84 : decode c_R_entry 84 = .ok (.imul, 1) := by decide +kernel
theorem d_R_entry_85 : decode c_R_entry 85 = .ok (.iconst 4, 1) := by decide +kernel
theorem d_R_entry_86 : decode c_R_entry 86 = .ok (.iload_n 3, 1) := by decide +kernel
theorem d_R_entry_87 : decode c_R_entry 87 = .ok (.imul, 1) := by decide +kernel
theorem d_R_entry_88 : decode c_R_entry 88 = .ok (.iadd, 1) := by decide +kernel
theorem d_R_entry_89 : decode c_R_entry 89 = .ok (.iload 4, 2) := by decide +kernel
theorem d_R_entry_91 : decode c_R_entry 91 = .ok (.iadd, 1) := by decide +kernel
theorem d_R_entry_92 : decode c_R_entry 92 = .ok (.istore 5, 2) := by decide +kernel
theorem d_R_entry_94 : decode c_R_entry 94 = .ok (.iload_n 2, 1) := by decide +kernel
theorem d_R_entry_95 : decode c_R_entry 95 = .ok (.ifCond .ne 23, 3) := by decide +kernel
theorem d_R_entry_98 : decode c_R_entry 98 = .ok (.aload_n 0, 1) := by decide +kernel
theorem d_R_entry_99 : decode c_R_entry 99 = .ok (.getfield 45, 3) := by decide +kernel
theorem d_R_entry_102 : decode c_R_entry 102 = .ok (.bipush 64, 2) := by decide +kernel
theorem d_R_entry_104 : decode c_R_entry 104 = .ok (.iload_n 1, 1) := by decide +kernel
theorem d_R_entry_105 : decode c_R_entry 105 = .ok (.imul, 1) := by decide +kernel
theorem d_R_entry_106 : decode c_R_entry 106 = .ok (.bipush 8, 2) := by decide +kernel
theorem d_R_entry_108 : decode c_R_entry 108 = .ok (.iload_n 3, 1) := by decide +kernel
theorem d_R_entry_109 : decode c_R_entry 109 = .ok (.imul, 1) := by decide +kernel
theorem d_R_entry_110 : decode c_R_entry 110 = .ok (.iadd, 1) := by decide +kernel
theorem d_R_entry_111 : decode c_R_entry 111 = .ok (.iload 4, 2) := by decide +kernel
theorem d_R_entry_113 : decode c_R_entry 113 = .ok (.iadd, 1) := by decide +kernel
theorem d_R_entry_114 : decode c_R_entry 114 = .ok (.iaload, 1) := by decide +kernel
theorem d_R_entry_115 : decode c_R_entry 115 = .ok (.goto 40, 3) := by decide +kernel
theorem d_R_entry_118 : decode c_R_entry 118 = .ok (.iload_n 2, 1) := by decide +kernel
theorem d_R_entry_119 : decode c_R_entry 119 = .ok (.iconst 1, 1) := by decide +kernel
theorem d_R_entry_120 : decode c_R_entry 120 = .ok (.if_icmp .ne 13, 3) := by decide +kernel
theorem d_R_entry_123 : decode c_R_entry 123 = .ok (.aload_n 0, 1) := by decide +kernel
theorem d_R_entry_124 : decode c_R_entry 124 = .ok (.getfield 48, 3) := by decide +kernel
theorem d_R_entry_127 : decode c_R_entry 127 = .ok (.iload 5, 2) := by decide +kernel
theorem d_R_entry_129 : decode c_R_entry 129 = .ok (.iaload, 1) := by decide +kernel
theorem d_R_entry_130 : decode c_R_entry 130 = .ok (.goto 25, 3) := by decide +kernel
theorem d_R_entry_133 : decode c_R_entry 133 = .ok (.iload_n 2, 1) := by decide +kernel
theorem d_R_entry_134 : decode c_R_entry 134 = .ok (.iconst 2, 1) := by decide +kernel
theorem d_R_entry_135 : decode c_R_entry 135 = .ok (.if_icmp .ne 13, 3) := by decide +kernel
theorem d_R_entry_138 : decode c_R_entry 138 = .ok (.aload_n 0, 1) := by decide +kernel
theorem d_R_entry_139 : decode c_R_entry 139 = .ok (.getfield 51, 3) := by decide +kernel
theorem d_R_entry_142 : decode c_R_entry 142 = .ok (.iload 5, 2) := by decide +kernel
theorem d_R_entry_144 : decode c_R_entry 144 = .ok (.iaload, 1) := by decide +kernel
theorem d_R_entry_145 : decode c_R_entry 145 = .ok (.goto 10, 3) := by decide +kernel
theorem d_R_entry_148 : decode c_R_entry 148 = .ok (.aload_n 0, 1) := by decide +kernel
theorem d_R_entry_149 : decode c_R_entry 149 = .ok (.getfield 54, 3) := by decide +kernel
theorem d_R_entry_152 : decode c_R_entry 152 = .ok (.iload 5, 2) := by decide +kernel
theorem d_R_entry_154 : decode c_R_entry 154 = .ok (.iaload, 1) := by decide +kernel
theorem d_R_entry_155 : decode c_R_entry 155 = .ok (.ireturn, 1) := by decide +kernel
theorem d_R_noise_0 : decode c_R_noise 0 = .ok (.aload_n 0, 1) := by decide +kernel
theorem d_R_noise_1 : decode c_R_noise 1 = .ok (.aload_n 0, 1) := by decide +kernel
theorem d_R_noise_2 : decode c_R_noise 2 = .ok (.iload_n 1, 1) := by decide +kernel
theorem d_R_noise_3 : decode c_R_noise 3 = .ok (.iload_n 2, 1) := by decide +kernel
theorem d_R_noise_4 : decode c_R_noise 4 = .ok (.invokevirtual 148, 3) := by decide +kernel
theorem d_R_noise_7 : decode c_R_noise 7 = .ok (.putfield 72, 3) := by decide +kernel
theorem d_R_noise_10 : decode c_R_noise 10 = .ok (.aload_n 0, 1) := by decide +kernel
theorem d_R_noise_11 : decode c_R_noise 11 = .ok (.aload_n 0, 1) := by decide +kernel
theorem d_R_noise_12 : decode c_R_noise 12 = .ok (.getfield 72, 3) := by decide +kernel
theorem d_R_noise_15 : decode c_R_noise 15 = .ok (.ifCond .ne 27, 3) := by decide +kernel
theorem d_R_noise_18 : decode c_R_noise 18 = .ok (.iload_n 3, 1) := by decide +kernel
theorem d_R_noise_19 : decode c_R_noise 19 = .ok (.ifCond .lt 19, 3) := by decide +kernel
theorem d_R_noise_22 : decode c_R_noise 22 = .ok (.iload_n 3, 1) := by decide +kernel
theorem d_R_noise_23 : decode c_R_noise 23 = .ok (.iconst 3, 1) := by decide +kernel
theorem d_R_noise_24 : decode c_R_noise 24 = .ok (.if_icmp .gt 14, 3) := by decide +kernel
theorem d_R_noise_27 : decode c_R_noise 27 = .ok (.iload 4, 2) := by decide +kernel
theorem d_R_noise_29 : decode c_R_noise 29 = .ok (.ifCond .lt 9, 3) := by decide +kernel
theorem d_R_noise_32 : decode c_R_noise 32 = .ok (.iload 4, 2) := by decide +kernel
theorem d_R_noise_34 : decode c_R_noise 34 = .ok (.iconst 3, 1) := by decide +kernel
theorem d_R_noise_35 : decode c_R_noise 35 = .ok (.if_icmp .le 7, 3) := by decide +kernel
theorem d_R_noise_38 : decode c_R_noise 38 = .ok (.iconst 3, 1) := by decide +kernel
theorem d_R_noise_39 : decode c_R_noise 39 = .ok (.goto 7, 3) := by decide +kernel
theorem d_R_noise_42 : decode c_R_noise 42 = .ok (.aload_n 0, 1) := by decide +kernel
theorem d_R_noise_43 : decode c_R_noise 43 = .ok (.getfield 72, 3) := by decide +kernel
theorem d_R_noise_46 : decode c_R_noise 46 = .ok (.putfield 72, 3) := by decide +kernel
theorem d_R_noise_49 : decode c_R_noise 49 = .ok (.aload_n 0, 1) := by decide +kernel
theorem d_R_noise_50 : decode c_R_noise 50 = .ok (.getfield 72, 3) := by decide +kernel
theorem d_R_noise_53 : decode c_R_noise 53 = .ok (.ifCond .le 7, 3) := by decide +kernel
theorem d_R_noise_56 : decode c_R_noise 56 = .ok (.iconst 0, 1) := by decide +kernel
theorem d_R_noise_57 : decode c_R_noise 57 = .ok (.goto 20, 3) := by decide +kernel
theorem d_R_noise_60 : decode c_R_noise 60 = .ok (.aload_n 0, 1) := by decide +kernel
theorem d_R_noise_61 : decode c_R_noise 61 = .ok (.iload_n 1, 1) := by decide +kernel
theorem d_R_noise_62 : decode c_R_noise 62 = .ok (.iload_n 2, 1) := by decide +kernel
theorem d_R_noise_63 : decode c_R_noise 63 = .ok (.iload_n 3, 1) := by decide +kernel
theorem d_R_noise_64 : decode c_R_noise 64 = .ok (.iload 4, 2) := by decide +kernel
theorem d_R_noise_66 : decode c_R_noise 66 = .ok (.invokevirtual 140, 3) := by decide +kernel
theorem d_R_noise_69 : decode c_R_noise 69 = .ok (.sipush 8192, 3) := by decide +kernel
theorem d_R_noise_72 : decode c_R_noise 72 = .ok (.irem, 1) := by decide +kernel
theorem d_R_noise_73 : decode c_R_noise 73 = .ok (.sipush 4096, 3) := by decide +kernel
theorem d_R_noise_76 : decode c_R_noise 76 = .ok (.isub, 1) := by decide +kernel
theorem d_R_noise_77 : decode c_R_noise 77 = .ok (.ireturn, 1) := by decide +kernel
theorem d_R_read_0 : decode c_R_read 0 = .ok (.aload_n 0, 1) := by decide +kernel
theorem d_R_read_1 : decode c_R_read 1 = .ok (.aload_n 0, 1) := by decide +kernel
theorem d_R_read_2 : decode c_R_read 2 = .ok (.iload_n 1, 1) := by decide +kernel
theorem d_R_read_3 : decode c_R_read 3 = .ok (.iload_n 2, 1) := by decide +kernel
theorem d_R_read_4 : decode c_R_read 4 = .ok (.invokevirtual 148, 3) := by decide +kernel
theorem d_R_read_7 : decode c_R_read 7 = .ok (.putfield 72, 3) := by decide +kernel
theorem d_R_read_10 : decode c_R_read 10 = .ok (.aload_n 0, 1) := by decide +kernel
theorem d_R_read_11 : decode c_R_read 11 = .ok (.getfield 72, 3) := by decide +kernel
theorem d_R_read_14 : decode c_R_read 14 = .ok (.ifCond .le 7, 3) := by decide +kernel
theorem d_R_read_17 : decode c_R_read 17 = .ok (.iconst 0, 1) := by decide +kernel
theorem d_R_read_18 : decode c_R_read 18 = .ok (.goto 9, 3) := by decide +kernel
theorem d_R_read_21 : decode c_R_read 21 = .ok (.aload_n 0, 1) := by decide +kernel
theorem d_R_read_22 : decode c_R_read 22 = .ok (.iload_n 1, 1) := by decide +kernel
theorem d_R_read_23 : decode c_R_read 23 = .ok (.iload_n 2, 1) := by decide +kernel
theorem d_R_read_24 : decode c_R_read 24 = .ok (.invokevirtual 151, 3) := by decide +kernel
theorem d_R_read_27 : decode c_R_read 27 = .ok (.ireturn, 1) := by decide +kernel
theorem d_R_shake_0 : decode c_R_shake 0 = .ok (.aload_n 0, 1) := by decide +kernel
theorem d_R_shake_1 : decode c_R_shake 1 = .ok (.iload_n 1, 1) := by decide +kernel
theorem d_R_shake_2 : decode c_R_shake 2 = .ok (.ifCond .lt 9, 3) := by decide +kernel
theorem d_R_shake_5 : decode c_R_shake 5 = .ok (.iload_n 1, 1) := by decide +kernel
theorem d_R_shake_6 : decode c_R_shake 6 = .ok (.bipush 8, 2) := by decide +kernel
theorem d_R_shake_8 : decode c_R_shake 8 = .ok (.if_icmp .le 7, 3) := by decide +kernel
theorem d_R_shake_11 : decode c_R_shake 11 = .ok (.iconst 1, 1) := by decide +kernel
theorem d_R_shake_12 : decode c_R_shake 12 = .ok (.goto 4, 3) := by decide +kernel
theorem d_R_shake_15 : decode c_R_shake 15 = .ok (.iconst 0, 1) := by decide +kernel
theorem d_R_shake_16 : decode c_R_shake 16 = .ok (.putfield 72, 3) := by decide +kernel
theorem d_R_shake_19 : decode c_R_shake 19 = .ok (.aload_n 0, 1) := by decide +kernel
theorem d_R_shake_20 : decode c_R_shake 20 = .ok (.getfield 72, 3) := by decide +kernel
theorem d_R_shake_23 : decode c_R_shake 23 = .ok (.ifCond .le 5, 3) := by decide +kernel
theorem d_R_shake_26 : decode c_R_shake 26 = .ok (.lconst 0, 1) := by decide +kernel
theorem d_R_shake_27 : decode c_R_shake 27 = .ok (.lreturn, 1) := by decide +kernel
theorem d_R_shake_28 : decode c_R_shake 28 = .ok (.aload_n 0, 1) := by decide +kernel
theorem d_R_shake_29 : decode c_R_shake 29 = .ok (.lload_n 2, 1) := by decide +kernel
theorem d_R_shake_30 : decode c_R_shake 30 = .ok (.iload_n 1, 1) := by decide +kernel
theorem d_R_shake_31 : decode c_R_shake 31 = .ok (.invokevirtual 87, 3) := by decide +kernel
theorem d_R_shake_34 : decode c_R_shake 34 = .ok (.aload_n 0, 1) := by decide +kernel
theorem d_R_shake_35 : decode c_R_shake 35 = .ok (.bipush 8, 2) := by decide +kernel
theorem d_R_shake_37 : decode c_R_shake 37 = .ok (.invokevirtual 109, 3) := by decide +kernel
theorem d_R_shake_40 : decode c_R_shake 40 = .ok (.aload_n 0, 1) := by decide +kernel
theorem d_R_shake_41 : decode c_R_shake 41 = .ok (.iconst 0, 1) := by decide +kernel
theorem d_R_shake_42 : decode c_R_shake 42 = .ok (.invokevirtual 116, 3) := by decide +kernel
theorem d_R_shake_45 : decode c_R_shake 45 = .ok (.lreturn, 1) := by decide +kernel
end DC
end
section
section DC
theorem d_Q_make_0 : decode c_Q_make 0 = .ok (.aload 8, 2) := by decide +kernel
theorem d_Q_make_2 : decode c_Q_make 2 = .ok (.iconst 0, 1) := by decide +kernel
theorem d_Q_make_3 : decode c_Q_make 3 = .ok (.aload_n 0, 1) := by decide +kernel
theorem d_Q_make_4 : decode c_Q_make 4 = .ok (.iload_n 1, 1) := by decide +kernel
theorem d_Q_make_5 : decode c_Q_make 5 = .ok (.lload_n 2, 1) := by decide +kernel
theorem d_Q_make_6 : decode c_Q_make 6 = .ok (.lload 4, 2) := by decide +kernel
theorem d_Q_make_8 : decode c_Q_make 8 = .ok (.lload 6, 2) := by decide +kernel
theorem d_Q_make_10 : decode c_Q_make 10 = .ok (.invokevirtual 7, 3) := by decide +kernel
theorem d_Q_make_13 : decode c_Q_make 13 = .ok (.lastore, 1) := by decide +kernel
theorem d_Q_make_14 : decode c_Q_make 14 = .ok (.goto 7, 3) := by decide +kernel
theorem d_Q_make_17 : decode c_Q_make 17 = .ok (.astore 9, 2) := by decide +kernel
theorem d_Q_make_19 : decode c_Q_make 19 = .ok (.iconst 1, 1) := by decide +kernel
theorem d_Q_make_20 : decode c_Q_make 20 = .ok (.ireturn, 1) := by decide +kernel
theorem d_Q_make_21 : decode c_Q_make 21 = .ok (.iconst 0, 1) := by decide +kernel
theorem d_Q_make_22 : decode c_Q_make 22 = .ok (.ireturn, 1) := by decide +kernel
theorem d_Q_wrap_0 : decode c_Q_wrap 0 = .ok (.aload 4, 2) := by decide +kernel
theorem d_Q_wrap_2 : decode c_Q_wrap 2 = .ok (.iconst 0, 1) := by decide +kernel
theorem d_Q_wrap_3 : decode c_Q_wrap 3 = .ok (.aload_n 0, 1) := by decide +kernel
theorem d_Q_wrap_4 : decode c_Q_wrap 4 = .ok (.iload_n 1, 1) := by decide +kernel
theorem d_Q_wrap_5 : decode c_Q_wrap 5 = .ok (.iload_n 2, 1) := by decide +kernel
theorem d_Q_wrap_6 : decode c_Q_wrap 6 = .ok (.iload_n 3, 1) := by decide +kernel
theorem d_Q_wrap_7 : decode c_Q_wrap 7 = .ok (.invokevirtual 15, 3) := by decide +kernel
theorem d_Q_wrap_10 : decode c_Q_wrap 10 = .ok (.lastore, 1) := by decide +kernel
theorem d_Q_wrap_11 : decode c_Q_wrap 11 = .ok (.goto 11, 3) := by decide +kernel
theorem d_Q_wrap_14 : decode c_Q_wrap 14 = .ok (.astore 5, 2) := by decide +kernel
theorem d_Q_wrap_16 : decode c_Q_wrap 16 = .ok (.iconst 1, 1) := by decide +kernel
theorem d_Q_wrap_17 : decode c_Q_wrap 17 = .ok (.ireturn, 1) := by decide +kernel
theorem d_Q_wrap_18 : decode c_Q_wrap 18 = .ok (.astore 5, 2) := by decide +kernel
theorem d_Q_wrap_20 : decode c_Q_wrap 20 = .ok (.iconst 2, 1) := by decide +kernel
theorem d_Q_wrap_21 : decode c_Q_wrap 21 = .ok (.ireturn, 1) := by decide +kernel
theorem d_Q_wrap_22 : decode c_Q_wrap 22 = .ok (.iconst 0, 1) := by decide +kernel
theorem d_Q_wrap_23 : decode c_Q_wrap 23 = .ok (.ireturn, 1) := by decide +kernel
theorem d_Q_unwrap_0 : decode c_Q_unwrap 0 = .ok (.aload_n 3, 1) := by decide +kernel
theorem d_Q_unwrap_1 : decode c_Q_unwrap 1 = .ok (.iconst 0, 1) := by decide +kernel
theorem d_Q_unwrap_2 : decode c_Q_unwrap 2 = .ok (.aload_n 0, 1) := by decide +kernel
theorem d_Q_unwrap_3 : decode c_Q_unwrap 3 = .ok (.iload_n 1, 1) := by decide +kernel
theorem d_Q_unwrap_4 : decode c_Q_unwrap 4 = .ok (.iload_n 2, 1) := by decide +kernel
theorem d_Q_unwrap_5 : decode c_Q_unwrap 5 = .ok (.invokevirtual 21, 3) := by decide +kernel
theorem d_Q_unwrap_8 : decode c_Q_unwrap 8 = .ok (.lastore, 1) := by decide +kernel
theorem d_Q_unwrap_9 : decode c_Q_unwrap 9 = .ok (.goto 11, 3) := by decide +kernel
theorem d_Q_unwrap_12 : decode c_Q_unwrap 12 = .ok (.astore 4, 2) := by decide +kernel
theorem d_Q_unwrap_14 : decode c_Q_unwrap 14 = .ok (.iconst 1, 1) := by decide +kernel
theorem d_Q_unwrap_15 : decode c_Q_unwrap 15 = .ok (.ireturn, 1) := by decide +kernel
theorem d_Q_unwrap_16 : decode c_Q_unwrap 16 = .ok (.astore 4, 2) := by decide +kernel
theorem d_Q_unwrap_18 : decode c_Q_unwrap 18 = .ok (.iconst 2, 1) := by decide +kernel
theorem d_Q_unwrap_19 : decode c_Q_unwrap 19 = .ok (.ireturn, 1) := by decide +kernel
theorem d_Q_unwrap_20 : decode c_Q_unwrap 20 = .ok (.iconst 0, 1) := by decide +kernel
theorem d_Q_unwrap_21 : decode c_Q_unwrap 21 = .ok (.ireturn, 1) := by decide +kernel
theorem d_Q_change_0 : decode c_Q_change 0 = .ok (.aload 4, 2) := by decide +kernel
theorem d_Q_change_2 : decode c_Q_change 2 = .ok (.iconst 0, 1) := by decide +kernel
theorem d_Q_change_3 : decode c_Q_change 3 = .ok (.aload_n 0, 1) := by decide +kernel
theorem d_Q_change_4 : decode c_Q_change 4 = .ok (.iload_n 1, 1) := by decide +kernel
theorem d_Q_change_5 : decode c_Q_change 5 = .ok (.iload_n 2, 1) := by decide +kernel
theorem d_Q_change_6 : decode c_Q_change 6 = .ok (.iload_n 3, 1) := by decide +kernel
theorem d_Q_change_7 : decode c_Q_change 7 = .ok (.invokevirtual 25, 3) := by decide +kernel
theorem d_Q_change_10 : decode c_Q_change 10 = .ok (.i2l, 1) := by decide +kernel
theorem d_Q_change_11 : decode c_Q_change 11 = .ok (.lastore, 1) := by decide +kernel
theorem d_Q_change_12 : decode c_Q_change 12 = .ok (.goto 15, 3) := by decide +kernel
theorem d_Q_change_15 : decode c_Q_change 15 = .ok (.astore 5, 2) := by decide +kernel
theorem d_Q_change_17 : decode c_Q_change 17 = .ok (.iconst 1, 1) := by decide +kernel
theorem d_Q_change_18 : decode c_Q_change 18 = .ok (.ireturn, 1) := by decide +kernel
theorem d_Q_change_19 : decode c_Q_change 19 = .ok (.astore 5, 2) := by decide +kernel
theorem d_Q_change_21 : decode c_Q_change 21 = .ok (.iconst 2, 1) := by decide +kernel
theorem d_Q_change_22 : decode c_Q_change 22 = .ok (.ireturn, 1) := by decide +kernel
theorem d_Q_change_23 : decode c_Q_change 23 = .ok (.astore 5, 2) := by decide +kernel
theorem d_Q_change_25 : decode c_Q_change 25 = .ok (.iconst 3, 1) := by decide +kernel
theorem d_Q_change_26 : decode c_Q_change 26 = .ok (.ireturn, 1) := by decide +kernel
theorem d_Q_change_27 : decode c_Q_change 27 = .ok (.iconst 0, 1) := by decide +kernel
theorem d_Q_change_28 : decode c_Q_change 28 = .ok (.ireturn, 1) := by decide +kernel
theorem d_Q_copy_0 : decode c_Q_copy 0 = .ok (.aload_n 0, 1) := by decide +kernel
theorem d_Q_copy_1 : decode c_Q_copy 1 = .ok (.iload_n 1, 1) := by decide +kernel
theorem d_Q_copy_2 : decode c_Q_copy 2 = .ok (.iload_n 2, 1) := by decide +kernel
theorem d_Q_copy_3 : decode c_Q_copy 3 = .ok (.invokevirtual 31, 3) := by decide +kernel
theorem d_Q_copy_6 : decode c_Q_copy 6 = .ok (.goto 9, 3) := by decide +kernel
theorem d_Q_copy_9 : decode c_Q_copy 9 = .ok (.astore_n 3, 1) := by decide +kernel
theorem d_Q_copy_10 : decode c_Q_copy 10 = .ok (.iconst 1, 1) := by decide +kernel
theorem d_Q_copy_11 : decode c_Q_copy 11 = .ok (.ireturn, 1) := by decide +kernel
theorem d_Q_copy_12 : decode c_Q_copy 12 = .ok (.astore_n 3, 1) := by decide +kernel
theorem d_Q_copy_13 : decode c_Q_copy 13 = .ok (.iconst 2, 1) := by decide +kernel
theorem d_Q_copy_14 : decode c_Q_copy 14 = .ok (.ireturn, 1) := by decide +kernel
theorem d_Q_copy_15 : decode c_Q_copy 15 = .ok (.iconst 0, 1) := by decide +kernel
theorem d_Q_copy_16 : decode c_Q_copy 16 = .ok (.ireturn, 1) := by decide +kernel
theorem d_Q_forget_0 : decode c_Q_forget 0 = .ok (.aload_n 3, 1) := by decide +kernel
theorem d_Q_forget_1 : decode c_Q_forget 1 = .ok (.iconst 0, 1) := by decide +kernel
theorem d_Q_forget_2 : decode c_Q_forget 2 = .ok (.aload_n 0, 1) := by decide +kernel
theorem d_Q_forget_3 : decode c_Q_forget 3 = .ok (.iload_n 1, 1) := by decide +kernel
theorem d_Q_forget_4 : decode c_Q_forget 4 = .ok (.iload_n 2, 1) := by decide +kernel
theorem d_Q_forget_5 : decode c_Q_forget 5 = .ok (.invokevirtual 35, 3) := by decide +kernel
theorem d_Q_forget_8 : decode c_Q_forget 8 = .ok (.ifCond .eq 7, 3) := by decide +kernel
theorem d_Q_forget_11 : decode c_Q_forget 11 = .ok (.lconst 1, 1) := by decide +kernel
theorem d_Q_forget_12 : decode c_Q_forget 12 = .ok (.goto 4, 3) := by decide +kernel
theorem d_Q_forget_15 : decode c_Q_forget 15 = .ok (.lconst 0, 1) := by decide +kernel
theorem d_Q_forget_16 : decode c_Q_forget 16 = .ok (.lastore, 1) := by decide +kernel
theorem d_Q_forget_17 : decode c_Q_forget 17 = .ok (.goto 7, 3) := by decide +kernel
theorem d_Q_forget_20 : decode c_Q_forget 20 = .ok (.astore 4, 2) := by decide +kernel
theorem d_Q_forget_22 : decode c_Q_forget 22 = .ok (.iconst 1, 1) := by decide +kernel
theorem d_Q_forget_23 : decode c_Q_forget 23 = .ok (.ireturn, 1) := by decide +kernel
theorem d_Q_forget_24 : decode c_Q_forget 24 = .ok (.iconst 0, 1) := by decide +kernel
theorem d_Q_forget_25 : decode c_Q_forget 25 = .ok (.ireturn, 1) := by decide +kernel
theorem d_Q_wrapByte_0 : decode c_Q_wrapByte 0 = .ok (.aload_n 3, 1) := by decide +kernel
theorem d_Q_wrapByte_1 : decode c_Q_wrapByte 1 = .ok (.iconst 0, 1) := by decide +kernel
theorem d_Q_wrapByte_2 : decode c_Q_wrapByte 2 = .ok (.aload_n 0, 1) := by decide +kernel
theorem d_Q_wrapByte_3 : decode c_Q_wrapByte 3 = .ok (.iload_n 1, 1) := by decide +kernel
theorem d_Q_wrapByte_4 : decode c_Q_wrapByte 4 = .ok (.iload_n 2, 1) := by decide +kernel
theorem d_Q_wrapByte_5 : decode c_Q_wrapByte 5 = .ok (.invokevirtual 39, 3) := by decide +kernel
theorem d_Q_wrapByte_8 : decode c_Q_wrapByte 8 = .ok (.i2l, 1) := by decide +kernel
theorem d_Q_wrapByte_9 : decode c_Q_wrapByte 9 = .ok (.lastore, 1) := by decide +kernel
theorem d_Q_wrapByte_10 : decode c_Q_wrapByte 10 = .ok (.goto 15, 3) := by decide +kernel
theorem d_Q_wrapByte_13 : decode c_Q_wrapByte 13 = .ok (.astore 4, 2) := by decide +kernel
theorem d_Q_wrapByte_15 : decode c_Q_wrapByte 15 = .ok (.iconst 1, 1) := by decide +kernel
theorem d_Q_wrapByte_16 : decode c_Q_wrapByte 16 = .ok (.ireturn, 1) := by decide +kernel
theorem d_Q_wrapByte_17 : decode c_Q_wrapByte 17 = .ok (.astore 4, 2) := by decide +kernel
theorem d_Q_wrapByte_19 : decode c_Q_wrapByte 19 = .ok (.iconst 2, 1) := by decide +kernel
theorem d_Q_wrapByte_20 : decode c_Q_wrapByte 20 = .ok (.ireturn, 1) := by decide +kernel
theorem d_Q_wrapByte_21 : decode c_Q_wrapByte 21 = .ok (.astore 4, 2) := by decide +kernel
theorem d_Q_wrapByte_23 : decode c_Q_wrapByte 23 = .ok (.iconst 3, 1) := by decide +kernel
theorem d_Q_wrapByte_24 : decode c_Q_wrapByte 24 = .ok (.ireturn, 1) := by decide +kernel
theorem d_Q_wrapByte_25 : decode c_Q_wrapByte 25 = .ok (.iconst 0, 1) := by decide +kernel
theorem d_Q_wrapByte_26 : decode c_Q_wrapByte 26 = .ok (.ireturn, 1) := by decide +kernel
theorem d_Q_publicByte_0 : decode c_Q_publicByte 0 = .ok (.aload_n 3, 1) := by decide +kernel
theorem d_Q_publicByte_1 : decode c_Q_publicByte 1 = .ok (.iconst 0, 1) := by decide +kernel
theorem d_Q_publicByte_2 : decode c_Q_publicByte 2 = .ok (.aload_n 0, 1) := by decide +kernel
theorem d_Q_publicByte_3 : decode c_Q_publicByte 3 = .ok (.iload_n 1, 1) := by decide +kernel
theorem d_Q_publicByte_4 : decode c_Q_publicByte 4 = .ok (.iload_n 2, 1) := by decide +kernel
theorem d_Q_publicByte_5 : decode c_Q_publicByte 5 = .ok (.invokevirtual 43, 3) := by decide +kernel
theorem d_Q_publicByte_8 : decode c_Q_publicByte 8 = .ok (.i2l, 1) := by decide +kernel
theorem d_Q_publicByte_9 : decode c_Q_publicByte 9 = .ok (.lastore, 1) := by decide +kernel
theorem d_Q_publicByte_10 : decode c_Q_publicByte 10 = .ok (.goto 15, 3) := by decide +kernel
theorem d_Q_publicByte_13 : decode c_Q_publicByte 13 = .ok (.astore 4, 2) := by decide +kernel
theorem d_Q_publicByte_15 : decode c_Q_publicByte 15 = .ok (.iconst 1, 1) := by decide +kernel
theorem d_Q_publicByte_16 : decode c_Q_publicByte 16 = .ok (.ireturn, 1) := by decide +kernel
theorem d_Q_publicByte_17 : decode c_Q_publicByte 17 = .ok (.astore 4, 2) := by decide +kernel
theorem d_Q_publicByte_19 : decode c_Q_publicByte 19 = .ok (.iconst 2, 1) := by decide +kernel
theorem d_Q_publicByte_20 : decode c_Q_publicByte 20 = .ok (.ireturn, 1) := by decide +kernel
theorem d_Q_publicByte_21 : decode c_Q_publicByte 21 = .ok (.astore 4, 2) := by decide +kernel
theorem d_Q_publicByte_23 : decode c_Q_publicByte 23 = .ok (.iconst 3, 1) := by decide +kernel
theorem d_Q_publicByte_24 : decode c_Q_publicByte 24 = .ok (.ireturn, 1) := by decide +kernel
theorem d_Q_publicByte_25 : decode c_Q_publicByte 25 = .ok (.iconst 0, 1) := by decide +kernel
theorem d_Q_publicByte_26 : decode c_Q_publicByte 26 = .ok (.ireturn, 1) := by decide +kernel
theorem d_Q_entry_0 : decode c_Q_entry 0 = .ok (.aload 5, 2) := by decide +kernel
theorem d_Q_entry_2 : decode c_Q_entry 2 = .ok (.iconst 0, 1) := by decide +kernel
theorem d_Q_entry_3 : decode c_Q_entry 3 = .ok (.aload_n 0, 1) := by decide +kernel
theorem d_Q_entry_4 : decode c_Q_entry 4 = .ok (.iload_n 1, 1) := by decide +kernel
theorem d_Q_entry_5 : decode c_Q_entry 5 = .ok (.iload_n 2, 1) := by decide +kernel
theorem d_Q_entry_6 : decode c_Q_entry 6 = .ok (.iload_n 3, 1) := by decide +kernel
theorem d_Q_entry_7 : decode c_Q_entry 7 = .ok (.iload 4, 2) := by decide +kernel
theorem d_Q_entry_9 : decode c_Q_entry 9 = .ok (.invokevirtual 46, 3) := by decide +kernel
theorem d_Q_entry_12 : decode c_Q_entry 12 = .ok (.i2l, 1) := by decide +kernel
theorem d_Q_entry_13 : decode c_Q_entry 13 = .ok (.lastore, 1) := by decide +kernel
theorem d_Q_entry_14 : decode c_Q_entry 14 = .ok (.goto 15, 3) := by decide +kernel
theorem d_Q_entry_17 : decode c_Q_entry 17 = .ok (.astore 6, 2) := by decide +kernel
theorem d_Q_entry_19 : decode c_Q_entry 19 = .ok (.iconst 1, 1) := by decide +kernel
theorem d_Q_entry_20 : decode c_Q_entry 20 = .ok (.ireturn, 1) := by decide +kernel
theorem d_Q_entry_21 : decode c_Q_entry 21 = .ok (.astore 6, 2) := by decide +kernel
theorem d_Q_entry_23 : decode c_Q_entry 23 = .ok (.iconst 2, 1) := by decide +kernel
theorem d_Q_entry_24 : decode c_Q_entry 24 = .ok (.ireturn, 1) := by decide +kernel
theorem d_Q_entry_25 : decode c_Q_entry 25 = .ok (.astore 6, 2) := by decide +kernel
theorem d_Q_entry_27 : decode c_Q_entry 27 = .ok (.iconst 3, 1) := by decide +kernel
theorem d_Q_entry_28 : decode c_Q_entry 28 = .ok (.ireturn, 1) := by decide +kernel
theorem d_Q_entry_29 : decode c_Q_entry 29 = .ok (.iconst 0, 1) := by decide +kernel
theorem d_Q_entry_30 : decode c_Q_entry 30 = .ok (.ireturn, 1) := by decide +kernel
theorem d_Q_noise_0 : decode c_Q_noise 0 = .ok (.aload 5, 2) := by decide +kernel
theorem d_Q_noise_2 : decode c_Q_noise 2 = .ok (.iconst 0, 1) := by decide +kernel
theorem d_Q_noise_3 : decode c_Q_noise 3 = .ok (.aload_n 0, 1) := by decide +kernel
theorem d_Q_noise_4 : decode c_Q_noise 4 = .ok (.iload_n 1, 1) := by decide +kernel
theorem d_Q_noise_5 : decode c_Q_noise 5 = .ok (.iload_n 2, 1) := by decide +kernel
theorem d_Q_noise_6 : decode c_Q_noise 6 = .ok (.iload_n 3, 1) := by decide +kernel
theorem d_Q_noise_7 : decode c_Q_noise 7 = .ok (.iload 4, 2) := by decide +kernel
theorem d_Q_noise_9 : decode c_Q_noise 9 = .ok (.invokevirtual 50, 3) := by decide +kernel
theorem d_Q_noise_12 : decode c_Q_noise 12 = .ok (.i2l, 1) := by decide +kernel
theorem d_Q_noise_13 : decode c_Q_noise 13 = .ok (.lastore, 1) := by decide +kernel
theorem d_Q_noise_14 : decode c_Q_noise 14 = .ok (.goto 15, 3) := by decide +kernel
theorem d_Q_noise_17 : decode c_Q_noise 17 = .ok (.astore 6, 2) := by decide +kernel
theorem d_Q_noise_19 : decode c_Q_noise 19 = .ok (.iconst 1, 1) := by decide +kernel
theorem d_Q_noise_20 : decode c_Q_noise 20 = .ok (.ireturn, 1) := by decide +kernel
theorem d_Q_noise_21 : decode c_Q_noise 21 = .ok (.astore 6, 2) := by decide +kernel
theorem d_Q_noise_23 : decode c_Q_noise 23 = .ok (.iconst 2, 1) := by decide +kernel
theorem d_Q_noise_24 : decode c_Q_noise 24 = .ok (.ireturn, 1) := by decide +kernel
theorem d_Q_noise_25 : decode c_Q_noise 25 = .ok (.astore 6, 2) := by decide +kernel
theorem d_Q_noise_27 : decode c_Q_noise 27 = .ok (.iconst 3, 1) := by decide +kernel
theorem d_Q_noise_28 : decode c_Q_noise 28 = .ok (.ireturn, 1) := by decide +kernel
theorem d_Q_noise_29 : decode c_Q_noise 29 = .ok (.iconst 0, 1) := by decide +kernel
theorem d_Q_noise_30 : decode c_Q_noise 30 = .ok (.ireturn, 1) := by decide +kernel
theorem d_Q_read_0 : decode c_Q_read 0 = .ok (.aload_n 3, 1) := by decide +kernel
theorem d_Q_read_1 : decode c_Q_read 1 = .ok (.iconst 0, 1) := by decide +kernel
theorem d_Q_read_2 : decode c_Q_read 2 = .ok (.aload_n 0, 1) := by decide +kernel
theorem d_Q_read_3 : decode c_Q_read 3 = .ok (.iload_n 1, 1) := by decide +kernel
theorem d_Q_read_4 : decode c_Q_read 4 = .ok (.iload_n 2, 1) := by decide +kernel
theorem d_Q_read_5 : decode c_Q_read 5 = .ok (.invokevirtual 53, 3) := by decide +kernel
theorem d_Q_read_8 : decode c_Q_read 8 = .ok (.i2l, 1) := by decide +kernel
theorem d_Q_read_9 : decode c_Q_read 9 = .ok (.lastore, 1) := by decide +kernel
theorem d_Q_read_10 : decode c_Q_read 10 = .ok (.goto 11, 3) := by decide +kernel
theorem d_Q_read_13 : decode c_Q_read 13 = .ok (.astore 4, 2) := by decide +kernel
theorem d_Q_read_15 : decode c_Q_read 15 = .ok (.iconst 1, 1) := by decide +kernel
theorem d_Q_read_16 : decode c_Q_read 16 = .ok (.ireturn, 1) := by decide +kernel
theorem d_Q_read_17 : decode c_Q_read 17 = .ok (.astore 4, 2) := by decide +kernel
theorem d_Q_read_19 : decode c_Q_read 19 = .ok (.iconst 2, 1) := by decide +kernel
theorem d_Q_read_20 : decode c_Q_read 20 = .ok (.ireturn, 1) := by decide +kernel
theorem d_Q_read_21 : decode c_Q_read 21 = .ok (.iconst 0, 1) := by decide +kernel
theorem d_Q_read_22 : decode c_Q_read 22 = .ok (.ireturn, 1) := by decide +kernel
theorem d_Q_shake_0 : decode c_Q_shake 0 = .ok (.aload 4, 2) := by decide +kernel
theorem d_Q_shake_2 : decode c_Q_shake 2 = .ok (.iconst 0, 1) := by decide +kernel
theorem d_Q_shake_3 : decode c_Q_shake 3 = .ok (.aload_n 0, 1) := by decide +kernel
theorem d_Q_shake_4 : decode c_Q_shake 4 = .ok (.iload_n 1, 1) := by decide +kernel
theorem d_Q_shake_5 : decode c_Q_shake 5 = .ok (.lload_n 2, 1) := by decide +kernel
theorem d_Q_shake_6 : decode c_Q_shake 6 = .ok (.invokevirtual 56, 3) := by decide +kernel
theorem d_Q_shake_9 : decode c_Q_shake 9 = .ok (.lastore, 1) := by decide +kernel
theorem d_Q_shake_10 : decode c_Q_shake 10 = .ok (.goto 7, 3) := by decide +kernel
theorem d_Q_shake_13 : decode c_Q_shake 13 = .ok (.astore 5, 2) := by decide +kernel
theorem d_Q_shake_15 : decode c_Q_shake 15 = .ok (.iconst 1, 1) := by decide +kernel
theorem d_Q_shake_16 : decode c_Q_shake 16 = .ok (.ireturn, 1) := by decide +kernel
theorem d_Q_shake_17 : decode c_Q_shake 17 = .ok (.iconst 0, 1) := by decide +kernel
theorem d_Q_shake_18 : decode c_Q_shake 18 = .ok (.ireturn, 1) := by decide +kernel
end DC
end
section
section RU
def sb_ (j : Nat) : Int32 := ([4643, 13363, 20579, 25843, 29227, 31145, 32103, 32525, 32689, 32745, 32762, 32766] : List Int32).getD j 0
def go_ (j : Nat) : Nat := ([0, 10, 20, 5, 15, 16, 1, 11, 21, 6, 7, 17, 2, 12, 22, 23, 8, 18, 3, 13, 14, 24, 9, 19, 4] : List Nat).getD j 0
def tn_ (j : Nat) : Nat := ([0, 1, 62, 28, 27, 36, 44, 6, 55, 20, 3, 10, 43, 25, 39, 41, 45, 15, 21, 8, 18, 2, 61, 56, 14] : List Nat).getD j 0
def rb_ (j : Nat) : Int64 := ([0x0000000000000001, 0x0000000000008082, -9223372036854742902, -9223372034707259392, 0x000000000000808B, 0x0000000080000001, -9223372034707259263, -9223372036854743031, 0x000000000000008A, 0x0000000000000088, 0x0000000080008009, 0x000000008000000A, 0x000000008000808B, -9223372036854775669, -9223372036854742903, -9223372036854743037, -9223372036854743038, -9223372036854775680, 0x000000000000800A, -9223372034707292150, -9223372034707259263, -9223372036854742912, 0x0000000080000001, -9223372034707259384] : List Int64).getD j 0
def St_ (sz : Nat) (tk : Nat → Nat) (U : State) : Prop :=
  (∀ w ∈ nw_, va_Nw w U) ∧
  (va_Z R_L "SAMPLE_BOUNDS" "[I" (.ref (tk 0)) (fun q => sz ≤ q) U U.heap ∧ va_T .int (tk 0) 12 (fun j => .int (sb_ j)) (fun q => sz ≤ q) U U.heap) ∧
  (va_Z R_L "LANE_GOES_TO" "[I" (.ref (tk 1)) (fun q => sz ≤ q) U U.heap ∧ va_T .int (tk 1) 25 (fun j => .int (nI (go_ j))) (fun q => sz ≤ q) U U.heap) ∧
  (va_Z R_L "LANE_TURNS" "[I" (.ref (tk 2)) (fun q => sz ≤ q) U U.heap ∧ va_T .int (tk 2) 25 (fun j => .int (nI (tn_ j))) (fun q => sz ≤ q) U U.heap) ∧
  (va_Z R_L "ROUND_BITS" "[J" (.ref (tk 3)) (fun q => sz ≤ q) U U.heap ∧ va_T .long (tk 3) 24 (fun j => .long (rb_ j)) (fun q => sz ≤ q) U U.heap) ∧
  (vx_Zq Bundle.tN "UNASSIGNED_STACK" Bundle.steD (fun q => sz ≤ q) U U.heap ∧ vx_Zq Bundle.tN "SUPPRESSED_SENTINEL" Bundle.listD (fun q => sz ≤ q) U U.heap) ∧
  (vk_R R_L 139 "there is no such place" (tk 4) U ∧ vk_R R_L 144 "there is no such matrix" (tk 5) U ∧ vk_R R_L 146 "a long has 0 to 8 bytes" (tk 6) U ∧ vk_R R_L 150 "the place is empty" (tk 7) U ∧ vk_R R_L 155 "there is no such byte or entry" (tk 8) U)
theorem nw_warm {s U : State} (hW : s.WarmedH U.vm) (h : ∀ w ∈ nw_, va_Nw w s) : ∀ w ∈ nw_, va_Nw w U := by
  intro w hw
  have h0 := h w hw
  simp only [nw_, List.mem_cons, List.not_mem_nil, or_false] at hw
  rcases hw with rfl | rfl | rfl | rfl | rfl | rfl | rfl | rfl | rfl | rfl | rfl | rfl | rfl | rfl | rfl | rfl | rfl | rfl | rfl | rfl <;> first | exact va_Nw.warmF hW h0 | exact va_Nw.warmM hW h0
theorem St_stb (sz : Nat) (tk : Nat → Nat) : pm_stb sz (St_ sz tk) := by
  intro U V hW hz hk h
  obtain ⟨h0, ⟨a1, a2⟩, ⟨b1, b2⟩, ⟨c1, c2⟩, ⟨d1, d2⟩, ⟨e1, e2⟩, f1, f2, f3, f4, f5⟩ := h
  have ha := hW.alike
  have hk' : ∀ a : Nat, a < U.heap.size → ¬ (fun q => sz ≤ q) a → V.heap[a]? = U.heap[a]? := hk
  exact ⟨nw_warm hW h0, ⟨(va_Z.moved ha a1).kept hk', (va_T.moved ha a2).kept hk'⟩, ⟨(va_Z.moved ha b1).kept hk', (va_T.moved ha b2).kept hk'⟩, ⟨(va_Z.moved ha c1).kept hk', (va_T.moved ha c2).kept hk'⟩, ⟨(va_Z.moved ha d1).kept hk', (va_T.moved ha d2).kept hk'⟩, ⟨(vx_Zq.moved ha e1).kept hk', (vx_Zq.moved ha e2).kept hk'⟩, f1.warm hW, f2.warm hW, f3.warm hW, f4.warm hW, f5.warm hW⟩
end RU
section RC
variable {p : Program} {l : Launch} {e : Env} {R : Room} {s : State} {m : MethodId} {args : Array Value} {below : List Frame} {meth : Method} {c : Code} {Q : State → Prop} {cells slots : Nat}
variable {cc : ByteArray} {own : String} {D : va_G} {tc : Nat → ClassId} {sz nL n pc : Nat} {hz : Option Nat} {w : Nat → va_E} {lv : List (Nat × Value)} {st : List Value} {tk : Nat → Nat}
def mm_ (l : Launch) (y : MethodName) (b : ByteArray) (maxL : Nat) (ret : Option FieldType) (rm : Room) (D : va_G) (tc : Nat → ClassId) (sz : Nat) (tk : Nat → Nat) (As : List Value) (hz : Option Nat) (n : Nat) (w : Nat → va_E) (hz' : Option Nat) (n' : Nat) (post : Option Value → (Nat → va_E) → Prop) : Prop :=
  pm_M l y (.code y b maxL ret :: gw_) rm D cl_ tc sz (St_ sz tk) As hz n w hz' n' post
def cx_ (p : Program) (s : State) (m : MethodId) (args : Array Value) (c : Code) (cc : ByteArray) (nL : Nat) (own : String) (D : va_G) (tc : Nat → ClassId) (sz : Nat) (tk : Nat → Nat) : Prop :=
  (∃ c0 : Cond, CallFix p m c cc nL s args (c0 :: gw_) own) ∧ va_K D cl_ (pm_T tc) s ∧ sz ≤ s.heap.size ∧ St_ sz tk s
theorem cx_X {F : pm_FT} {K : Nat → Option Value} (h : cx_ p s m args c cc nL own D tc sz tk) (hX : ∀ {c0 : Cond}, CallFix p m c cc nL s args (c0 :: gw_) own → va_K D cl_ (pm_T tc) s → (∀ w ∈ nw_, va_Nw w s) → pm_X p s m args c cc own D cl_ tc F K) : pm_X p s m args c cc own D cl_ tc F K := by
  obtain ⟨⟨c0, h1⟩, h2, h3, h4⟩ := h
  exact hX h1 h2 h4.1
theorem mm_of {y : MethodName} {b : ByteArray} {maxL : Nat} {ret : Option FieldType} {rm : Room} {As : List Value} {hz' : Option Nat} {n' : Nat} {post : Option Value → (Nat → va_E) → Prop} (hy : plainName y.cls = true) (hA : (lg_sl As).length ≤ maxL)
    (body : ∀ p e s m args below meth c, cx_ p s m args c b maxL y.cls D tc sz tk → meth.sig.returnType = ret → meth.locks = false → (s.methodNamed? y = some m ∧ s.vm.method? m = some meth) →
      pm_G p l e rm s m args below meth c (MQ below (pm_Q D cl_ sz hz' n' post) args s rm.cells rm.slots (fun q => sz ≤ q)) D cl_ sz maxL hz n 0 0 w 0 (lv_args 0 As) []) :
    mm_ l y b maxL ret rm D tc sz tk As hz n w hz' n' post :=
  pm_ofG hy rfl hA (fun p e s m args below meth c h1 h2 h3 h4 h5 h6 h7 => body p e s m args below meth c ⟨⟨_, h1⟩, h5, h6, h7⟩ h2 h3 h4)
theorem mm_V {y : MethodName} {b : ByteArray} {maxL : Nat} {ret : Option FieldType} {rm : Room} {As rest : List Value} {hz' : Option Nat} {n' k na index ci N : Nat} {fs : List Value} {C : String} {T : u_T} {post : Option Value → (Nat → va_E) → Prop}
    (X : cx_ p s m args c cc nL own D tc sz tk) (hM : mm_ l y b maxL ret rm D tc sz tk (.ref (sz + k) :: As) hz n w hz' n' post) (hc : cv_ C y b maxL ret na) (hlk : Cond.methodLink own index y ∈ gw_)
    (hk : k < n) (hw : w k = .inr (ci, fs)) (hcl : cl_[ci]? = some (C, T, N)) (hn : As.length = na) (hs0 : st = As.reverse ++ .ref (sz + k) :: rest) (hcat : (rest.map fun v => v.category).sum ≤ 8) (hd : decode cc pc = .ok (.invokevirtual index, 3))
    (hR : rm.frames + 1 ≤ R.frames ∧ 8 + (maxL + 11) + rm.locals ≤ R.locals) (hf : cells + rm.cells ≤ R.cells ∧ slots + rm.slots ≤ R.slots)
    (kk : ∀ (v : Option Value) (w' : Nat → va_E), post v w' → pm_G p l e R s m args below meth c Q D cl_ sz nL hz' n' (cells + rm.cells) (slots + rm.slots) w' (pc + 3) lv (v.toList ++ rest)) : pm_G p l e R s m args below meth c Q D cl_ sz nL hz n cells slots w pc lv st := by
  obtain ⟨⟨c0, S⟩, hK, hsz, hSt⟩ := X
  obtain ⟨q1, q2, q3, q4, q5, q6, q7⟩ := hc
  have hts : ∀ w ∈ gw_, w.before args s = true := fun w h => S.2.2.2.2 w (List.mem_cons_of_mem _ h)
  refine pm_call (a := (Value.ref (sz + k) :: As).toArray) (rest := rest) (fun H locs ls hls hP hS hh => ?_) kk
  have hg : (pm_L sz n w)[k]? = some (sz + k, .inr (ci, fs)) := by rw [pm_L_get hk, hw]
  exact va_runV (C := C) (b := sz + k) (As := As) S hM ⟨callB_of na S.2.2.2.2 (gi_ q4) rfl rfl rfl (hts _ q3) (hts _ hlk) ⟨q5, q6, q7⟩ hR, hts _ q1, hts _ q2⟩
    ⟨pm_blind (St_stb sz tk), va_recv hK hP hcl hg, pm_pre (St_stb sz tk) hK hsz hSt hP hS hh⟩ rfl hn hls hs0 (lv_room hcat) hd hf
theorem mm_S {y : MethodName} {b : ByteArray} {maxL : Nat} {ret : Option FieldType} {rm : Room} {As rest : List Value} {hz' : Option Nat} {n' na index : Nat} {post : Option Value → (Nat → va_E) → Prop}
    (X : cx_ p s m args c cc nL own D tc sz tk) (hM : mm_ l y b maxL ret rm D tc sz tk As hz n w hz' n' post) (hc : cs_ y b maxL ret na) (hlk : Cond.methodLink own index y ∈ gw_)
    (hn : As.length = na) (hs0 : st = As.reverse ++ rest) (hcat : (rest.map fun v => v.category).sum ≤ 8) (hd : decode cc pc = .ok (.invokestatic index, 3))
    (hR : rm.frames + 1 ≤ R.frames ∧ 8 + (maxL + 11) + rm.locals ≤ R.locals) (hf : cells + rm.cells ≤ R.cells ∧ slots + rm.slots ≤ R.slots)
    (kk : ∀ (v : Option Value) (w' : Nat → va_E), post v w' → pm_G p l e R s m args below meth c Q D cl_ sz nL hz' n' (cells + rm.cells) (slots + rm.slots) w' (pc + 3) lv (v.toList ++ rest)) : pm_G p l e R s m args below meth c Q D cl_ sz nL hz n cells slots w pc lv st := by
  obtain ⟨⟨c0, S⟩, hK, hsz, hSt⟩ := X
  obtain ⟨q1, q3, q4, q5, q6, q7⟩ := hc
  have hts : ∀ w ∈ gw_, w.before args s = true := fun w h => S.2.2.2.2 w (List.mem_cons_of_mem _ h)
  refine pm_call (a := As.toArray) (rest := rest) (fun H locs ls hls hP hS hh => ?_) kk
  exact va_runS (As := As) S hM ⟨callB_of na S.2.2.2.2 (gi_ q4) rfl rfl rfl (hts _ q3) (hts _ hlk) ⟨q5, q6, q7⟩ hR, hts _ q1⟩
    ⟨pm_blind (St_stb sz tk), pm_pre (St_stb sz tk) hK hsz hSt hP hS hh⟩ rfl hn hls hs0 (lv_room hcat) hd hf
theorem mm_gN {nm d : String} {v : Value} {index : Nat} {host : String} (X : cx_ p s m args c cc nL own D tc sz tk) (hZ : va_Z R_L nm d v (fun q => sz ≤ q) s s.heap) (hlk : Cond.fieldLinkNest own index R_L nm d host ∈ nw_) (hd : decode cc pc = .ok (.getstatic index, 3))
    (kk : pm_G p l e R s m args below meth c Q D cl_ sz nL hz n cells slots w (pc + 3) lv (v :: st)) : pm_G p l e R s m args below meth c Q D cl_ sz nL hz n cells slots w pc lv st := by
  obtain ⟨⟨c0, S⟩, hK, hsz, hSt⟩ := X
  intro H locs ls hl hP hS hh
  exact va_getsN S.1 S.2.1 hZ hS S.2.2.2.1 (va_Nw.use rfl (hSt.1 _ hlk)) (fun _ h => h) hd (kk H locs ls hl hP hS hh)
theorem mm_ti {t N k : Nat} {f : Nat → Value} {v : Value} (X : cx_ p s m args c cc nL own D tc sz tk) (hT : va_T .int t N f (fun q => sz ≤ q) s s.heap) (hk : k < N) (hN : N < 2 ^ 31) (hv : f k = v) (hd : decode cc pc = .ok (.iaload, 1))
    (kk : pm_G p l e R s m args below meth c Q D cl_ sz nL hz n cells slots w (pc + 1) lv (v :: st)) : pm_G p l e R s m args below meth c Q D cl_ sz nL hz n cells slots w pc lv (.int (nI k) :: .ref t :: st) := by
  obtain ⟨⟨c0, S⟩, hK, hsz, hSt⟩ := X
  intro H locs ls hl hP hS hh
  exact va_ti S.1 S.2.1 hT hS (nI_in hk hN) (by rw [nI_clamp (Nat.lt_trans hk hN)]; exact hv) hd (kk H locs ls hl hP hS hh)
theorem mm_tl {t N k : Nat} {f : Nat → Value} {v : Value} (X : cx_ p s m args c cc nL own D tc sz tk) (hT : va_T .long t N f (fun q => sz ≤ q) s s.heap) (hk : k < N) (hN : N < 2 ^ 31) (hv : f k = v) (hd : decode cc pc = .ok (.laload, 1))
    (kk : pm_G p l e R s m args below meth c Q D cl_ sz nL hz n cells slots w (pc + 1) lv (v :: st)) : pm_G p l e R s m args below meth c Q D cl_ sz nL hz n cells slots w pc lv (.int (nI k) :: .ref t :: st) := by
  obtain ⟨⟨c0, S⟩, hK, hsz, hSt⟩ := X
  intro H locs ls hl hP hS hh
  exact va_tl S.1 S.2.1 hT hS (nI_in hk hN) (by rw [nI_clamp (Nat.lt_trans hk hN)]; exact hv) hd (kk H locs ls hl hP hS hh)
theorem mm_tlen {ty : FieldType} {t N : Nat} {f : Nat → Value} (X : cx_ p s m args c cc nL own D tc sz tk) (hT : va_T ty t N f (fun q => sz ≤ q) s s.heap) (hd : decode cc pc = .ok (.arraylength, 1))
    (kk : pm_G p l e R s m args below meth c Q D cl_ sz nL hz n cells slots w (pc + 1) lv (.int (nI N) :: st)) : pm_G p l e R s m args below meth c Q D cl_ sz nL hz n cells slots w pc lv (.ref t :: st) := by
  obtain ⟨⟨c0, S⟩, hK, hsz, hSt⟩ := X
  intro H locs ls hl hP hS hh
  exact va_tlen S.1 S.2.1 hT hS rfl hd (kk H locs ls hl hP hS hh)
end RC
end
section
section RT
def rm_ (d : Nat) : Room := { frames := d, cells := 0, slots := 0, locals := 32 * d }
variable {p : Program} {l : Launch} {e : Env} {R : Room} {s : State} {m : MethodId} {args : Array Value} {below : List Frame} {meth : Method} {c : Code} {Q : State → Prop} {cells slots mc ms : Nat}
variable {cc : ByteArray} {own : String} {D : va_G} {tc : Nat → ClassId} {sz nL n pc : Nat} {hz : Option Nat} {w : Nat → va_E} {lv : List (Nat × Value)} {tk : Nat → Nat} {post : Option Value → (Nat → va_E) → Prop}
theorem mr_i {v : Int32} (X : cx_ p s m args c cc nL own D tc sz tk) (hr : meth.sig.returnType = some .int) (hk : meth.locks = false) (hd : decode cc pc = .ok (.ireturn, 1)) (hc : cells ≤ mc) (hs : slots ≤ ms) (hp : post (some (.int v)) w) :
    pm_G p l e R s m args below meth c (MQ below (pm_Q D cl_ sz hz n post) args s mc ms (fun q => sz ≤ q)) D cl_ sz nL hz n cells slots w pc lv [.int v] := by
  obtain ⟨⟨c0, S⟩, -⟩ := X
  exact pm_iret S.1 S.2.1 hr hk hd hp hc hs
theorem mr_z {v : Int32} (X : cx_ p s m args c cc nL own D tc sz tk) (hr : meth.sig.returnType = some .boolean) (hk : meth.locks = false) (hd : decode cc pc = .ok (.ireturn, 1)) (hn : narrow .boolean (.int v) = .int v) (hc : cells ≤ mc) (hs : slots ≤ ms) (hp : post (some (.int v)) w) :
    pm_G p l e R s m args below meth c (MQ below (pm_Q D cl_ sz hz n post) args s mc ms (fun q => sz ≤ q)) D cl_ sz nL hz n cells slots w pc lv [.int v] := by
  obtain ⟨⟨c0, S⟩, -⟩ := X
  exact pm_zret S.1 S.2.1 hr hn hk hd hp hc hs
theorem mr_l {v : Int64} (X : cx_ p s m args c cc nL own D tc sz tk) (hr : meth.sig.returnType = some .long) (hk : meth.locks = false) (hd : decode cc pc = .ok (.lreturn, 1)) (hc : cells ≤ mc) (hs : slots ≤ ms) (hp : post (some (.long v)) w) :
    pm_G p l e R s m args below meth c (MQ below (pm_Q D cl_ sz hz n post) args s mc ms (fun q => sz ≤ q)) D cl_ sz nL hz n cells slots w pc lv [.long v] := by
  obtain ⟨⟨c0, S⟩, -⟩ := X
  exact pm_lret S.1 S.2.1 hr hk hd hp hc hs
theorem mr_a {a : Nat} {C : String} (X : cx_ p s m args c cc nL own D tc sz tk) (hr : meth.sig.returnType = some (.object C)) (hk : meth.locks = false) (hd : decode cc pc = .ok (.areturn, 1)) (hc : cells ≤ mc) (hs : slots ≤ ms) (hp : post (some (.ref a)) w) :
    pm_G p l e R s m args below meth c (MQ below (pm_Q D cl_ sz hz n post) args s mc ms (fun q => sz ≤ q)) D cl_ sz nL hz n cells slots w pc lv [.ref a] := by
  obtain ⟨⟨c0, S⟩, -⟩ := X
  exact pm_aret S.1 S.2.1 hr hk hd hp hc hs
theorem mr_v (X : cx_ p s m args c cc nL own D tc sz tk) (hr : meth.sig.returnType = none) (hk : meth.locks = false) (hd : decode cc pc = .ok (.return_, 1)) (hc : cells ≤ mc) (hs : slots ≤ ms) (hp : post none w) :
    pm_G p l e R s m args below meth c (MQ below (pm_Q D cl_ sz hz n post) args s mc ms (fun q => sz ≤ q)) D cl_ sz nL hz n cells slots w pc lv [] := by
  obtain ⟨⟨c0, S⟩, -⟩ := X
  exact pm_vret S.1 S.2.1 hr hk hd hp hc hs
theorem pm_G.wd {hz : Option Nat} {cl : List vw_C} {w' : Nat → va_E} {st : List Value} (h : w = w') (k : pm_G p l e R s m args below meth c Q D cl sz nL hz n cells slots w' pc lv st) : pm_G p l e R s m args below meth c Q D cl sz nL hz n cells slots w pc lv st := h ▸ k
theorem pm_G.st {hz : Option Nat} {cl : List vw_C} {st st' : List Value} (h : st = st') (k : pm_G p l e R s m args below meth c Q D cl sz nL hz n cells slots w pc lv st') : pm_G p l e R s m args below meth c Q D cl sz nL hz n cells slots w pc lv st := h ▸ k
end RT
end
section
section M0
variable {pc k N : Nat} {lv : List (Nat × Value)} {r : List Value} {w : Nat → va_E} {j x : Int32} {c0 c1 : ClassId}
theorem pq_ial {f : Nat → Int32} : pm_ial c0 (some (.inl (c0, N, .inl f))) j pc lv r w = (pm_ix j N).map (fun i => (pc, lv, .int (f i) :: r, w)) := if_pos rfl
theorem pq_lal {f : Nat → Int64} : pm_lal c0 (some (.inl (c0, N, .inr (.inl f)))) j pc lv r w = (pm_ix j N).map (fun i => (pc, lv, .long (f i) :: r, w)) := if_pos rfl
theorem pq_aal0 {f : Nat → Option Nat} : pm_aal c0 c1 (some (.inl (c0, N, .inr (.inr (.inr (.inr f)))))) j pc lv r w = (pm_ix j N).map (fun i => (pc, lv, va_rf (f i) :: r, w)) := if_pos (Or.inl rfl)
theorem pq_aal1 {f : Nat → Option Nat} : pm_aal c0 c1 (some (.inl (c1, N, .inr (.inr (.inr (.inr f)))))) j pc lv r w = (pm_ix j N).map (fun i => (pc, lv, va_rf (f i) :: r, w)) := if_pos (Or.inr rfl)
theorem pq_ias {f : Nat → Int32} : pm_ias c0 (some (.inl (c0, N, .inl f))) k j x pc lv r w = (pm_ix j N).map (fun i => (pc, lv, r, va_up w k (.inl (c0, N, .inl (upd f i x))))) := if_pos rfl
end M0
section M1
theorem va_up_g {α : Type} {f : Nat → α} {k j : Nat} {v : α} : va_up f k v j = if j = k then v else f j := rfl
def sk_ (tc : Nat → ClassId) (sz : Nat) (w : Nat → va_E) (f g h : Nat → Int64) (len : Nat) : Nat → va_E := fun k =>
  if k = 4 then .inr (3, [.ref (sz + 5), .ref (sz + 6), .ref (sz + 7), .int (nI len)]) else if k = 5 then .inl (tc 1, 25, .inr (.inl f)) else if k = 6 then .inl (tc 1, 25, .inr (.inl g)) else if k = 7 then .inl (tc 1, 5, .inr (.inl h)) else w k
variable {p : Program} {l : Launch} {e : Env} {R : Room} {s : State} {m : MethodId} {args : Array Value} {below : List Frame} {meth : Method} {c : Code} {Q : State → Prop} {D : va_G} {tc : Nat → ClassId} {sz : Nat} {tk : Nat → Nat} {hz : Option Nat} {w : Nat → va_E}
variable {f g h f1 : Nat → Int64} {len N i j : Nat} {x : Int64}
theorem va_up_2 {α : Type} {f : Nat → α} {k : Nat} {u v : α} : va_up (va_up f k u) k v = va_up f k v := by
  funext j
  by_cases hj : j = k <;> simp [va_up, hj]
theorem sk_4 : sk_ tc sz w f g h len 4 = .inr (3, [.ref (sz + 5), .ref (sz + 6), .ref (sz + 7), .int (nI len)]) := rfl
theorem sk_5 : sk_ tc sz w f g h len 5 = .inl (tc 1, 25, .inr (.inl f)) := rfl
theorem sk_6 : sk_ tc sz w f g h len 6 = .inl (tc 1, 25, .inr (.inl g)) := rfl
theorem sk_7 : sk_ tc sz w f g h len 7 = .inl (tc 1, 5, .inr (.inl h)) := rfl
theorem sk_u4 : va_up (sk_ tc sz w f g h len) 4 (.inr (3, [.ref (sz + 5), .ref (sz + 6), .ref (sz + 7), .int (nI i)])) = sk_ tc sz w f g h i := by
  funext k
  by_cases h4 : k = 4
  · subst h4; rfl
  by_cases h5 : k = 5
  · subst h5; rfl
  by_cases h6 : k = 6
  · subst h6; rfl
  by_cases h7 : k = 7
  · subst h7; rfl
  simp [va_up, sk_, h4, h5, h6, h7]
theorem sk_u5 : va_up (sk_ tc sz w f g h len) 5 (.inl (tc 1, 25, .inr (.inl f1))) = sk_ tc sz w f1 g h len := by
  funext k
  by_cases h4 : k = 4
  · subst h4; rfl
  by_cases h5 : k = 5
  · subst h5; rfl
  by_cases h6 : k = 6
  · subst h6; rfl
  by_cases h7 : k = 7
  · subst h7; rfl
  simp [va_up, sk_, h4, h5, h6, h7]
theorem sk_u6 : va_up (sk_ tc sz w f g h len) 6 (.inl (tc 1, 25, .inr (.inl f1))) = sk_ tc sz w f f1 h len := by
  funext k
  by_cases h4 : k = 4
  · subst h4; rfl
  by_cases h5 : k = 5
  · subst h5; rfl
  by_cases h6 : k = 6
  · subst h6; rfl
  by_cases h7 : k = 7
  · subst h7; rfl
  simp [va_up, sk_, h4, h5, h6, h7]
theorem sk_u7 : va_up (sk_ tc sz w f g h len) 7 (.inl (tc 1, 5, .inr (.inl f1))) = sk_ tc sz w f g f1 len := by
  funext k
  by_cases h4 : k = 4
  · subst h4; rfl
  by_cases h5 : k = 5
  · subst h5; rfl
  by_cases h6 : k = 6
  · subst h6; rfl
  by_cases h7 : k = 7
  · subst h7; rfl
  simp [va_up, sk_, h4, h5, h6, h7]
theorem sk_up {k : Nat} {y : va_E} (h4 : k ≠ 4) (h5 : k ≠ 5) (h6 : k ≠ 6) (h7 : k ≠ 7) : va_up (sk_ tc sz w f g h len) k y = sk_ tc sz (va_up w k y) f g h len := by
  funext i
  by_cases hi : i = k
  · subst hi
    simp [va_up, sk_, h4, h5, h6, h7]
  · simp [va_up, sk_, hi]
theorem sk_o {k : Nat} (h4 : k ≠ 4) (h5 : k ≠ 5) (h6 : k ≠ 6) (h7 : k ≠ 7) : sk_ tc sz w f g h len k = w k := by
  simp [sk_, h4, h5, h6, h7]
set_option maxHeartbeats 4000000 in
theorem m_S_turned {x : Int64} {k : Int32} {n : Nat} : mm_ l y_S_turned c_S_turned 3 (some .long) (rm_ 0) D tc sz tk [.long x, .int k] hz n (w) hz n (fun v w1 => v = some (.long (jl_shl x k ||| jl_ushr x (nI 64 - k))) ∧ w1 = w) := by
  refine mm_of (by decide) (Nat.le_of_ble_eq_true rfl) ?_
  intro p e s m args below meth c X hr hk hnm
  refine pm_v_ok (cx_X X X_S) 9 _ _ _ _ (by simp -implicitDefEqProofs only [pv_0, pv_s, pd_iconst, pd_bipush, pd_sipush, pd_lconst_0, pd_lconst_1, pd_ldc, pd_ldc2, pd_iload_0, pd_iload_1, pd_iload_2, pd_iload_3, pd_iload, pd_lload_0, pd_lload_1, pd_lload_2, pd_lload_3, pd_lload, pd_aload_0, pd_aload_1, pd_aload_2, pd_aload_3, pd_aload, pd_istore_0, pd_istore_1, pd_istore_2, pd_istore_3, pd_istore, pd_lstore_0, pd_lstore_1, pd_lstore_2, pd_lstore_3, pd_lstore, pd_astore_0, pd_astore_1, pd_astore_2, pd_astore_3, pd_astore, pd_iinc, pd_iadd, pd_isub, pd_imul, pd_iand, pd_ior, pd_ixor, pd_ishl, pd_ishr, pd_iushr, pd_idiv, pd_irem, pd_ineg, pd_ladd, pd_lsub, pd_lmul, pd_land, pd_lor, pd_lxor, pd_lshl, pd_lushr, pd_lcmp, pd_i2l, pd_l2i, pd_dup_int, pd_pop_int, pd_dup_ref, pd_pop_ref, pd_dup_x1_ir, pd_dup_x1_ii, pd_dup2_ir, pd_dup2_ii, pd_goto, pd_if_eq, pd_if_ne, pd_if_lt, pd_if_ge, pd_if_gt, pd_if_le, pd_icmp_eq, pd_icmp_ne, pd_icmp_lt, pd_icmp_ge, pd_icmp_gt, pd_icmp_le, pd_iaload, pd_baload, pd_laload, pd_aaload, pd_iastore, pd_bastore, pd_lastore, pd_alen, pd_getfield, pd_putfield, ph_las, ph_len0, ph_len1, ph_len2, ph_gf, ph_pfi, ph_pfl, ph_pfz0, ph_pfz1, ph_nz0, ph_nz1, pm_cm1, pm_c0, pm_c1, pm_c2, pm_c3, pm_c4, pm_c5, pm_b6, pm_b7, pm_b8, pm_b9, pm_b10, pm_b11, pm_b12, pm_b14, pm_b15, pm_b16, pm_b20, pm_b24, pm_b25, pm_b28, pm_b31, pm_b32, pm_b48, pm_b56, pm_b60, pm_b63, pm_b64, pm_b67, pm_b68, pm_b89, pm_b90, pm_b95, pm_b100, pm_b120, pm_b127, pm_h128, pm_h150, pm_h168, pm_h255, pm_h256, pm_h360, pm_h369, pm_h450, pm_h4096, pm_h8192, pm_h32767, pm_h4643, pm_h13363, pm_h20579, pm_h25843, pm_h29227, pm_h31145, pm_h32103, pm_h32525, pm_h32689, pm_h32745, pm_h32762, pm_h32766, pm_o, pm_ldi, pm_ldl, pm_lda, pm_sti, pm_stl, pm_sta, pm_lk, pm_f1, pm_f2, Value.category, lv_args, Option.bind_some, Option.map_some, if_true, if_false, ite_true, ite_false, Nat.reduceAdd, Nat.reduceSub, Nat.reduceMul, Nat.reduceDiv, Nat.reduceMod, Nat.reduceLT, Nat.reduceLeDiff, Nat.reduceEqDiff, reduceIte, reduceCtorEq, Int.reduceNatCast, Int.reduceNatCast', Int.reduceAdd, Int.reduceLE, Int.reduceLT, Int.reduceToNat, Int.reduceNeg, Int.reduceSub, pm_at_add, Nat.add_sub_cancel_left, va_up_g, Int.ofNat_eq_natCast, List.getElem?_cons_zero, List.getElem?_cons_succ, List.set_cons_zero, List.set_cons_succ, List.length_cons, List.length_nil, Nat.zero_add, va_rf, nI_add, pk_mul, Int.toNat_natCast, pm_ix_nI, Option.toList_none, Option.toList_some, List.nil_append, List.cons_append, pq_ial, pq_lal, pq_aal0, pq_aal1, pq_ias, F_S, K_S, d_S_turned_0, d_S_turned_1, d_S_turned_2, d_S_turned_3, d_S_turned_4, d_S_turned_6, d_S_turned_7, d_S_turned_8, d_S_turned_9]; exact rfl) ?_
  exact mr_l X hr hk d_S_turned_10 (Nat.le_refl _) (Nat.le_refl _) ⟨rfl, rfl⟩
def fl_ (f : Nat → Int64) (v : Int64) (i : Nat) : Nat → Int64 := fun j => if j < i then v else f j
theorem fl_s : vp_updL (fl_ f x i) i x = fl_ f x (i + 1) := by
  funext j
  by_cases hj : j = i
  · subst hj
    simp [vp_updL, fl_]
  · by_cases h2 : j < i
    · simp [vp_updL, fl_, hj, h2, Nat.lt_succ_of_lt h2]
    · have h3 : ¬ j < i + 1 := by omega
      simp [vp_updL, fl_, hj, h2, h3]
theorem fl_0 : fl_ f x 0 = f := by
  funext j
  simp [fl_]
set_option maxHeartbeats 4000000 in
theorem lp_A_fill {q : Nat} (hq : q < 91) (hN : N < 2 ^ 31) (X : cx_ p s m args c c_A_fill 5 "java/util/Arrays" D tc sz tk) (he : pm_G p l e (rm_ 0) s m args below meth c Q D cl_ sz 5 hz 91 0 0 (va_up w q (.inl (tc 1, N, .inr (.inl (fl_ f x N))))) 22 [(3, .int (nI N)), (4, .int (nI N)), (0, .ref (sz + q)), (1, .long x)] []) : ∀ i j : Nat, j + i = N → pm_G p l e (rm_ 0) s m args below meth c Q D cl_ sz 5 hz 91 0 0 (va_up w q (.inl (tc 1, N, .inr (.inl (fl_ f x j))))) 6 [(3, .int (nI j)), (4, .int (nI N)), (0, .ref (sz + q)), (1, .long x)] [] := by
  intro i
  induction i with
  | zero =>
    intro j hj
    obtain rfl : j = N := by omega
    have h1 : (nI j ≤ nI j) = True := eq_true (nI_le (Nat.le_refl _) hN)
    refine pm_v_ok (cx_X X X_A) 3 _ _ _ _ (by simp -implicitDefEqProofs only [pv_0, pv_s, pd_iconst, pd_bipush, pd_sipush, pd_lconst_0, pd_lconst_1, pd_ldc, pd_ldc2, pd_iload_0, pd_iload_1, pd_iload_2, pd_iload_3, pd_iload, pd_lload_0, pd_lload_1, pd_lload_2, pd_lload_3, pd_lload, pd_aload_0, pd_aload_1, pd_aload_2, pd_aload_3, pd_aload, pd_istore_0, pd_istore_1, pd_istore_2, pd_istore_3, pd_istore, pd_lstore_0, pd_lstore_1, pd_lstore_2, pd_lstore_3, pd_lstore, pd_astore_0, pd_astore_1, pd_astore_2, pd_astore_3, pd_astore, pd_iinc, pd_iadd, pd_isub, pd_imul, pd_iand, pd_ior, pd_ixor, pd_ishl, pd_ishr, pd_iushr, pd_idiv, pd_irem, pd_ineg, pd_ladd, pd_lsub, pd_lmul, pd_land, pd_lor, pd_lxor, pd_lshl, pd_lushr, pd_lcmp, pd_i2l, pd_l2i, pd_dup_int, pd_pop_int, pd_dup_ref, pd_pop_ref, pd_dup_x1_ir, pd_dup_x1_ii, pd_dup2_ir, pd_dup2_ii, pd_goto, pd_if_eq, pd_if_ne, pd_if_lt, pd_if_ge, pd_if_gt, pd_if_le, pd_icmp_eq, pd_icmp_ne, pd_icmp_lt, pd_icmp_ge, pd_icmp_gt, pd_icmp_le, pd_iaload, pd_baload, pd_laload, pd_aaload, pd_iastore, pd_bastore, pd_lastore, pd_alen, pd_getfield, pd_putfield, ph_las, ph_len0, ph_len1, ph_len2, ph_gf, ph_pfi, ph_pfl, ph_pfz0, ph_pfz1, ph_nz0, ph_nz1, pm_cm1, pm_c0, pm_c1, pm_c2, pm_c3, pm_c4, pm_c5, pm_b6, pm_b7, pm_b8, pm_b9, pm_b10, pm_b11, pm_b12, pm_b14, pm_b15, pm_b16, pm_b20, pm_b24, pm_b25, pm_b28, pm_b31, pm_b32, pm_b48, pm_b56, pm_b60, pm_b63, pm_b64, pm_b67, pm_b68, pm_b89, pm_b90, pm_b95, pm_b100, pm_b120, pm_b127, pm_h128, pm_h150, pm_h168, pm_h255, pm_h256, pm_h360, pm_h369, pm_h450, pm_h4096, pm_h8192, pm_h32767, pm_h4643, pm_h13363, pm_h20579, pm_h25843, pm_h29227, pm_h31145, pm_h32103, pm_h32525, pm_h32689, pm_h32745, pm_h32762, pm_h32766, pm_o, pm_ldi, pm_ldl, pm_lda, pm_sti, pm_stl, pm_sta, pm_lk, pm_f1, pm_f2, Value.category, lv_args, Option.bind_some, Option.map_some, if_true, if_false, ite_true, ite_false, Nat.reduceAdd, Nat.reduceSub, Nat.reduceMul, Nat.reduceDiv, Nat.reduceMod, Nat.reduceLT, Nat.reduceLeDiff, Nat.reduceEqDiff, reduceIte, reduceCtorEq, Int.reduceNatCast, Int.reduceNatCast', Int.reduceAdd, Int.reduceLE, Int.reduceLT, Int.reduceToNat, Int.reduceNeg, Int.reduceSub, pm_at_add, Nat.add_sub_cancel_left, va_up_g, Int.ofNat_eq_natCast, List.getElem?_cons_zero, List.getElem?_cons_succ, List.set_cons_zero, List.set_cons_succ, List.length_cons, List.length_nil, Nat.zero_add, va_rf, nI_add, pk_mul, Int.toNat_natCast, pm_ix_nI, Option.toList_none, Option.toList_some, List.nil_append, List.cons_append, pq_ial, pq_lal, pq_aal0, pq_aal1, pq_ias, F_A, K_A, d_A_fill_6, d_A_fill_7, d_A_fill_9, h1]; exact rfl) ?_
    exact he
  | succ i ih =>
    intro j hj
    have h1 : (nI N ≤ nI j) = False := eq_false (nI_ge (by omega) hN)
    have h2 : pm_ix (nI j) N = some j := pm_ix_nI (by omega) hN
    have h3 : pm_at sz 91 (va_up w q (.inl (tc 1, N, .inr (.inl (fl_ f x j))))) (sz + q) = some (.inl (tc 1, N, .inr (.inl (fl_ f x j)))) := by
      rw [pm_at_add hq, va_up_g, if_pos rfl]
    refine pm_v_ok (cx_X X X_A) 9 _ _ _ _ (by simp -implicitDefEqProofs only [pv_0, pv_s, pd_iconst, pd_bipush, pd_sipush, pd_lconst_0, pd_lconst_1, pd_ldc, pd_ldc2, pd_iload_0, pd_iload_1, pd_iload_2, pd_iload_3, pd_iload, pd_lload_0, pd_lload_1, pd_lload_2, pd_lload_3, pd_lload, pd_aload_0, pd_aload_1, pd_aload_2, pd_aload_3, pd_aload, pd_istore_0, pd_istore_1, pd_istore_2, pd_istore_3, pd_istore, pd_lstore_0, pd_lstore_1, pd_lstore_2, pd_lstore_3, pd_lstore, pd_astore_0, pd_astore_1, pd_astore_2, pd_astore_3, pd_astore, pd_iinc, pd_iadd, pd_isub, pd_imul, pd_iand, pd_ior, pd_ixor, pd_ishl, pd_ishr, pd_iushr, pd_idiv, pd_irem, pd_ineg, pd_ladd, pd_lsub, pd_lmul, pd_land, pd_lor, pd_lxor, pd_lshl, pd_lushr, pd_lcmp, pd_i2l, pd_l2i, pd_dup_int, pd_pop_int, pd_dup_ref, pd_pop_ref, pd_dup_x1_ir, pd_dup_x1_ii, pd_dup2_ir, pd_dup2_ii, pd_goto, pd_if_eq, pd_if_ne, pd_if_lt, pd_if_ge, pd_if_gt, pd_if_le, pd_icmp_eq, pd_icmp_ne, pd_icmp_lt, pd_icmp_ge, pd_icmp_gt, pd_icmp_le, pd_iaload, pd_baload, pd_laload, pd_aaload, pd_iastore, pd_bastore, pd_lastore, pd_alen, pd_getfield, pd_putfield, ph_las, ph_len0, ph_len1, ph_len2, ph_gf, ph_pfi, ph_pfl, ph_pfz0, ph_pfz1, ph_nz0, ph_nz1, pm_cm1, pm_c0, pm_c1, pm_c2, pm_c3, pm_c4, pm_c5, pm_b6, pm_b7, pm_b8, pm_b9, pm_b10, pm_b11, pm_b12, pm_b14, pm_b15, pm_b16, pm_b20, pm_b24, pm_b25, pm_b28, pm_b31, pm_b32, pm_b48, pm_b56, pm_b60, pm_b63, pm_b64, pm_b67, pm_b68, pm_b89, pm_b90, pm_b95, pm_b100, pm_b120, pm_b127, pm_h128, pm_h150, pm_h168, pm_h255, pm_h256, pm_h360, pm_h369, pm_h450, pm_h4096, pm_h8192, pm_h32767, pm_h4643, pm_h13363, pm_h20579, pm_h25843, pm_h29227, pm_h31145, pm_h32103, pm_h32525, pm_h32689, pm_h32745, pm_h32762, pm_h32766, pm_o, pm_ldi, pm_ldl, pm_lda, pm_sti, pm_stl, pm_sta, pm_lk, pm_f1, pm_f2, Value.category, lv_args, Option.bind_some, Option.map_some, if_true, if_false, ite_true, ite_false, Nat.reduceAdd, Nat.reduceSub, Nat.reduceMul, Nat.reduceDiv, Nat.reduceMod, Nat.reduceLT, Nat.reduceLeDiff, Nat.reduceEqDiff, reduceIte, reduceCtorEq, Int.reduceNatCast, Int.reduceNatCast', Int.reduceAdd, Int.reduceLE, Int.reduceLT, Int.reduceToNat, Int.reduceNeg, Int.reduceSub, pm_at_add, Nat.add_sub_cancel_left, va_up_g, Int.ofNat_eq_natCast, List.getElem?_cons_zero, List.getElem?_cons_succ, List.set_cons_zero, List.set_cons_succ, List.length_cons, List.length_nil, Nat.zero_add, va_rf, nI_add, pk_mul, Int.toNat_natCast, pm_ix_nI, Option.toList_none, Option.toList_some, List.nil_append, List.cons_append, pq_ial, pq_lal, pq_aal0, pq_aal1, pq_ias, F_A, K_A, d_A_fill_6, d_A_fill_7, d_A_fill_9, d_A_fill_12, d_A_fill_13, d_A_fill_14, d_A_fill_15, d_A_fill_16, d_A_fill_19, h1, h2, h3, va_up_2, fl_s]; exact rfl) ?_
    exact ih (j + 1) (by omega)
set_option maxHeartbeats 4000000 in
theorem m_A_fill {q : Nat} (hq : q < 91) (hN : N < 2 ^ 31) (hw : w q = .inl (tc 1, N, .inr (.inl f))) : mm_ l y_A_fill c_A_fill 5 none (rm_ 0) D tc sz tk [.ref (sz + q), .long x] hz 91 (w) hz 91 (fun v w1 => v = none ∧ w1 = va_up w q (.inl (tc 1, N, .inr (.inl (fl_ f x N))))) := by
  refine mm_of (by decide) (Nat.le_of_ble_eq_true rfl) ?_
  intro p e s m args below meth c X hr hk hnm
  have h3 : pm_at sz 91 w (sz + q) = some (.inl (tc 1, N, .inr (.inl f))) := by
    rw [pm_at_add hq, hw]
  refine pm_v_ok (cx_X X X_A) 5 _ _ _ _ (by simp -implicitDefEqProofs only [pv_0, pv_s, pd_iconst, pd_bipush, pd_sipush, pd_lconst_0, pd_lconst_1, pd_ldc, pd_ldc2, pd_iload_0, pd_iload_1, pd_iload_2, pd_iload_3, pd_iload, pd_lload_0, pd_lload_1, pd_lload_2, pd_lload_3, pd_lload, pd_aload_0, pd_aload_1, pd_aload_2, pd_aload_3, pd_aload, pd_istore_0, pd_istore_1, pd_istore_2, pd_istore_3, pd_istore, pd_lstore_0, pd_lstore_1, pd_lstore_2, pd_lstore_3, pd_lstore, pd_astore_0, pd_astore_1, pd_astore_2, pd_astore_3, pd_astore, pd_iinc, pd_iadd, pd_isub, pd_imul, pd_iand, pd_ior, pd_ixor, pd_ishl, pd_ishr, pd_iushr, pd_idiv, pd_irem, pd_ineg, pd_ladd, pd_lsub, pd_lmul, pd_land, pd_lor, pd_lxor, pd_lshl, pd_lushr, pd_lcmp, pd_i2l, pd_l2i, pd_dup_int, pd_pop_int, pd_dup_ref, pd_pop_ref, pd_dup_x1_ir, pd_dup_x1_ii, pd_dup2_ir, pd_dup2_ii, pd_goto, pd_if_eq, pd_if_ne, pd_if_lt, pd_if_ge, pd_if_gt, pd_if_le, pd_icmp_eq, pd_icmp_ne, pd_icmp_lt, pd_icmp_ge, pd_icmp_gt, pd_icmp_le, pd_iaload, pd_baload, pd_laload, pd_aaload, pd_iastore, pd_bastore, pd_lastore, pd_alen, pd_getfield, pd_putfield, ph_las, ph_len0, ph_len1, ph_len2, ph_gf, ph_pfi, ph_pfl, ph_pfz0, ph_pfz1, ph_nz0, ph_nz1, pm_cm1, pm_c0, pm_c1, pm_c2, pm_c3, pm_c4, pm_c5, pm_b6, pm_b7, pm_b8, pm_b9, pm_b10, pm_b11, pm_b12, pm_b14, pm_b15, pm_b16, pm_b20, pm_b24, pm_b25, pm_b28, pm_b31, pm_b32, pm_b48, pm_b56, pm_b60, pm_b63, pm_b64, pm_b67, pm_b68, pm_b89, pm_b90, pm_b95, pm_b100, pm_b120, pm_b127, pm_h128, pm_h150, pm_h168, pm_h255, pm_h256, pm_h360, pm_h369, pm_h450, pm_h4096, pm_h8192, pm_h32767, pm_h4643, pm_h13363, pm_h20579, pm_h25843, pm_h29227, pm_h31145, pm_h32103, pm_h32525, pm_h32689, pm_h32745, pm_h32762, pm_h32766, pm_o, pm_ldi, pm_ldl, pm_lda, pm_sti, pm_stl, pm_sta, pm_lk, pm_f1, pm_f2, Value.category, lv_args, Option.bind_some, Option.map_some, if_true, if_false, ite_true, ite_false, Nat.reduceAdd, Nat.reduceSub, Nat.reduceMul, Nat.reduceDiv, Nat.reduceMod, Nat.reduceLT, Nat.reduceLeDiff, Nat.reduceEqDiff, reduceIte, reduceCtorEq, Int.reduceNatCast, Int.reduceNatCast', Int.reduceAdd, Int.reduceLE, Int.reduceLT, Int.reduceToNat, Int.reduceNeg, Int.reduceSub, pm_at_add, Nat.add_sub_cancel_left, va_up_g, Int.ofNat_eq_natCast, List.getElem?_cons_zero, List.getElem?_cons_succ, List.set_cons_zero, List.set_cons_succ, List.length_cons, List.length_nil, Nat.zero_add, va_rf, nI_add, pk_mul, Int.toNat_natCast, pm_ix_nI, Option.toList_none, Option.toList_some, List.nil_append, List.cons_append, pq_ial, pq_lal, pq_aal0, pq_aal1, pq_ias, F_A, K_A, d_A_fill_0, d_A_fill_1, d_A_fill_2, d_A_fill_3, d_A_fill_4, h3]; exact rfl) ?_
  have h4 : w = va_up w q (.inl (tc 1, N, .inr (.inl (fl_ f x 0)))) := by
    funext k
    by_cases hk : k = q
    · subst hk
      simp [va_up, fl_0, hw]
    · simp [va_up, hk]
  refine pm_G.wd h4 (pm_G.sub (by simp) (lp_A_fill hq hN X ?_ N 0 (by omega)))
  exact mr_v X hr hk d_A_fill_22 (Nat.le_refl _) (Nat.le_refl _) ⟨rfl, rfl⟩
set_option maxHeartbeats 4000000 in
theorem m_S_begin : mm_ l y_S_begin c_S_begin 1 none (rm_ 1) D tc sz tk [.ref (sz + 4)] hz 91 (sk_ tc sz w f g h len) hz 91 (fun v w1 => v = none ∧ w1 = sk_ tc sz w (fl_ f 0 25) g h 0) := by
  refine mm_of (by decide) (Nat.le_of_ble_eq_true rfl) ?_
  intro p e s m args below meth c X hr hk hnm
  refine pm_v_ok (cx_X X X_S) 3 _ _ _ _ (by simp -implicitDefEqProofs only [pv_0, pv_s, pd_iconst, pd_bipush, pd_sipush, pd_lconst_0, pd_lconst_1, pd_ldc, pd_ldc2, pd_iload_0, pd_iload_1, pd_iload_2, pd_iload_3, pd_iload, pd_lload_0, pd_lload_1, pd_lload_2, pd_lload_3, pd_lload, pd_aload_0, pd_aload_1, pd_aload_2, pd_aload_3, pd_aload, pd_istore_0, pd_istore_1, pd_istore_2, pd_istore_3, pd_istore, pd_lstore_0, pd_lstore_1, pd_lstore_2, pd_lstore_3, pd_lstore, pd_astore_0, pd_astore_1, pd_astore_2, pd_astore_3, pd_astore, pd_iinc, pd_iadd, pd_isub, pd_imul, pd_iand, pd_ior, pd_ixor, pd_ishl, pd_ishr, pd_iushr, pd_idiv, pd_irem, pd_ineg, pd_ladd, pd_lsub, pd_lmul, pd_land, pd_lor, pd_lxor, pd_lshl, pd_lushr, pd_lcmp, pd_i2l, pd_l2i, pd_dup_int, pd_pop_int, pd_dup_ref, pd_pop_ref, pd_dup_x1_ir, pd_dup_x1_ii, pd_dup2_ir, pd_dup2_ii, pd_goto, pd_if_eq, pd_if_ne, pd_if_lt, pd_if_ge, pd_if_gt, pd_if_le, pd_icmp_eq, pd_icmp_ne, pd_icmp_lt, pd_icmp_ge, pd_icmp_gt, pd_icmp_le, pd_iaload, pd_baload, pd_laload, pd_aaload, pd_iastore, pd_bastore, pd_lastore, pd_alen, pd_getfield, pd_putfield, ph_las, ph_len0, ph_len1, ph_len2, ph_gf, ph_pfi, ph_pfl, ph_pfz0, ph_pfz1, ph_nz0, ph_nz1, pm_cm1, pm_c0, pm_c1, pm_c2, pm_c3, pm_c4, pm_c5, pm_b6, pm_b7, pm_b8, pm_b9, pm_b10, pm_b11, pm_b12, pm_b14, pm_b15, pm_b16, pm_b20, pm_b24, pm_b25, pm_b28, pm_b31, pm_b32, pm_b48, pm_b56, pm_b60, pm_b63, pm_b64, pm_b67, pm_b68, pm_b89, pm_b90, pm_b95, pm_b100, pm_b120, pm_b127, pm_h128, pm_h150, pm_h168, pm_h255, pm_h256, pm_h360, pm_h369, pm_h450, pm_h4096, pm_h8192, pm_h32767, pm_h4643, pm_h13363, pm_h20579, pm_h25843, pm_h29227, pm_h31145, pm_h32103, pm_h32525, pm_h32689, pm_h32745, pm_h32762, pm_h32766, pm_o, pm_ldi, pm_ldl, pm_lda, pm_sti, pm_stl, pm_sta, pm_lk, pm_f1, pm_f2, Value.category, lv_args, Option.bind_some, Option.map_some, if_true, if_false, ite_true, ite_false, Nat.reduceAdd, Nat.reduceSub, Nat.reduceMul, Nat.reduceDiv, Nat.reduceMod, Nat.reduceLT, Nat.reduceLeDiff, Nat.reduceEqDiff, reduceIte, reduceCtorEq, Int.reduceNatCast, Int.reduceNatCast', Int.reduceAdd, Int.reduceLE, Int.reduceLT, Int.reduceToNat, Int.reduceNeg, Int.reduceSub, pm_at_add, Nat.add_sub_cancel_left, va_up_g, Int.ofNat_eq_natCast, List.getElem?_cons_zero, List.getElem?_cons_succ, List.set_cons_zero, List.set_cons_succ, List.length_cons, List.length_nil, Nat.zero_add, va_rf, nI_add, pk_mul, Int.toNat_natCast, pm_ix_nI, Option.toList_none, Option.toList_some, List.nil_append, List.cons_append, pq_ial, pq_lal, pq_aal0, pq_aal1, pq_ias, F_S, K_S, d_S_begin_0, d_S_begin_1, d_S_begin_4, sk_4, sk_5, sk_6, sk_7, sk_u4, sk_u5, sk_u6, sk_u7]; exact rfl) ?_
  refine mm_S X (m_A_fill (q := 5) (f := f) (N := 25) (by decide) (by decide) rfl) b_A_fill l_S_25 rfl rfl (Nat.le_of_ble_eq_true rfl) d_S_begin_5 (by decide) (by decide) (fun v w1 hq => ?_)
  obtain ⟨rfl, rfl⟩ := hq
  refine pm_v_ok (cx_X X X_S) 3 _ _ _ _ (by simp -implicitDefEqProofs only [pv_0, pv_s, pd_iconst, pd_bipush, pd_sipush, pd_lconst_0, pd_lconst_1, pd_ldc, pd_ldc2, pd_iload_0, pd_iload_1, pd_iload_2, pd_iload_3, pd_iload, pd_lload_0, pd_lload_1, pd_lload_2, pd_lload_3, pd_lload, pd_aload_0, pd_aload_1, pd_aload_2, pd_aload_3, pd_aload, pd_istore_0, pd_istore_1, pd_istore_2, pd_istore_3, pd_istore, pd_lstore_0, pd_lstore_1, pd_lstore_2, pd_lstore_3, pd_lstore, pd_astore_0, pd_astore_1, pd_astore_2, pd_astore_3, pd_astore, pd_iinc, pd_iadd, pd_isub, pd_imul, pd_iand, pd_ior, pd_ixor, pd_ishl, pd_ishr, pd_iushr, pd_idiv, pd_irem, pd_ineg, pd_ladd, pd_lsub, pd_lmul, pd_land, pd_lor, pd_lxor, pd_lshl, pd_lushr, pd_lcmp, pd_i2l, pd_l2i, pd_dup_int, pd_pop_int, pd_dup_ref, pd_pop_ref, pd_dup_x1_ir, pd_dup_x1_ii, pd_dup2_ir, pd_dup2_ii, pd_goto, pd_if_eq, pd_if_ne, pd_if_lt, pd_if_ge, pd_if_gt, pd_if_le, pd_icmp_eq, pd_icmp_ne, pd_icmp_lt, pd_icmp_ge, pd_icmp_gt, pd_icmp_le, pd_iaload, pd_baload, pd_laload, pd_aaload, pd_iastore, pd_bastore, pd_lastore, pd_alen, pd_getfield, pd_putfield, ph_las, ph_len0, ph_len1, ph_len2, ph_gf, ph_pfi, ph_pfl, ph_pfz0, ph_pfz1, ph_nz0, ph_nz1, pm_cm1, pm_c0, pm_c1, pm_c2, pm_c3, pm_c4, pm_c5, pm_b6, pm_b7, pm_b8, pm_b9, pm_b10, pm_b11, pm_b12, pm_b14, pm_b15, pm_b16, pm_b20, pm_b24, pm_b25, pm_b28, pm_b31, pm_b32, pm_b48, pm_b56, pm_b60, pm_b63, pm_b64, pm_b67, pm_b68, pm_b89, pm_b90, pm_b95, pm_b100, pm_b120, pm_b127, pm_h128, pm_h150, pm_h168, pm_h255, pm_h256, pm_h360, pm_h369, pm_h450, pm_h4096, pm_h8192, pm_h32767, pm_h4643, pm_h13363, pm_h20579, pm_h25843, pm_h29227, pm_h31145, pm_h32103, pm_h32525, pm_h32689, pm_h32745, pm_h32762, pm_h32766, pm_o, pm_ldi, pm_ldl, pm_lda, pm_sti, pm_stl, pm_sta, pm_lk, pm_f1, pm_f2, Value.category, lv_args, Option.bind_some, Option.map_some, if_true, if_false, ite_true, ite_false, Nat.reduceAdd, Nat.reduceSub, Nat.reduceMul, Nat.reduceDiv, Nat.reduceMod, Nat.reduceLT, Nat.reduceLeDiff, Nat.reduceEqDiff, reduceIte, reduceCtorEq, Int.reduceNatCast, Int.reduceNatCast', Int.reduceAdd, Int.reduceLE, Int.reduceLT, Int.reduceToNat, Int.reduceNeg, Int.reduceSub, pm_at_add, Nat.add_sub_cancel_left, va_up_g, Int.ofNat_eq_natCast, List.getElem?_cons_zero, List.getElem?_cons_succ, List.set_cons_zero, List.set_cons_succ, List.length_cons, List.length_nil, Nat.zero_add, va_rf, nI_add, pk_mul, Int.toNat_natCast, pm_ix_nI, Option.toList_none, Option.toList_some, List.nil_append, List.cons_append, pq_ial, pq_lal, pq_aal0, pq_aal1, pq_ias, F_S, K_S, d_S_begin_8, d_S_begin_9, d_S_begin_10, sk_4, sk_5, sk_6, sk_7, sk_u4, sk_u5, sk_u6, sk_u7]; exact rfl) ?_
  exact mr_v X hr hk d_S_begin_13 (Nat.le_refl _) (Nat.le_refl _) ⟨rfl, rfl⟩
end M1
end
section
section M2
variable {p : Program} {l : Launch} {e : Env} {R : Room} {s : State} {m : MethodId} {args : Array Value} {below : List Frame} {meth : Method} {c : Code} {Q : State → Prop} {D : va_G} {tc : Nat → ClassId} {sz : Nat} {tk : Nat → Nat} {hz : Option Nat} {w : Nat → va_E}
variable {f g h f1 : Nat → Int64} {len N i j k : Nat} {x : Int64} {r : Nat → Int32}
theorem nz_2 : (nI 2 = 0) = False := eq_false (nI_ne0 (by decide) (by decide))
theorem nz_4 : (nI 4 = 0) = False := eq_false (nI_ne0 (by decide) (by decide))
theorem nz_5 : (nI 5 = 0) = False := eq_false (nI_ne0 (by decide) (by decide))
theorem nz_8 : (nI 8 = 0) = False := eq_false (nI_ne0 (by decide) (by decide))
theorem nz_15 : (nI 15 = 0) = False := eq_false (nI_ne0 (by decide) (by decide))
theorem nz_64 : (nI 64 = 0) = False := eq_false (nI_ne0 (by decide) (by decide))
theorem nz_90 : (nI 90 = 0) = False := eq_false (nI_ne0 (by decide) (by decide))
theorem jr_ {a d : Nat} (ha : a < 2 ^ 31) (h0 : 0 < d) (hd : d < 2 ^ 31) : jv_rem (nI a) (nI d) = nI (a % d) := pk_rem ha h0 hd
def pb_ (f : Nat → Int64) (len : Nat) (b : Int64) : Nat → Int64 := vp_updL f (len / 8) (f (len / 8) ^^^ jl_shl (b &&& 255) (nI (8 * (len % 8))))
def bs_ (f : Nat → Int64) (len : Nat) (x : Int64) : Nat → Nat → Int64
  | 0 => f
  | k + 1 => pb_ (bs_ f len x k) (len + k) (jl_ushr x (nI (8 * k))).toInt32.toInt64
def rs_ (f : Nat → Int64) (len : Nat) (r : Nat → Int32) : Nat → Nat → Int64
  | 0 => f
  | k + 1 => pb_ (rs_ f len r k) (len + k) (r k).toInt64
set_option maxHeartbeats 4000000 in
theorem m_S_putByte {b : Int32} (hl : len < 200) : mm_ l y_S_putByte c_S_putByte 2 none (rm_ 0) D tc sz tk [.ref (sz + 4), .int b] hz 91 (sk_ tc sz w f g h len) hz 91 (fun v w1 => v = none ∧ w1 = sk_ tc sz w (pb_ f len b.toInt64) g h (len + 1)) := by
  refine mm_of (by decide) (Nat.le_of_ble_eq_true rfl) ?_
  intro p e s m args below meth c X hr hk hnm
  have h1 : nI len / nI 8 = nI (len / 8) := pk_div (by omega) (by decide) (by decide)
  have h2 : jv_rem (nI len) (nI 8) = nI (len % 8) := jr_ (by omega) (by decide) (by decide)
  have h3 : pm_ix (nI (len / 8)) 25 = some (len / 8) := pm_ix_nI (by omega) (by decide)
  refine pm_v_ok (cx_X X X_S) 27 _ _ _ _ (by simp -implicitDefEqProofs only [pv_0, pv_s, pd_iconst, pd_bipush, pd_sipush, pd_lconst_0, pd_lconst_1, pd_ldc, pd_ldc2, pd_iload_0, pd_iload_1, pd_iload_2, pd_iload_3, pd_iload, pd_lload_0, pd_lload_1, pd_lload_2, pd_lload_3, pd_lload, pd_aload_0, pd_aload_1, pd_aload_2, pd_aload_3, pd_aload, pd_istore_0, pd_istore_1, pd_istore_2, pd_istore_3, pd_istore, pd_lstore_0, pd_lstore_1, pd_lstore_2, pd_lstore_3, pd_lstore, pd_astore_0, pd_astore_1, pd_astore_2, pd_astore_3, pd_astore, pd_iinc, pd_iadd, pd_isub, pd_imul, pd_iand, pd_ior, pd_ixor, pd_ishl, pd_ishr, pd_iushr, pd_idiv, pd_irem, pd_ineg, pd_ladd, pd_lsub, pd_lmul, pd_land, pd_lor, pd_lxor, pd_lshl, pd_lushr, pd_lcmp, pd_i2l, pd_l2i, pd_dup_int, pd_pop_int, pd_dup_ref, pd_pop_ref, pd_dup_x1_ir, pd_dup_x1_ii, pd_dup2_ir, pd_dup2_ii, pd_goto, pd_if_eq, pd_if_ne, pd_if_lt, pd_if_ge, pd_if_gt, pd_if_le, pd_icmp_eq, pd_icmp_ne, pd_icmp_lt, pd_icmp_ge, pd_icmp_gt, pd_icmp_le, pd_iaload, pd_baload, pd_laload, pd_aaload, pd_iastore, pd_bastore, pd_lastore, pd_alen, pd_getfield, pd_putfield, ph_las, ph_len0, ph_len1, ph_len2, ph_gf, ph_pfi, ph_pfl, ph_pfz0, ph_pfz1, ph_nz0, ph_nz1, pm_cm1, pm_c0, pm_c1, pm_c2, pm_c3, pm_c4, pm_c5, pm_b6, pm_b7, pm_b8, pm_b9, pm_b10, pm_b11, pm_b12, pm_b14, pm_b15, pm_b16, pm_b20, pm_b24, pm_b25, pm_b28, pm_b31, pm_b32, pm_b48, pm_b56, pm_b60, pm_b63, pm_b64, pm_b67, pm_b68, pm_b89, pm_b90, pm_b95, pm_b100, pm_b120, pm_b127, pm_h128, pm_h150, pm_h168, pm_h255, pm_h256, pm_h360, pm_h369, pm_h450, pm_h4096, pm_h8192, pm_h32767, pm_h4643, pm_h13363, pm_h20579, pm_h25843, pm_h29227, pm_h31145, pm_h32103, pm_h32525, pm_h32689, pm_h32745, pm_h32762, pm_h32766, pm_o, pm_ldi, pm_ldl, pm_lda, pm_sti, pm_stl, pm_sta, pm_lk, pm_f1, pm_f2, Value.category, lv_args, Option.bind_some, Option.map_some, if_true, if_false, ite_true, ite_false, Nat.reduceAdd, Nat.reduceSub, Nat.reduceMul, Nat.reduceDiv, Nat.reduceMod, Nat.reduceLT, Nat.reduceLeDiff, Nat.reduceEqDiff, reduceIte, reduceCtorEq, Int.reduceNatCast, Int.reduceNatCast', Int.reduceAdd, Int.reduceLE, Int.reduceLT, Int.reduceToNat, Int.reduceNeg, Int.reduceSub, pm_at_add, Nat.add_sub_cancel_left, va_up_g, Int.ofNat_eq_natCast, List.getElem?_cons_zero, List.getElem?_cons_succ, List.set_cons_zero, List.set_cons_succ, List.length_cons, List.length_nil, Nat.zero_add, va_rf, nI_add, pk_mul, Int.toNat_natCast, pm_ix_nI, Option.toList_none, Option.toList_some, List.nil_append, List.cons_append, pq_ial, pq_lal, pq_aal0, pq_aal1, pq_ias, F_S, K_S, d_S_putByte_0, d_S_putByte_1, d_S_putByte_4, d_S_putByte_5, d_S_putByte_8, d_S_putByte_10, d_S_putByte_11, d_S_putByte_12, d_S_putByte_13, d_S_putByte_14, d_S_putByte_15, d_S_putByte_18, d_S_putByte_19, d_S_putByte_21, d_S_putByte_22, d_S_putByte_25, d_S_putByte_27, d_S_putByte_28, d_S_putByte_29, d_S_putByte_30, d_S_putByte_31, d_S_putByte_32, d_S_putByte_33, d_S_putByte_34, d_S_putByte_37, d_S_putByte_38, d_S_putByte_39, sk_4, sk_5, sk_6, sk_7, sk_u4, sk_u5, sk_u6, sk_u7, Nat.reducePow, h1, h2, h3, nz_8]; exact rfl) ?_
  exact mr_v X hr hk d_S_putByte_42 (Nat.le_refl _) (Nat.le_refl _) ⟨rfl, rfl⟩
set_option maxHeartbeats 4000000 in
theorem lp_S_putBytes (hN : N ≤ 8) (hl : len + N < 200) (X : cx_ p s m args c c_S_putBytes 5 R_S D tc sz tk) (he : pm_G p l e (rm_ 1) s m args below meth c Q D cl_ sz 5 hz 91 0 0 (sk_ tc sz w (bs_ f len x N) g h (len + N)) 27 [(4, .int (nI N)), (0, .ref (sz + 4)), (1, .long x), (3, .int (nI N))] []) : ∀ i j : Nat, j + i = N → pm_G p l e (rm_ 1) s m args below meth c Q D cl_ sz 5 hz 91 0 0 (sk_ tc sz w (bs_ f len x j) g h (len + j)) 3 [(4, .int (nI j)), (0, .ref (sz + 4)), (1, .long x), (3, .int (nI N))] [] := by
  intro i
  induction i with
  | zero =>
    intro j hj
    obtain rfl : j = N := by omega
    have h1 : (nI j ≤ nI j) = True := eq_true (nI_le (Nat.le_refl _) (by omega))
    refine pm_v_ok (cx_X X X_S) 3 _ _ _ _ (by simp -implicitDefEqProofs only [pv_0, pv_s, pd_iconst, pd_bipush, pd_sipush, pd_lconst_0, pd_lconst_1, pd_ldc, pd_ldc2, pd_iload_0, pd_iload_1, pd_iload_2, pd_iload_3, pd_iload, pd_lload_0, pd_lload_1, pd_lload_2, pd_lload_3, pd_lload, pd_aload_0, pd_aload_1, pd_aload_2, pd_aload_3, pd_aload, pd_istore_0, pd_istore_1, pd_istore_2, pd_istore_3, pd_istore, pd_lstore_0, pd_lstore_1, pd_lstore_2, pd_lstore_3, pd_lstore, pd_astore_0, pd_astore_1, pd_astore_2, pd_astore_3, pd_astore, pd_iinc, pd_iadd, pd_isub, pd_imul, pd_iand, pd_ior, pd_ixor, pd_ishl, pd_ishr, pd_iushr, pd_idiv, pd_irem, pd_ineg, pd_ladd, pd_lsub, pd_lmul, pd_land, pd_lor, pd_lxor, pd_lshl, pd_lushr, pd_lcmp, pd_i2l, pd_l2i, pd_dup_int, pd_pop_int, pd_dup_ref, pd_pop_ref, pd_dup_x1_ir, pd_dup_x1_ii, pd_dup2_ir, pd_dup2_ii, pd_goto, pd_if_eq, pd_if_ne, pd_if_lt, pd_if_ge, pd_if_gt, pd_if_le, pd_icmp_eq, pd_icmp_ne, pd_icmp_lt, pd_icmp_ge, pd_icmp_gt, pd_icmp_le, pd_iaload, pd_baload, pd_laload, pd_aaload, pd_iastore, pd_bastore, pd_lastore, pd_alen, pd_getfield, pd_putfield, ph_las, ph_len0, ph_len1, ph_len2, ph_gf, ph_pfi, ph_pfl, ph_pfz0, ph_pfz1, ph_nz0, ph_nz1, pm_cm1, pm_c0, pm_c1, pm_c2, pm_c3, pm_c4, pm_c5, pm_b6, pm_b7, pm_b8, pm_b9, pm_b10, pm_b11, pm_b12, pm_b14, pm_b15, pm_b16, pm_b20, pm_b24, pm_b25, pm_b28, pm_b31, pm_b32, pm_b48, pm_b56, pm_b60, pm_b63, pm_b64, pm_b67, pm_b68, pm_b89, pm_b90, pm_b95, pm_b100, pm_b120, pm_b127, pm_h128, pm_h150, pm_h168, pm_h255, pm_h256, pm_h360, pm_h369, pm_h450, pm_h4096, pm_h8192, pm_h32767, pm_h4643, pm_h13363, pm_h20579, pm_h25843, pm_h29227, pm_h31145, pm_h32103, pm_h32525, pm_h32689, pm_h32745, pm_h32762, pm_h32766, pm_o, pm_ldi, pm_ldl, pm_lda, pm_sti, pm_stl, pm_sta, pm_lk, pm_f1, pm_f2, Value.category, lv_args, Option.bind_some, Option.map_some, if_true, if_false, ite_true, ite_false, Nat.reduceAdd, Nat.reduceSub, Nat.reduceMul, Nat.reduceDiv, Nat.reduceMod, Nat.reduceLT, Nat.reduceLeDiff, Nat.reduceEqDiff, reduceIte, reduceCtorEq, Int.reduceNatCast, Int.reduceNatCast', Int.reduceAdd, Int.reduceLE, Int.reduceLT, Int.reduceToNat, Int.reduceNeg, Int.reduceSub, pm_at_add, Nat.add_sub_cancel_left, va_up_g, Int.ofNat_eq_natCast, List.getElem?_cons_zero, List.getElem?_cons_succ, List.set_cons_zero, List.set_cons_succ, List.length_cons, List.length_nil, Nat.zero_add, va_rf, nI_add, pk_mul, Int.toNat_natCast, pm_ix_nI, Option.toList_none, Option.toList_some, List.nil_append, List.cons_append, pq_ial, pq_lal, pq_aal0, pq_aal1, pq_ias, F_S, K_S, d_S_putBytes_3, d_S_putBytes_5, d_S_putBytes_6, h1]; exact rfl) ?_
    exact he
  | succ i ih =>
    intro j hj
    have h1 : (nI N ≤ nI j) = False := eq_false (nI_ge (by omega) (by omega))
    refine pm_v_ok (cx_X X X_S) 10 _ _ _ _ (by simp -implicitDefEqProofs only [pv_0, pv_s, pd_iconst, pd_bipush, pd_sipush, pd_lconst_0, pd_lconst_1, pd_ldc, pd_ldc2, pd_iload_0, pd_iload_1, pd_iload_2, pd_iload_3, pd_iload, pd_lload_0, pd_lload_1, pd_lload_2, pd_lload_3, pd_lload, pd_aload_0, pd_aload_1, pd_aload_2, pd_aload_3, pd_aload, pd_istore_0, pd_istore_1, pd_istore_2, pd_istore_3, pd_istore, pd_lstore_0, pd_lstore_1, pd_lstore_2, pd_lstore_3, pd_lstore, pd_astore_0, pd_astore_1, pd_astore_2, pd_astore_3, pd_astore, pd_iinc, pd_iadd, pd_isub, pd_imul, pd_iand, pd_ior, pd_ixor, pd_ishl, pd_ishr, pd_iushr, pd_idiv, pd_irem, pd_ineg, pd_ladd, pd_lsub, pd_lmul, pd_land, pd_lor, pd_lxor, pd_lshl, pd_lushr, pd_lcmp, pd_i2l, pd_l2i, pd_dup_int, pd_pop_int, pd_dup_ref, pd_pop_ref, pd_dup_x1_ir, pd_dup_x1_ii, pd_dup2_ir, pd_dup2_ii, pd_goto, pd_if_eq, pd_if_ne, pd_if_lt, pd_if_ge, pd_if_gt, pd_if_le, pd_icmp_eq, pd_icmp_ne, pd_icmp_lt, pd_icmp_ge, pd_icmp_gt, pd_icmp_le, pd_iaload, pd_baload, pd_laload, pd_aaload, pd_iastore, pd_bastore, pd_lastore, pd_alen, pd_getfield, pd_putfield, ph_las, ph_len0, ph_len1, ph_len2, ph_gf, ph_pfi, ph_pfl, ph_pfz0, ph_pfz1, ph_nz0, ph_nz1, pm_cm1, pm_c0, pm_c1, pm_c2, pm_c3, pm_c4, pm_c5, pm_b6, pm_b7, pm_b8, pm_b9, pm_b10, pm_b11, pm_b12, pm_b14, pm_b15, pm_b16, pm_b20, pm_b24, pm_b25, pm_b28, pm_b31, pm_b32, pm_b48, pm_b56, pm_b60, pm_b63, pm_b64, pm_b67, pm_b68, pm_b89, pm_b90, pm_b95, pm_b100, pm_b120, pm_b127, pm_h128, pm_h150, pm_h168, pm_h255, pm_h256, pm_h360, pm_h369, pm_h450, pm_h4096, pm_h8192, pm_h32767, pm_h4643, pm_h13363, pm_h20579, pm_h25843, pm_h29227, pm_h31145, pm_h32103, pm_h32525, pm_h32689, pm_h32745, pm_h32762, pm_h32766, pm_o, pm_ldi, pm_ldl, pm_lda, pm_sti, pm_stl, pm_sta, pm_lk, pm_f1, pm_f2, Value.category, lv_args, Option.bind_some, Option.map_some, if_true, if_false, ite_true, ite_false, Nat.reduceAdd, Nat.reduceSub, Nat.reduceMul, Nat.reduceDiv, Nat.reduceMod, Nat.reduceLT, Nat.reduceLeDiff, Nat.reduceEqDiff, reduceIte, reduceCtorEq, Int.reduceNatCast, Int.reduceNatCast', Int.reduceAdd, Int.reduceLE, Int.reduceLT, Int.reduceToNat, Int.reduceNeg, Int.reduceSub, pm_at_add, Nat.add_sub_cancel_left, va_up_g, Int.ofNat_eq_natCast, List.getElem?_cons_zero, List.getElem?_cons_succ, List.set_cons_zero, List.set_cons_succ, List.length_cons, List.length_nil, Nat.zero_add, va_rf, nI_add, pk_mul, Int.toNat_natCast, pm_ix_nI, Option.toList_none, Option.toList_some, List.nil_append, List.cons_append, pq_ial, pq_lal, pq_aal0, pq_aal1, pq_ias, F_S, K_S, d_S_putBytes_3, d_S_putBytes_5, d_S_putBytes_6, d_S_putBytes_9, d_S_putBytes_10, d_S_putBytes_11, d_S_putBytes_13, d_S_putBytes_15, d_S_putBytes_16, d_S_putBytes_17, h1]; exact rfl) ?_
    refine mm_V X (m_S_putByte (by omega)) b_S_putByte l_S_33 (by decide) sk_4 rfl rfl rfl (Nat.le_of_ble_eq_true rfl) d_S_putBytes_18 (by decide) (by decide) (fun v w1 hq => ?_)
    obtain ⟨rfl, rfl⟩ := hq
    refine pm_v_ok (cx_X X X_S) 2 _ _ _ _ (by simp -implicitDefEqProofs only [pv_0, pv_s, pd_iconst, pd_bipush, pd_sipush, pd_lconst_0, pd_lconst_1, pd_ldc, pd_ldc2, pd_iload_0, pd_iload_1, pd_iload_2, pd_iload_3, pd_iload, pd_lload_0, pd_lload_1, pd_lload_2, pd_lload_3, pd_lload, pd_aload_0, pd_aload_1, pd_aload_2, pd_aload_3, pd_aload, pd_istore_0, pd_istore_1, pd_istore_2, pd_istore_3, pd_istore, pd_lstore_0, pd_lstore_1, pd_lstore_2, pd_lstore_3, pd_lstore, pd_astore_0, pd_astore_1, pd_astore_2, pd_astore_3, pd_astore, pd_iinc, pd_iadd, pd_isub, pd_imul, pd_iand, pd_ior, pd_ixor, pd_ishl, pd_ishr, pd_iushr, pd_idiv, pd_irem, pd_ineg, pd_ladd, pd_lsub, pd_lmul, pd_land, pd_lor, pd_lxor, pd_lshl, pd_lushr, pd_lcmp, pd_i2l, pd_l2i, pd_dup_int, pd_pop_int, pd_dup_ref, pd_pop_ref, pd_dup_x1_ir, pd_dup_x1_ii, pd_dup2_ir, pd_dup2_ii, pd_goto, pd_if_eq, pd_if_ne, pd_if_lt, pd_if_ge, pd_if_gt, pd_if_le, pd_icmp_eq, pd_icmp_ne, pd_icmp_lt, pd_icmp_ge, pd_icmp_gt, pd_icmp_le, pd_iaload, pd_baload, pd_laload, pd_aaload, pd_iastore, pd_bastore, pd_lastore, pd_alen, pd_getfield, pd_putfield, ph_las, ph_len0, ph_len1, ph_len2, ph_gf, ph_pfi, ph_pfl, ph_pfz0, ph_pfz1, ph_nz0, ph_nz1, pm_cm1, pm_c0, pm_c1, pm_c2, pm_c3, pm_c4, pm_c5, pm_b6, pm_b7, pm_b8, pm_b9, pm_b10, pm_b11, pm_b12, pm_b14, pm_b15, pm_b16, pm_b20, pm_b24, pm_b25, pm_b28, pm_b31, pm_b32, pm_b48, pm_b56, pm_b60, pm_b63, pm_b64, pm_b67, pm_b68, pm_b89, pm_b90, pm_b95, pm_b100, pm_b120, pm_b127, pm_h128, pm_h150, pm_h168, pm_h255, pm_h256, pm_h360, pm_h369, pm_h450, pm_h4096, pm_h8192, pm_h32767, pm_h4643, pm_h13363, pm_h20579, pm_h25843, pm_h29227, pm_h31145, pm_h32103, pm_h32525, pm_h32689, pm_h32745, pm_h32762, pm_h32766, pm_o, pm_ldi, pm_ldl, pm_lda, pm_sti, pm_stl, pm_sta, pm_lk, pm_f1, pm_f2, Value.category, lv_args, Option.bind_some, Option.map_some, if_true, if_false, ite_true, ite_false, Nat.reduceAdd, Nat.reduceSub, Nat.reduceMul, Nat.reduceDiv, Nat.reduceMod, Nat.reduceLT, Nat.reduceLeDiff, Nat.reduceEqDiff, reduceIte, reduceCtorEq, Int.reduceNatCast, Int.reduceNatCast', Int.reduceAdd, Int.reduceLE, Int.reduceLT, Int.reduceToNat, Int.reduceNeg, Int.reduceSub, pm_at_add, Nat.add_sub_cancel_left, va_up_g, Int.ofNat_eq_natCast, List.getElem?_cons_zero, List.getElem?_cons_succ, List.set_cons_zero, List.set_cons_succ, List.length_cons, List.length_nil, Nat.zero_add, va_rf, nI_add, pk_mul, Int.toNat_natCast, pm_ix_nI, Option.toList_none, Option.toList_some, List.nil_append, List.cons_append, pq_ial, pq_lal, pq_aal0, pq_aal1, pq_ias, F_S, K_S, d_S_putBytes_21, d_S_putBytes_24]; exact rfl) ?_
    exact ih (j + 1) (by omega)
set_option maxHeartbeats 4000000 in
theorem m_S_putBytes (hN : N ≤ 8) (hl : len + N < 200) : mm_ l y_S_putBytes c_S_putBytes 5 none (rm_ 1) D tc sz tk [.ref (sz + 4), .long x, .int (nI N)] hz 91 (sk_ tc sz w f g h len) hz 91 (fun v w1 => v = none ∧ w1 = sk_ tc sz w (bs_ f len x N) g h (len + N)) := by
  refine mm_of (by decide) (Nat.le_of_ble_eq_true rfl) ?_
  intro p e s m args below meth c X hr hk hnm
  refine pm_v_ok (cx_X X X_S) 2 _ _ _ _ (by simp -implicitDefEqProofs only [pv_0, pv_s, pd_iconst, pd_bipush, pd_sipush, pd_lconst_0, pd_lconst_1, pd_ldc, pd_ldc2, pd_iload_0, pd_iload_1, pd_iload_2, pd_iload_3, pd_iload, pd_lload_0, pd_lload_1, pd_lload_2, pd_lload_3, pd_lload, pd_aload_0, pd_aload_1, pd_aload_2, pd_aload_3, pd_aload, pd_istore_0, pd_istore_1, pd_istore_2, pd_istore_3, pd_istore, pd_lstore_0, pd_lstore_1, pd_lstore_2, pd_lstore_3, pd_lstore, pd_astore_0, pd_astore_1, pd_astore_2, pd_astore_3, pd_astore, pd_iinc, pd_iadd, pd_isub, pd_imul, pd_iand, pd_ior, pd_ixor, pd_ishl, pd_ishr, pd_iushr, pd_idiv, pd_irem, pd_ineg, pd_ladd, pd_lsub, pd_lmul, pd_land, pd_lor, pd_lxor, pd_lshl, pd_lushr, pd_lcmp, pd_i2l, pd_l2i, pd_dup_int, pd_pop_int, pd_dup_ref, pd_pop_ref, pd_dup_x1_ir, pd_dup_x1_ii, pd_dup2_ir, pd_dup2_ii, pd_goto, pd_if_eq, pd_if_ne, pd_if_lt, pd_if_ge, pd_if_gt, pd_if_le, pd_icmp_eq, pd_icmp_ne, pd_icmp_lt, pd_icmp_ge, pd_icmp_gt, pd_icmp_le, pd_iaload, pd_baload, pd_laload, pd_aaload, pd_iastore, pd_bastore, pd_lastore, pd_alen, pd_getfield, pd_putfield, ph_las, ph_len0, ph_len1, ph_len2, ph_gf, ph_pfi, ph_pfl, ph_pfz0, ph_pfz1, ph_nz0, ph_nz1, pm_cm1, pm_c0, pm_c1, pm_c2, pm_c3, pm_c4, pm_c5, pm_b6, pm_b7, pm_b8, pm_b9, pm_b10, pm_b11, pm_b12, pm_b14, pm_b15, pm_b16, pm_b20, pm_b24, pm_b25, pm_b28, pm_b31, pm_b32, pm_b48, pm_b56, pm_b60, pm_b63, pm_b64, pm_b67, pm_b68, pm_b89, pm_b90, pm_b95, pm_b100, pm_b120, pm_b127, pm_h128, pm_h150, pm_h168, pm_h255, pm_h256, pm_h360, pm_h369, pm_h450, pm_h4096, pm_h8192, pm_h32767, pm_h4643, pm_h13363, pm_h20579, pm_h25843, pm_h29227, pm_h31145, pm_h32103, pm_h32525, pm_h32689, pm_h32745, pm_h32762, pm_h32766, pm_o, pm_ldi, pm_ldl, pm_lda, pm_sti, pm_stl, pm_sta, pm_lk, pm_f1, pm_f2, Value.category, lv_args, Option.bind_some, Option.map_some, if_true, if_false, ite_true, ite_false, Nat.reduceAdd, Nat.reduceSub, Nat.reduceMul, Nat.reduceDiv, Nat.reduceMod, Nat.reduceLT, Nat.reduceLeDiff, Nat.reduceEqDiff, reduceIte, reduceCtorEq, Int.reduceNatCast, Int.reduceNatCast', Int.reduceAdd, Int.reduceLE, Int.reduceLT, Int.reduceToNat, Int.reduceNeg, Int.reduceSub, pm_at_add, Nat.add_sub_cancel_left, va_up_g, Int.ofNat_eq_natCast, List.getElem?_cons_zero, List.getElem?_cons_succ, List.set_cons_zero, List.set_cons_succ, List.length_cons, List.length_nil, Nat.zero_add, va_rf, nI_add, pk_mul, Int.toNat_natCast, pm_ix_nI, Option.toList_none, Option.toList_some, List.nil_append, List.cons_append, pq_ial, pq_lal, pq_aal0, pq_aal1, pq_ias, F_S, K_S, d_S_putBytes_0, d_S_putBytes_1]; exact rfl) ?_
  refine pm_G.sub (by simp) (lp_S_putBytes (f := f) (len := len) (x := x) (N := N) (g := g) (h := h) (w := w) hN hl X ?_ N 0 (by omega))
  exact mr_v X hr hk d_S_putBytes_27 (Nat.le_refl _) (Nat.le_refl _) ⟨rfl, rfl⟩
set_option maxHeartbeats 4000000 in
theorem lp_S_putRow (hk : k < 91) (h8 : 8 ≤ k) (hw : w k = .inl (tc 0, N, .inl r)) (hl : len + N < 200) (X : cx_ p s m args c c_S_putRow 3 R_S D tc sz tk) (he : pm_G p l e (rm_ 1) s m args below meth c Q D cl_ sz 3 hz 91 0 0 (sk_ tc sz w (rs_ f len r N) g h (len + N)) 21 [(2, .int (nI N)), (0, .ref (sz + 4)), (1, .ref (sz + k))] []) : ∀ i j : Nat, j + i = N → pm_G p l e (rm_ 1) s m args below meth c Q D cl_ sz 3 hz 91 0 0 (sk_ tc sz w (rs_ f len r j) g h (len + j)) 2 [(2, .int (nI j)), (0, .ref (sz + 4)), (1, .ref (sz + k))] [] := by
  intro i
  induction i with
  | zero =>
    intro j hj
    obtain rfl : j = N := by omega
    have h1 : (nI j ≤ nI j) = True := eq_true (nI_le (Nat.le_refl _) (by omega))
    have h3 : pm_at sz 91 (sk_ tc sz w (rs_ f len r j) g h (len + j)) (sz + k) = some (.inl (tc 0, j, .inl r)) := by
      rw [pm_at_add hk, sk_o (by omega) (by omega) (by omega) (by omega), hw]
    refine pm_v_ok (cx_X X X_S) 4 _ _ _ _ (by simp -implicitDefEqProofs only [pv_0, pv_s, pd_iconst, pd_bipush, pd_sipush, pd_lconst_0, pd_lconst_1, pd_ldc, pd_ldc2, pd_iload_0, pd_iload_1, pd_iload_2, pd_iload_3, pd_iload, pd_lload_0, pd_lload_1, pd_lload_2, pd_lload_3, pd_lload, pd_aload_0, pd_aload_1, pd_aload_2, pd_aload_3, pd_aload, pd_istore_0, pd_istore_1, pd_istore_2, pd_istore_3, pd_istore, pd_lstore_0, pd_lstore_1, pd_lstore_2, pd_lstore_3, pd_lstore, pd_astore_0, pd_astore_1, pd_astore_2, pd_astore_3, pd_astore, pd_iinc, pd_iadd, pd_isub, pd_imul, pd_iand, pd_ior, pd_ixor, pd_ishl, pd_ishr, pd_iushr, pd_idiv, pd_irem, pd_ineg, pd_ladd, pd_lsub, pd_lmul, pd_land, pd_lor, pd_lxor, pd_lshl, pd_lushr, pd_lcmp, pd_i2l, pd_l2i, pd_dup_int, pd_pop_int, pd_dup_ref, pd_pop_ref, pd_dup_x1_ir, pd_dup_x1_ii, pd_dup2_ir, pd_dup2_ii, pd_goto, pd_if_eq, pd_if_ne, pd_if_lt, pd_if_ge, pd_if_gt, pd_if_le, pd_icmp_eq, pd_icmp_ne, pd_icmp_lt, pd_icmp_ge, pd_icmp_gt, pd_icmp_le, pd_iaload, pd_baload, pd_laload, pd_aaload, pd_iastore, pd_bastore, pd_lastore, pd_alen, pd_getfield, pd_putfield, ph_las, ph_len0, ph_len1, ph_len2, ph_gf, ph_pfi, ph_pfl, ph_pfz0, ph_pfz1, ph_nz0, ph_nz1, pm_cm1, pm_c0, pm_c1, pm_c2, pm_c3, pm_c4, pm_c5, pm_b6, pm_b7, pm_b8, pm_b9, pm_b10, pm_b11, pm_b12, pm_b14, pm_b15, pm_b16, pm_b20, pm_b24, pm_b25, pm_b28, pm_b31, pm_b32, pm_b48, pm_b56, pm_b60, pm_b63, pm_b64, pm_b67, pm_b68, pm_b89, pm_b90, pm_b95, pm_b100, pm_b120, pm_b127, pm_h128, pm_h150, pm_h168, pm_h255, pm_h256, pm_h360, pm_h369, pm_h450, pm_h4096, pm_h8192, pm_h32767, pm_h4643, pm_h13363, pm_h20579, pm_h25843, pm_h29227, pm_h31145, pm_h32103, pm_h32525, pm_h32689, pm_h32745, pm_h32762, pm_h32766, pm_o, pm_ldi, pm_ldl, pm_lda, pm_sti, pm_stl, pm_sta, pm_lk, pm_f1, pm_f2, Value.category, lv_args, Option.bind_some, Option.map_some, if_true, if_false, ite_true, ite_false, Nat.reduceAdd, Nat.reduceSub, Nat.reduceMul, Nat.reduceDiv, Nat.reduceMod, Nat.reduceLT, Nat.reduceLeDiff, Nat.reduceEqDiff, reduceIte, reduceCtorEq, Int.reduceNatCast, Int.reduceNatCast', Int.reduceAdd, Int.reduceLE, Int.reduceLT, Int.reduceToNat, Int.reduceNeg, Int.reduceSub, Nat.add_sub_cancel_left, va_up_g, Int.ofNat_eq_natCast, List.getElem?_cons_zero, List.getElem?_cons_succ, List.set_cons_zero, List.set_cons_succ, List.length_cons, List.length_nil, Nat.zero_add, va_rf, nI_add, pk_mul, Int.toNat_natCast, pm_ix_nI, Option.toList_none, Option.toList_some, List.nil_append, List.cons_append, pq_ial, pq_lal, pq_aal0, pq_aal1, pq_ias, F_S, K_S, d_S_putRow_2, d_S_putRow_3, d_S_putRow_4, d_S_putRow_5, h1, h3]; exact rfl) ?_
    exact he
  | succ i ih =>
    intro j hj
    have h1 : (nI N ≤ nI j) = False := eq_false (nI_ge (by omega) (by omega))
    have h2 : pm_ix (nI j) N = some j := pm_ix_nI (by omega) (by omega)
    have h3 : pm_at sz 91 (sk_ tc sz w (rs_ f len r j) g h (len + j)) (sz + k) = some (.inl (tc 0, N, .inl r)) := by
      rw [pm_at_add hk, sk_o (by omega) (by omega) (by omega) (by omega), hw]
    refine pm_v_ok (cx_X X X_S) 8 _ _ _ _ (by simp -implicitDefEqProofs only [pv_0, pv_s, pd_iconst, pd_bipush, pd_sipush, pd_lconst_0, pd_lconst_1, pd_ldc, pd_ldc2, pd_iload_0, pd_iload_1, pd_iload_2, pd_iload_3, pd_iload, pd_lload_0, pd_lload_1, pd_lload_2, pd_lload_3, pd_lload, pd_aload_0, pd_aload_1, pd_aload_2, pd_aload_3, pd_aload, pd_istore_0, pd_istore_1, pd_istore_2, pd_istore_3, pd_istore, pd_lstore_0, pd_lstore_1, pd_lstore_2, pd_lstore_3, pd_lstore, pd_astore_0, pd_astore_1, pd_astore_2, pd_astore_3, pd_astore, pd_iinc, pd_iadd, pd_isub, pd_imul, pd_iand, pd_ior, pd_ixor, pd_ishl, pd_ishr, pd_iushr, pd_idiv, pd_irem, pd_ineg, pd_ladd, pd_lsub, pd_lmul, pd_land, pd_lor, pd_lxor, pd_lshl, pd_lushr, pd_lcmp, pd_i2l, pd_l2i, pd_dup_int, pd_pop_int, pd_dup_ref, pd_pop_ref, pd_dup_x1_ir, pd_dup_x1_ii, pd_dup2_ir, pd_dup2_ii, pd_goto, pd_if_eq, pd_if_ne, pd_if_lt, pd_if_ge, pd_if_gt, pd_if_le, pd_icmp_eq, pd_icmp_ne, pd_icmp_lt, pd_icmp_ge, pd_icmp_gt, pd_icmp_le, pd_iaload, pd_baload, pd_laload, pd_aaload, pd_iastore, pd_bastore, pd_lastore, pd_alen, pd_getfield, pd_putfield, ph_las, ph_len0, ph_len1, ph_len2, ph_gf, ph_pfi, ph_pfl, ph_pfz0, ph_pfz1, ph_nz0, ph_nz1, pm_cm1, pm_c0, pm_c1, pm_c2, pm_c3, pm_c4, pm_c5, pm_b6, pm_b7, pm_b8, pm_b9, pm_b10, pm_b11, pm_b12, pm_b14, pm_b15, pm_b16, pm_b20, pm_b24, pm_b25, pm_b28, pm_b31, pm_b32, pm_b48, pm_b56, pm_b60, pm_b63, pm_b64, pm_b67, pm_b68, pm_b89, pm_b90, pm_b95, pm_b100, pm_b120, pm_b127, pm_h128, pm_h150, pm_h168, pm_h255, pm_h256, pm_h360, pm_h369, pm_h450, pm_h4096, pm_h8192, pm_h32767, pm_h4643, pm_h13363, pm_h20579, pm_h25843, pm_h29227, pm_h31145, pm_h32103, pm_h32525, pm_h32689, pm_h32745, pm_h32762, pm_h32766, pm_o, pm_ldi, pm_ldl, pm_lda, pm_sti, pm_stl, pm_sta, pm_lk, pm_f1, pm_f2, Value.category, lv_args, Option.bind_some, Option.map_some, if_true, if_false, ite_true, ite_false, Nat.reduceAdd, Nat.reduceSub, Nat.reduceMul, Nat.reduceDiv, Nat.reduceMod, Nat.reduceLT, Nat.reduceLeDiff, Nat.reduceEqDiff, reduceIte, reduceCtorEq, Int.reduceNatCast, Int.reduceNatCast', Int.reduceAdd, Int.reduceLE, Int.reduceLT, Int.reduceToNat, Int.reduceNeg, Int.reduceSub, Nat.add_sub_cancel_left, va_up_g, Int.ofNat_eq_natCast, List.getElem?_cons_zero, List.getElem?_cons_succ, List.set_cons_zero, List.set_cons_succ, List.length_cons, List.length_nil, Nat.zero_add, va_rf, nI_add, pk_mul, Int.toNat_natCast, pm_ix_nI, Option.toList_none, Option.toList_some, List.nil_append, List.cons_append, pq_ial, pq_lal, pq_aal0, pq_aal1, pq_ias, F_S, K_S, d_S_putRow_2, d_S_putRow_3, d_S_putRow_4, d_S_putRow_5, d_S_putRow_8, d_S_putRow_9, d_S_putRow_10, d_S_putRow_11, h1, h2, h3]; exact rfl) ?_
    refine mm_V X (m_S_putByte (by omega)) b_S_putByte l_S_33 (by decide) sk_4 rfl rfl rfl (Nat.le_of_ble_eq_true rfl) d_S_putRow_12 (by decide) (by decide) (fun v w1 hq => ?_)
    obtain ⟨rfl, rfl⟩ := hq
    refine pm_v_ok (cx_X X X_S) 2 _ _ _ _ (by simp -implicitDefEqProofs only [pv_0, pv_s, pd_iconst, pd_bipush, pd_sipush, pd_lconst_0, pd_lconst_1, pd_ldc, pd_ldc2, pd_iload_0, pd_iload_1, pd_iload_2, pd_iload_3, pd_iload, pd_lload_0, pd_lload_1, pd_lload_2, pd_lload_3, pd_lload, pd_aload_0, pd_aload_1, pd_aload_2, pd_aload_3, pd_aload, pd_istore_0, pd_istore_1, pd_istore_2, pd_istore_3, pd_istore, pd_lstore_0, pd_lstore_1, pd_lstore_2, pd_lstore_3, pd_lstore, pd_astore_0, pd_astore_1, pd_astore_2, pd_astore_3, pd_astore, pd_iinc, pd_iadd, pd_isub, pd_imul, pd_iand, pd_ior, pd_ixor, pd_ishl, pd_ishr, pd_iushr, pd_idiv, pd_irem, pd_ineg, pd_ladd, pd_lsub, pd_lmul, pd_land, pd_lor, pd_lxor, pd_lshl, pd_lushr, pd_lcmp, pd_i2l, pd_l2i, pd_dup_int, pd_pop_int, pd_dup_ref, pd_pop_ref, pd_dup_x1_ir, pd_dup_x1_ii, pd_dup2_ir, pd_dup2_ii, pd_goto, pd_if_eq, pd_if_ne, pd_if_lt, pd_if_ge, pd_if_gt, pd_if_le, pd_icmp_eq, pd_icmp_ne, pd_icmp_lt, pd_icmp_ge, pd_icmp_gt, pd_icmp_le, pd_iaload, pd_baload, pd_laload, pd_aaload, pd_iastore, pd_bastore, pd_lastore, pd_alen, pd_getfield, pd_putfield, ph_las, ph_len0, ph_len1, ph_len2, ph_gf, ph_pfi, ph_pfl, ph_pfz0, ph_pfz1, ph_nz0, ph_nz1, pm_cm1, pm_c0, pm_c1, pm_c2, pm_c3, pm_c4, pm_c5, pm_b6, pm_b7, pm_b8, pm_b9, pm_b10, pm_b11, pm_b12, pm_b14, pm_b15, pm_b16, pm_b20, pm_b24, pm_b25, pm_b28, pm_b31, pm_b32, pm_b48, pm_b56, pm_b60, pm_b63, pm_b64, pm_b67, pm_b68, pm_b89, pm_b90, pm_b95, pm_b100, pm_b120, pm_b127, pm_h128, pm_h150, pm_h168, pm_h255, pm_h256, pm_h360, pm_h369, pm_h450, pm_h4096, pm_h8192, pm_h32767, pm_h4643, pm_h13363, pm_h20579, pm_h25843, pm_h29227, pm_h31145, pm_h32103, pm_h32525, pm_h32689, pm_h32745, pm_h32762, pm_h32766, pm_o, pm_ldi, pm_ldl, pm_lda, pm_sti, pm_stl, pm_sta, pm_lk, pm_f1, pm_f2, Value.category, lv_args, Option.bind_some, Option.map_some, if_true, if_false, ite_true, ite_false, Nat.reduceAdd, Nat.reduceSub, Nat.reduceMul, Nat.reduceDiv, Nat.reduceMod, Nat.reduceLT, Nat.reduceLeDiff, Nat.reduceEqDiff, reduceIte, reduceCtorEq, Int.reduceNatCast, Int.reduceNatCast', Int.reduceAdd, Int.reduceLE, Int.reduceLT, Int.reduceToNat, Int.reduceNeg, Int.reduceSub, pm_at_add, Nat.add_sub_cancel_left, va_up_g, Int.ofNat_eq_natCast, List.getElem?_cons_zero, List.getElem?_cons_succ, List.set_cons_zero, List.set_cons_succ, List.length_cons, List.length_nil, Nat.zero_add, va_rf, nI_add, pk_mul, Int.toNat_natCast, pm_ix_nI, Option.toList_none, Option.toList_some, List.nil_append, List.cons_append, pq_ial, pq_lal, pq_aal0, pq_aal1, pq_ias, F_S, K_S, d_S_putRow_15, d_S_putRow_18]; exact rfl) ?_
    exact ih (j + 1) (by omega)
set_option maxHeartbeats 4000000 in
theorem m_S_putRow (hk : k < 91) (h8 : 8 ≤ k) (hw : w k = .inl (tc 0, N, .inl r)) (hl : len + N < 200) : mm_ l y_S_putRow c_S_putRow 3 none (rm_ 1) D tc sz tk [.ref (sz + 4), .ref (sz + k)] hz 91 (sk_ tc sz w f g h len) hz 91 (fun v w1 => v = none ∧ w1 = sk_ tc sz w (rs_ f len r N) g h (len + N)) := by
  refine mm_of (by decide) (Nat.le_of_ble_eq_true rfl) ?_
  intro p e s m args below meth c X hr hlk hnm
  refine pm_v_ok (cx_X X X_S) 2 _ _ _ _ (by simp -implicitDefEqProofs only [pv_0, pv_s, pd_iconst, pd_bipush, pd_sipush, pd_lconst_0, pd_lconst_1, pd_ldc, pd_ldc2, pd_iload_0, pd_iload_1, pd_iload_2, pd_iload_3, pd_iload, pd_lload_0, pd_lload_1, pd_lload_2, pd_lload_3, pd_lload, pd_aload_0, pd_aload_1, pd_aload_2, pd_aload_3, pd_aload, pd_istore_0, pd_istore_1, pd_istore_2, pd_istore_3, pd_istore, pd_lstore_0, pd_lstore_1, pd_lstore_2, pd_lstore_3, pd_lstore, pd_astore_0, pd_astore_1, pd_astore_2, pd_astore_3, pd_astore, pd_iinc, pd_iadd, pd_isub, pd_imul, pd_iand, pd_ior, pd_ixor, pd_ishl, pd_ishr, pd_iushr, pd_idiv, pd_irem, pd_ineg, pd_ladd, pd_lsub, pd_lmul, pd_land, pd_lor, pd_lxor, pd_lshl, pd_lushr, pd_lcmp, pd_i2l, pd_l2i, pd_dup_int, pd_pop_int, pd_dup_ref, pd_pop_ref, pd_dup_x1_ir, pd_dup_x1_ii, pd_dup2_ir, pd_dup2_ii, pd_goto, pd_if_eq, pd_if_ne, pd_if_lt, pd_if_ge, pd_if_gt, pd_if_le, pd_icmp_eq, pd_icmp_ne, pd_icmp_lt, pd_icmp_ge, pd_icmp_gt, pd_icmp_le, pd_iaload, pd_baload, pd_laload, pd_aaload, pd_iastore, pd_bastore, pd_lastore, pd_alen, pd_getfield, pd_putfield, ph_las, ph_len0, ph_len1, ph_len2, ph_gf, ph_pfi, ph_pfl, ph_pfz0, ph_pfz1, ph_nz0, ph_nz1, pm_cm1, pm_c0, pm_c1, pm_c2, pm_c3, pm_c4, pm_c5, pm_b6, pm_b7, pm_b8, pm_b9, pm_b10, pm_b11, pm_b12, pm_b14, pm_b15, pm_b16, pm_b20, pm_b24, pm_b25, pm_b28, pm_b31, pm_b32, pm_b48, pm_b56, pm_b60, pm_b63, pm_b64, pm_b67, pm_b68, pm_b89, pm_b90, pm_b95, pm_b100, pm_b120, pm_b127, pm_h128, pm_h150, pm_h168, pm_h255, pm_h256, pm_h360, pm_h369, pm_h450, pm_h4096, pm_h8192, pm_h32767, pm_h4643, pm_h13363, pm_h20579, pm_h25843, pm_h29227, pm_h31145, pm_h32103, pm_h32525, pm_h32689, pm_h32745, pm_h32762, pm_h32766, pm_o, pm_ldi, pm_ldl, pm_lda, pm_sti, pm_stl, pm_sta, pm_lk, pm_f1, pm_f2, Value.category, lv_args, Option.bind_some, Option.map_some, if_true, if_false, ite_true, ite_false, Nat.reduceAdd, Nat.reduceSub, Nat.reduceMul, Nat.reduceDiv, Nat.reduceMod, Nat.reduceLT, Nat.reduceLeDiff, Nat.reduceEqDiff, reduceIte, reduceCtorEq, Int.reduceNatCast, Int.reduceNatCast', Int.reduceAdd, Int.reduceLE, Int.reduceLT, Int.reduceToNat, Int.reduceNeg, Int.reduceSub, pm_at_add, Nat.add_sub_cancel_left, va_up_g, Int.ofNat_eq_natCast, List.getElem?_cons_zero, List.getElem?_cons_succ, List.set_cons_zero, List.set_cons_succ, List.length_cons, List.length_nil, Nat.zero_add, va_rf, nI_add, pk_mul, Int.toNat_natCast, pm_ix_nI, Option.toList_none, Option.toList_some, List.nil_append, List.cons_append, pq_ial, pq_lal, pq_aal0, pq_aal1, pq_ias, F_S, K_S, d_S_putRow_0, d_S_putRow_1]; exact rfl) ?_
  refine pm_G.sub (by simp) (lp_S_putRow (f := f) (len := len) (k := k) (N := N) (g := g) (h := h) (w := w) hk h8 hw hl X ?_ N 0 (by omega))
  exact mr_v X hr hlk d_S_putRow_21 (Nat.le_refl _) (Nat.le_refl _) ⟨rfl, rfl⟩
set_option maxHeartbeats 4000000 in
theorem m_S_longAt (hj : j < 25) : mm_ l y_S_longAt c_S_longAt 2 (some .long) (rm_ 0) D tc sz tk [.ref (sz + 4), .int (nI j)] hz 91 (sk_ tc sz w f g h len) hz 91 (fun v w1 => v = some (.long (f j)) ∧ w1 = sk_ tc sz w f g h len) := by
  refine mm_of (by decide) (Nat.le_of_ble_eq_true rfl) ?_
  intro p e s m args below meth c X hr hk hnm
  have h3 : pm_ix (nI j) 25 = some j := pm_ix_nI hj (by decide)
  refine pm_v_ok (cx_X X X_S) 4 _ _ _ _ (by simp -implicitDefEqProofs only [pv_0, pv_s, pd_iconst, pd_bipush, pd_sipush, pd_lconst_0, pd_lconst_1, pd_ldc, pd_ldc2, pd_iload_0, pd_iload_1, pd_iload_2, pd_iload_3, pd_iload, pd_lload_0, pd_lload_1, pd_lload_2, pd_lload_3, pd_lload, pd_aload_0, pd_aload_1, pd_aload_2, pd_aload_3, pd_aload, pd_istore_0, pd_istore_1, pd_istore_2, pd_istore_3, pd_istore, pd_lstore_0, pd_lstore_1, pd_lstore_2, pd_lstore_3, pd_lstore, pd_astore_0, pd_astore_1, pd_astore_2, pd_astore_3, pd_astore, pd_iinc, pd_iadd, pd_isub, pd_imul, pd_iand, pd_ior, pd_ixor, pd_ishl, pd_ishr, pd_iushr, pd_idiv, pd_irem, pd_ineg, pd_ladd, pd_lsub, pd_lmul, pd_land, pd_lor, pd_lxor, pd_lshl, pd_lushr, pd_lcmp, pd_i2l, pd_l2i, pd_dup_int, pd_pop_int, pd_dup_ref, pd_pop_ref, pd_dup_x1_ir, pd_dup_x1_ii, pd_dup2_ir, pd_dup2_ii, pd_goto, pd_if_eq, pd_if_ne, pd_if_lt, pd_if_ge, pd_if_gt, pd_if_le, pd_icmp_eq, pd_icmp_ne, pd_icmp_lt, pd_icmp_ge, pd_icmp_gt, pd_icmp_le, pd_iaload, pd_baload, pd_laload, pd_aaload, pd_iastore, pd_bastore, pd_lastore, pd_alen, pd_getfield, pd_putfield, ph_las, ph_len0, ph_len1, ph_len2, ph_gf, ph_pfi, ph_pfl, ph_pfz0, ph_pfz1, ph_nz0, ph_nz1, pm_cm1, pm_c0, pm_c1, pm_c2, pm_c3, pm_c4, pm_c5, pm_b6, pm_b7, pm_b8, pm_b9, pm_b10, pm_b11, pm_b12, pm_b14, pm_b15, pm_b16, pm_b20, pm_b24, pm_b25, pm_b28, pm_b31, pm_b32, pm_b48, pm_b56, pm_b60, pm_b63, pm_b64, pm_b67, pm_b68, pm_b89, pm_b90, pm_b95, pm_b100, pm_b120, pm_b127, pm_h128, pm_h150, pm_h168, pm_h255, pm_h256, pm_h360, pm_h369, pm_h450, pm_h4096, pm_h8192, pm_h32767, pm_h4643, pm_h13363, pm_h20579, pm_h25843, pm_h29227, pm_h31145, pm_h32103, pm_h32525, pm_h32689, pm_h32745, pm_h32762, pm_h32766, pm_o, pm_ldi, pm_ldl, pm_lda, pm_sti, pm_stl, pm_sta, pm_lk, pm_f1, pm_f2, Value.category, lv_args, Option.bind_some, Option.map_some, if_true, if_false, ite_true, ite_false, Nat.reduceAdd, Nat.reduceSub, Nat.reduceMul, Nat.reduceDiv, Nat.reduceMod, Nat.reduceLT, Nat.reduceLeDiff, Nat.reduceEqDiff, reduceIte, reduceCtorEq, Int.reduceNatCast, Int.reduceNatCast', Int.reduceAdd, Int.reduceLE, Int.reduceLT, Int.reduceToNat, Int.reduceNeg, Int.reduceSub, pm_at_add, Nat.add_sub_cancel_left, va_up_g, Int.ofNat_eq_natCast, List.getElem?_cons_zero, List.getElem?_cons_succ, List.set_cons_zero, List.set_cons_succ, List.length_cons, List.length_nil, Nat.zero_add, va_rf, nI_add, pk_mul, Int.toNat_natCast, pm_ix_nI, Option.toList_none, Option.toList_some, List.nil_append, List.cons_append, pq_ial, pq_lal, pq_aal0, pq_aal1, pq_ias, F_S, K_S, d_S_longAt_0, d_S_longAt_1, d_S_longAt_4, d_S_longAt_5, sk_4, sk_5, sk_6, sk_7, sk_u4, sk_u5, sk_u6, sk_u7, Nat.reducePow, h3]; exact rfl) ?_
  exact mr_l X hr hk d_S_longAt_6 (Nat.le_refl _) (Nat.le_refl _) ⟨rfl, rfl⟩
def pr_ (f : Nat → Int64) (j : Nat) : Int32 := (jl_ushr (f (j / 4)) (nI (16 * (j % 4)))).toInt32 &&& 65535
set_option maxHeartbeats 4000000 in
theorem m_S_pairAt (hj : j < 100) : mm_ l y_S_pairAt c_S_pairAt 2 (some .int) (rm_ 0) D tc sz tk [.ref (sz + 4), .int (nI j)] hz 91 (sk_ tc sz w f g h len) hz 91 (fun v w1 => v = some (.int (pr_ f j)) ∧ w1 = sk_ tc sz w f g h len) := by
  refine mm_of (by decide) (Nat.le_of_ble_eq_true rfl) ?_
  intro p e s m args below meth c X hr hk hnm
  have h1 : nI j / nI 4 = nI (j / 4) := pk_div (by omega) (by decide) (by decide)
  have h2 : jv_rem (nI j) (nI 4) = nI (j % 4) := jr_ (by omega) (by decide) (by decide)
  have h3 : pm_ix (nI (j / 4)) 25 = some (j / 4) := pm_ix_nI (by omega) (by decide)
  refine pm_v_ok (cx_X X X_S) 15 _ _ _ _ (by simp -implicitDefEqProofs only [pv_0, pv_s, pd_iconst, pd_bipush, pd_sipush, pd_lconst_0, pd_lconst_1, pd_ldc, pd_ldc2, pd_iload_0, pd_iload_1, pd_iload_2, pd_iload_3, pd_iload, pd_lload_0, pd_lload_1, pd_lload_2, pd_lload_3, pd_lload, pd_aload_0, pd_aload_1, pd_aload_2, pd_aload_3, pd_aload, pd_istore_0, pd_istore_1, pd_istore_2, pd_istore_3, pd_istore, pd_lstore_0, pd_lstore_1, pd_lstore_2, pd_lstore_3, pd_lstore, pd_astore_0, pd_astore_1, pd_astore_2, pd_astore_3, pd_astore, pd_iinc, pd_iadd, pd_isub, pd_imul, pd_iand, pd_ior, pd_ixor, pd_ishl, pd_ishr, pd_iushr, pd_idiv, pd_irem, pd_ineg, pd_ladd, pd_lsub, pd_lmul, pd_land, pd_lor, pd_lxor, pd_lshl, pd_lushr, pd_lcmp, pd_i2l, pd_l2i, pd_dup_int, pd_pop_int, pd_dup_ref, pd_pop_ref, pd_dup_x1_ir, pd_dup_x1_ii, pd_dup2_ir, pd_dup2_ii, pd_goto, pd_if_eq, pd_if_ne, pd_if_lt, pd_if_ge, pd_if_gt, pd_if_le, pd_icmp_eq, pd_icmp_ne, pd_icmp_lt, pd_icmp_ge, pd_icmp_gt, pd_icmp_le, pd_iaload, pd_baload, pd_laload, pd_aaload, pd_iastore, pd_bastore, pd_lastore, pd_alen, pd_getfield, pd_putfield, ph_las, ph_len0, ph_len1, ph_len2, ph_gf, ph_pfi, ph_pfl, ph_pfz0, ph_pfz1, ph_nz0, ph_nz1, pm_cm1, pm_c0, pm_c1, pm_c2, pm_c3, pm_c4, pm_c5, pm_b6, pm_b7, pm_b8, pm_b9, pm_b10, pm_b11, pm_b12, pm_b14, pm_b15, pm_b16, pm_b20, pm_b24, pm_b25, pm_b28, pm_b31, pm_b32, pm_b48, pm_b56, pm_b60, pm_b63, pm_b64, pm_b67, pm_b68, pm_b89, pm_b90, pm_b95, pm_b100, pm_b120, pm_b127, pm_h128, pm_h150, pm_h168, pm_h255, pm_h256, pm_h360, pm_h369, pm_h450, pm_h4096, pm_h8192, pm_h32767, pm_h4643, pm_h13363, pm_h20579, pm_h25843, pm_h29227, pm_h31145, pm_h32103, pm_h32525, pm_h32689, pm_h32745, pm_h32762, pm_h32766, pm_o, pm_ldi, pm_ldl, pm_lda, pm_sti, pm_stl, pm_sta, pm_lk, pm_f1, pm_f2, Value.category, lv_args, Option.bind_some, Option.map_some, if_true, if_false, ite_true, ite_false, Nat.reduceAdd, Nat.reduceSub, Nat.reduceMul, Nat.reduceDiv, Nat.reduceMod, Nat.reduceLT, Nat.reduceLeDiff, Nat.reduceEqDiff, reduceIte, reduceCtorEq, Int.reduceNatCast, Int.reduceNatCast', Int.reduceAdd, Int.reduceLE, Int.reduceLT, Int.reduceToNat, Int.reduceNeg, Int.reduceSub, pm_at_add, Nat.add_sub_cancel_left, va_up_g, Int.ofNat_eq_natCast, List.getElem?_cons_zero, List.getElem?_cons_succ, List.set_cons_zero, List.set_cons_succ, List.length_cons, List.length_nil, Nat.zero_add, va_rf, nI_add, pk_mul, Int.toNat_natCast, pm_ix_nI, Option.toList_none, Option.toList_some, List.nil_append, List.cons_append, pq_ial, pq_lal, pq_aal0, pq_aal1, pq_ias, F_S, K_S, d_S_pairAt_0, d_S_pairAt_1, d_S_pairAt_4, d_S_pairAt_5, d_S_pairAt_6, d_S_pairAt_7, d_S_pairAt_8, d_S_pairAt_10, d_S_pairAt_11, d_S_pairAt_12, d_S_pairAt_13, d_S_pairAt_14, d_S_pairAt_15, d_S_pairAt_16, d_S_pairAt_18, sk_4, sk_5, sk_6, sk_7, sk_u4, sk_u5, sk_u6, sk_u7, Nat.reducePow, h1, h2, h3, nz_4]; exact rfl) ?_
  exact mr_i X hr hk d_S_pairAt_19 (Nat.le_refl _) (Nat.le_refl _) ⟨rfl, rfl⟩
end M2
end
section
section M3
variable {p : Program} {l : Launch} {e : Env} {R : Room} {s : State} {m : MethodId} {args : Array Value} {below : List Frame} {meth : Method} {c : Code} {Q : State → Prop} {D : va_G} {tc : Nat → ClassId} {sz : Nat} {tk : Nat → Nat} {hz : Option Nat} {w : Nat → va_E}
variable {f g h f1 : Nat → Int64} {len N i j k : Nat} {x : Int64} {r : Nat → Int32}
def ro_ (x : Int64) (k : Int32) : Int64 := jl_shl x k ||| jl_ushr x (nI 64 - k)
def co_ (f : Nat → Int64) (x : Nat) : Int64 := f x ^^^ f (x + 5) ^^^ f (x + 10) ^^^ f (x + 15) ^^^ f (x + 20)
def ch_ (f h : Nat → Int64) (x : Nat) : Nat → Int64 := fun j => if j < x then co_ f j else h j
theorem ch_0 : ch_ f h 0 = h := by
  funext j
  simp [ch_]
theorem ch_s : vp_updL (ch_ f h i) i (f i ^^^ f (i + 5) ^^^ f (i + 10) ^^^ f (i + 15) ^^^ f (i + 20)) = ch_ f h (i + 1) := by
  funext j
  by_cases hj : j = i
  · subst hj
    simp [vp_updL, ch_, co_]
  · by_cases h2 : j < i
    · simp [vp_updL, ch_, hj, h2, Nat.lt_succ_of_lt h2]
    · have h3 : ¬ j < i + 1 := by omega
      simp [vp_updL, ch_, hj, h2, h3]
def mx_ (f : Nat → Int64) (x : Nat) : Int64 := co_ f ((x + 4) % 5) ^^^ ro_ (co_ f ((x + 1) % 5)) (nI 1)
def ti_ (f : Nat → Int64) (x i : Nat) : Nat → Int64 := fun k => if k < 25 ∧ (k % 5 < x ∨ (k % 5 = x ∧ k / 5 < i)) then f k ^^^ mx_ f (k % 5) else f k
theorem ti_0 : ti_ f 0 0 = f := by
  funext k
  simp [ti_]
theorem ti_n : ti_ f j 5 = ti_ f (j + 1) 0 := by
  funext k
  unfold ti_
  by_cases h1 : k < 25
  · have e : (k < 25 ∧ (k % 5 < j ∨ (k % 5 = j ∧ k / 5 < 5))) ↔ (k < 25 ∧ (k % 5 < j + 1 ∨ (k % 5 = j + 1 ∧ k / 5 < 0))) := by omega
    simp only [e]
  · simp [h1]
theorem ti_s (hj : j < 5) (hi : i < 5) : vp_updL (ti_ f j i) (j + 5 * i) (ti_ f j i (j + 5 * i) ^^^ mx_ f j) = ti_ f j (i + 1) := by
  funext k
  by_cases hk : k = j + 5 * i
  · subst hk
    have h1 : (j + 5 * i) % 5 = j := by omega
    have h2 : (j + 5 * i) / 5 = i := by omega
    have h3 : j + 5 * i < 25 := by omega
    simp [vp_updL, ti_, h1, h2, h3]
  · have e : (k < 25 ∧ (k % 5 < j ∨ (k % 5 = j ∧ k / 5 < i))) ↔ (k < 25 ∧ (k % 5 < j ∨ (k % 5 = j ∧ k / 5 < i + 1))) := by omega
    simp only [vp_updL, ti_, if_neg hk, e]
set_option maxHeartbeats 4000000 in
theorem lp1_mixColumns (X : cx_ p s m args c c_S_mixColumns 5 R_S D tc sz tk) (he : pm_G p l e (rm_ 1) s m args below meth c Q D cl_ sz 5 hz 91 0 0 (sk_ tc sz w f g (ch_ f h 5) len) 64 [(1, .int (nI 5)), (0, .ref (sz + 4))] []) : ∀ i j : Nat, j + i = 5 → pm_G p l e (rm_ 1) s m args below meth c Q D cl_ sz 5 hz 91 0 0 (sk_ tc sz w f g (ch_ f h j) len) 2 [(1, .int (nI j)), (0, .ref (sz + 4))] [] := by
  intro i
  induction i with
  | zero =>
    intro j hj
    obtain rfl : j = 5 := by omega
    have h1 : (nI 5 ≤ nI 5) = True := eq_true (nI_le (Nat.le_refl _) (by decide))
    refine pm_v_ok (cx_X X X_S) 3 _ _ _ _ (by simp -implicitDefEqProofs only [pv_0, pv_s, pd_iconst, pd_bipush, pd_sipush, pd_lconst_0, pd_lconst_1, pd_ldc, pd_ldc2, pd_iload_0, pd_iload_1, pd_iload_2, pd_iload_3, pd_iload, pd_lload_0, pd_lload_1, pd_lload_2, pd_lload_3, pd_lload, pd_aload_0, pd_aload_1, pd_aload_2, pd_aload_3, pd_aload, pd_istore_0, pd_istore_1, pd_istore_2, pd_istore_3, pd_istore, pd_lstore_0, pd_lstore_1, pd_lstore_2, pd_lstore_3, pd_lstore, pd_astore_0, pd_astore_1, pd_astore_2, pd_astore_3, pd_astore, pd_iinc, pd_iadd, pd_isub, pd_imul, pd_iand, pd_ior, pd_ixor, pd_ishl, pd_ishr, pd_iushr, pd_idiv, pd_irem, pd_ineg, pd_ladd, pd_lsub, pd_lmul, pd_land, pd_lor, pd_lxor, pd_lshl, pd_lushr, pd_lcmp, pd_i2l, pd_l2i, pd_dup_int, pd_pop_int, pd_dup_ref, pd_pop_ref, pd_dup_x1_ir, pd_dup_x1_ii, pd_dup2_ir, pd_dup2_ii, pd_goto, pd_if_eq, pd_if_ne, pd_if_lt, pd_if_ge, pd_if_gt, pd_if_le, pd_icmp_eq, pd_icmp_ne, pd_icmp_lt, pd_icmp_ge, pd_icmp_gt, pd_icmp_le, pd_iaload, pd_baload, pd_laload, pd_aaload, pd_iastore, pd_bastore, pd_lastore, pd_alen, pd_getfield, pd_putfield, ph_las, ph_len0, ph_len1, ph_len2, ph_gf, ph_pfi, ph_pfl, ph_pfz0, ph_pfz1, ph_nz0, ph_nz1, pm_cm1, pm_c0, pm_c1, pm_c2, pm_c3, pm_c4, pm_c5, pm_b6, pm_b7, pm_b8, pm_b9, pm_b10, pm_b11, pm_b12, pm_b14, pm_b15, pm_b16, pm_b20, pm_b24, pm_b25, pm_b28, pm_b31, pm_b32, pm_b48, pm_b56, pm_b60, pm_b63, pm_b64, pm_b67, pm_b68, pm_b89, pm_b90, pm_b95, pm_b100, pm_b120, pm_b127, pm_h128, pm_h150, pm_h168, pm_h255, pm_h256, pm_h360, pm_h369, pm_h450, pm_h4096, pm_h8192, pm_h32767, pm_h4643, pm_h13363, pm_h20579, pm_h25843, pm_h29227, pm_h31145, pm_h32103, pm_h32525, pm_h32689, pm_h32745, pm_h32762, pm_h32766, pm_o, pm_ldi, pm_ldl, pm_lda, pm_sti, pm_stl, pm_sta, pm_lk, pm_f1, pm_f2, Value.category, lv_args, Option.bind_some, Option.map_some, if_true, if_false, ite_true, ite_false, Nat.reduceAdd, Nat.reduceSub, Nat.reduceMul, Nat.reduceDiv, Nat.reduceMod, Nat.reduceLT, Nat.reduceLeDiff, Nat.reduceEqDiff, reduceIte, reduceCtorEq, Int.reduceNatCast, Int.reduceNatCast', Int.reduceAdd, Int.reduceLE, Int.reduceLT, Int.reduceToNat, Int.reduceNeg, Int.reduceSub, pm_at_add, Nat.add_sub_cancel_left, va_up_g, Int.ofNat_eq_natCast, List.getElem?_cons_zero, List.getElem?_cons_succ, List.set_cons_zero, List.set_cons_succ, List.length_cons, List.length_nil, Nat.zero_add, va_rf, nI_add, pk_mul, Int.toNat_natCast, pm_ix_nI, Option.toList_none, Option.toList_some, List.nil_append, List.cons_append, pq_ial, pq_lal, pq_aal0, pq_aal1, pq_ias, F_S, K_S, d_S_mixColumns_2, d_S_mixColumns_3, d_S_mixColumns_4, h1]; exact rfl) ?_
    exact he
  | succ i ih =>
    intro j hj
    have h1 : (nI 5 ≤ nI j) = False := eq_false (nI_ge (by omega) (by decide))
    have e0 : pm_ix (nI j) 5 = some j := pm_ix_nI (by omega) (by decide)
    have e1 : pm_ix (nI j) 25 = some j := pm_ix_nI (by omega) (by decide)
    have e2 : pm_ix (nI (j + 5)) 25 = some (j + 5) := pm_ix_nI (by omega) (by decide)
    have e3 : pm_ix (nI (j + 10)) 25 = some (j + 10) := pm_ix_nI (by omega) (by decide)
    have e4 : pm_ix (nI (j + 15)) 25 = some (j + 15) := pm_ix_nI (by omega) (by decide)
    have e5 : pm_ix (nI (j + 20)) 25 = some (j + 20) := pm_ix_nI (by omega) (by decide)
    refine pm_v_ok (cx_X X X_S) 41 _ _ _ _ (by simp -implicitDefEqProofs only [pv_0, pv_s, pd_iconst, pd_bipush, pd_sipush, pd_lconst_0, pd_lconst_1, pd_ldc, pd_ldc2, pd_iload_0, pd_iload_1, pd_iload_2, pd_iload_3, pd_iload, pd_lload_0, pd_lload_1, pd_lload_2, pd_lload_3, pd_lload, pd_aload_0, pd_aload_1, pd_aload_2, pd_aload_3, pd_aload, pd_istore_0, pd_istore_1, pd_istore_2, pd_istore_3, pd_istore, pd_lstore_0, pd_lstore_1, pd_lstore_2, pd_lstore_3, pd_lstore, pd_astore_0, pd_astore_1, pd_astore_2, pd_astore_3, pd_astore, pd_iinc, pd_iadd, pd_isub, pd_imul, pd_iand, pd_ior, pd_ixor, pd_ishl, pd_ishr, pd_iushr, pd_idiv, pd_irem, pd_ineg, pd_ladd, pd_lsub, pd_lmul, pd_land, pd_lor, pd_lxor, pd_lshl, pd_lushr, pd_lcmp, pd_i2l, pd_l2i, pd_dup_int, pd_pop_int, pd_dup_ref, pd_pop_ref, pd_dup_x1_ir, pd_dup_x1_ii, pd_dup2_ir, pd_dup2_ii, pd_goto, pd_if_eq, pd_if_ne, pd_if_lt, pd_if_ge, pd_if_gt, pd_if_le, pd_icmp_eq, pd_icmp_ne, pd_icmp_lt, pd_icmp_ge, pd_icmp_gt, pd_icmp_le, pd_iaload, pd_baload, pd_laload, pd_aaload, pd_iastore, pd_bastore, pd_lastore, pd_alen, pd_getfield, pd_putfield, ph_las, ph_len0, ph_len1, ph_len2, ph_gf, ph_pfi, ph_pfl, ph_pfz0, ph_pfz1, ph_nz0, ph_nz1, pm_cm1, pm_c0, pm_c1, pm_c2, pm_c3, pm_c4, pm_c5, pm_b6, pm_b7, pm_b8, pm_b9, pm_b10, pm_b11, pm_b12, pm_b14, pm_b15, pm_b16, pm_b20, pm_b24, pm_b25, pm_b28, pm_b31, pm_b32, pm_b48, pm_b56, pm_b60, pm_b63, pm_b64, pm_b67, pm_b68, pm_b89, pm_b90, pm_b95, pm_b100, pm_b120, pm_b127, pm_h128, pm_h150, pm_h168, pm_h255, pm_h256, pm_h360, pm_h369, pm_h450, pm_h4096, pm_h8192, pm_h32767, pm_h4643, pm_h13363, pm_h20579, pm_h25843, pm_h29227, pm_h31145, pm_h32103, pm_h32525, pm_h32689, pm_h32745, pm_h32762, pm_h32766, pm_o, pm_ldi, pm_ldl, pm_lda, pm_sti, pm_stl, pm_sta, pm_lk, pm_f1, pm_f2, Value.category, lv_args, Option.bind_some, Option.map_some, if_true, if_false, ite_true, ite_false, Nat.reduceAdd, Nat.reduceSub, Nat.reduceMul, Nat.reduceDiv, Nat.reduceMod, Nat.reduceLT, Nat.reduceLeDiff, Nat.reduceEqDiff, reduceIte, reduceCtorEq, Int.reduceNatCast, Int.reduceNatCast', Int.reduceAdd, Int.reduceLE, Int.reduceLT, Int.reduceToNat, Int.reduceNeg, Int.reduceSub, pm_at_add, Nat.add_sub_cancel_left, va_up_g, Int.ofNat_eq_natCast, List.getElem?_cons_zero, List.getElem?_cons_succ, List.set_cons_zero, List.set_cons_succ, List.length_cons, List.length_nil, Nat.zero_add, va_rf, nI_add, pk_mul, Int.toNat_natCast, pm_ix_nI, Option.toList_none, Option.toList_some, List.nil_append, List.cons_append, pq_ial, pq_lal, pq_aal0, pq_aal1, pq_ias, F_S, K_S, d_S_mixColumns_2, d_S_mixColumns_3, d_S_mixColumns_4, d_S_mixColumns_7, d_S_mixColumns_8, d_S_mixColumns_11, d_S_mixColumns_12, d_S_mixColumns_13, d_S_mixColumns_16, d_S_mixColumns_17, d_S_mixColumns_18, d_S_mixColumns_19, d_S_mixColumns_22, d_S_mixColumns_23, d_S_mixColumns_24, d_S_mixColumns_25, d_S_mixColumns_26, d_S_mixColumns_27, d_S_mixColumns_28, d_S_mixColumns_31, d_S_mixColumns_32, d_S_mixColumns_34, d_S_mixColumns_35, d_S_mixColumns_36, d_S_mixColumns_37, d_S_mixColumns_38, d_S_mixColumns_41, d_S_mixColumns_42, d_S_mixColumns_44, d_S_mixColumns_45, d_S_mixColumns_46, d_S_mixColumns_47, d_S_mixColumns_48, d_S_mixColumns_51, d_S_mixColumns_52, d_S_mixColumns_54, d_S_mixColumns_55, d_S_mixColumns_56, d_S_mixColumns_57, d_S_mixColumns_58, d_S_mixColumns_61, sk_4, sk_5, sk_6, sk_7, sk_u4, sk_u5, sk_u6, sk_u7, Nat.reducePow, h1, e0, e1, e2, e3, e4, e5, ch_s]; exact rfl) ?_
    exact ih (j + 1) (by omega)
set_option maxHeartbeats 4000000 in
theorem lp3_mixColumns {j : Nat} (hj : j < 5) (X : cx_ p s m args c c_S_mixColumns 5 R_S D tc sz tk) (he : pm_G p l e (rm_ 1) s m args below meth c Q D cl_ sz 5 hz 91 0 0 (sk_ tc sz w (ti_ f j 5) g h len) 124 [(4, .int (nI (j + 5 * 5))), (2, .long (mx_ f j)), (1, .int (nI j)), (0, .ref (sz + 4))] []) : ∀ i k : Nat, k + i = 5 → pm_G p l e (rm_ 1) s m args below meth c Q D cl_ sz 5 hz 91 0 0 (sk_ tc sz w (ti_ f j k) g h len) 100 [(4, .int (nI (j + 5 * k))), (2, .long (mx_ f j)), (1, .int (nI j)), (0, .ref (sz + 4))] [] := by
  intro i
  induction i with
  | zero =>
    intro k hk
    obtain rfl : k = 5 := by omega
    have h1 : (nI 25 ≤ nI (j + 5 * 5)) = True := eq_true (nI_le (by omega) (by omega))
    refine pm_v_ok (cx_X X X_S) 3 _ _ _ _ (by simp -implicitDefEqProofs only [pv_0, pv_s, pd_iconst, pd_bipush, pd_sipush, pd_lconst_0, pd_lconst_1, pd_ldc, pd_ldc2, pd_iload_0, pd_iload_1, pd_iload_2, pd_iload_3, pd_iload, pd_lload_0, pd_lload_1, pd_lload_2, pd_lload_3, pd_lload, pd_aload_0, pd_aload_1, pd_aload_2, pd_aload_3, pd_aload, pd_istore_0, pd_istore_1, pd_istore_2, pd_istore_3, pd_istore, pd_lstore_0, pd_lstore_1, pd_lstore_2, pd_lstore_3, pd_lstore, pd_astore_0, pd_astore_1, pd_astore_2, pd_astore_3, pd_astore, pd_iinc, pd_iadd, pd_isub, pd_imul, pd_iand, pd_ior, pd_ixor, pd_ishl, pd_ishr, pd_iushr, pd_idiv, pd_irem, pd_ineg, pd_ladd, pd_lsub, pd_lmul, pd_land, pd_lor, pd_lxor, pd_lshl, pd_lushr, pd_lcmp, pd_i2l, pd_l2i, pd_dup_int, pd_pop_int, pd_dup_ref, pd_pop_ref, pd_dup_x1_ir, pd_dup_x1_ii, pd_dup2_ir, pd_dup2_ii, pd_goto, pd_if_eq, pd_if_ne, pd_if_lt, pd_if_ge, pd_if_gt, pd_if_le, pd_icmp_eq, pd_icmp_ne, pd_icmp_lt, pd_icmp_ge, pd_icmp_gt, pd_icmp_le, pd_iaload, pd_baload, pd_laload, pd_aaload, pd_iastore, pd_bastore, pd_lastore, pd_alen, pd_getfield, pd_putfield, ph_las, ph_len0, ph_len1, ph_len2, ph_gf, ph_pfi, ph_pfl, ph_pfz0, ph_pfz1, ph_nz0, ph_nz1, pm_cm1, pm_c0, pm_c1, pm_c2, pm_c3, pm_c4, pm_c5, pm_b6, pm_b7, pm_b8, pm_b9, pm_b10, pm_b11, pm_b12, pm_b14, pm_b15, pm_b16, pm_b20, pm_b24, pm_b25, pm_b28, pm_b31, pm_b32, pm_b48, pm_b56, pm_b60, pm_b63, pm_b64, pm_b67, pm_b68, pm_b89, pm_b90, pm_b95, pm_b100, pm_b120, pm_b127, pm_h128, pm_h150, pm_h168, pm_h255, pm_h256, pm_h360, pm_h369, pm_h450, pm_h4096, pm_h8192, pm_h32767, pm_h4643, pm_h13363, pm_h20579, pm_h25843, pm_h29227, pm_h31145, pm_h32103, pm_h32525, pm_h32689, pm_h32745, pm_h32762, pm_h32766, pm_o, pm_ldi, pm_ldl, pm_lda, pm_sti, pm_stl, pm_sta, pm_lk, pm_f1, pm_f2, Value.category, lv_args, Option.bind_some, Option.map_some, if_true, if_false, ite_true, ite_false, Nat.reduceAdd, Nat.reduceSub, Nat.reduceDiv, Nat.reduceMod, Nat.reduceLT, Nat.reduceLeDiff, Nat.reduceEqDiff, reduceIte, reduceCtorEq, Int.reduceNatCast, Int.reduceNatCast', Int.reduceAdd, Int.reduceLE, Int.reduceLT, Int.reduceToNat, Int.reduceNeg, Int.reduceSub, pm_at_add, Nat.add_sub_cancel_left, va_up_g, Int.ofNat_eq_natCast, List.getElem?_cons_zero, List.getElem?_cons_succ, List.set_cons_zero, List.set_cons_succ, List.length_cons, List.length_nil, Nat.zero_add, va_rf, nI_add, pk_mul, Int.toNat_natCast, pm_ix_nI, Option.toList_none, Option.toList_some, List.nil_append, List.cons_append, pq_ial, pq_lal, pq_aal0, pq_aal1, pq_ias, F_S, K_S, d_S_mixColumns_100, d_S_mixColumns_102, d_S_mixColumns_104, h1]; exact rfl) ?_
    exact he
  | succ i ih =>
    intro k hk
    have h1 : (nI 25 ≤ nI (j + 5 * k)) = False := eq_false (nI_ge (by omega) (by decide))
    have e1 : pm_ix (nI (j + 5 * k)) 25 = some (j + 5 * k) := pm_ix_nI (by omega) (by decide)
    have e2 : j + 5 * k + 5 = j + 5 * (k + 1) := by omega
    have e3 : vp_updL (ti_ f j k) (j + 5 * k) (ti_ f j k (j + 5 * k) ^^^ mx_ f j) = ti_ f j (k + 1) := ti_s hj (by omega)
    refine pm_v_ok (cx_X X X_S) 13 _ _ _ _ (by simp -implicitDefEqProofs only [pv_0, pv_s, pd_iconst, pd_bipush, pd_sipush, pd_lconst_0, pd_lconst_1, pd_ldc, pd_ldc2, pd_iload_0, pd_iload_1, pd_iload_2, pd_iload_3, pd_iload, pd_lload_0, pd_lload_1, pd_lload_2, pd_lload_3, pd_lload, pd_aload_0, pd_aload_1, pd_aload_2, pd_aload_3, pd_aload, pd_istore_0, pd_istore_1, pd_istore_2, pd_istore_3, pd_istore, pd_lstore_0, pd_lstore_1, pd_lstore_2, pd_lstore_3, pd_lstore, pd_astore_0, pd_astore_1, pd_astore_2, pd_astore_3, pd_astore, pd_iinc, pd_iadd, pd_isub, pd_imul, pd_iand, pd_ior, pd_ixor, pd_ishl, pd_ishr, pd_iushr, pd_idiv, pd_irem, pd_ineg, pd_ladd, pd_lsub, pd_lmul, pd_land, pd_lor, pd_lxor, pd_lshl, pd_lushr, pd_lcmp, pd_i2l, pd_l2i, pd_dup_int, pd_pop_int, pd_dup_ref, pd_pop_ref, pd_dup_x1_ir, pd_dup_x1_ii, pd_dup2_ir, pd_dup2_ii, pd_goto, pd_if_eq, pd_if_ne, pd_if_lt, pd_if_ge, pd_if_gt, pd_if_le, pd_icmp_eq, pd_icmp_ne, pd_icmp_lt, pd_icmp_ge, pd_icmp_gt, pd_icmp_le, pd_iaload, pd_baload, pd_laload, pd_aaload, pd_iastore, pd_bastore, pd_lastore, pd_alen, pd_getfield, pd_putfield, ph_las, ph_len0, ph_len1, ph_len2, ph_gf, ph_pfi, ph_pfl, ph_pfz0, ph_pfz1, ph_nz0, ph_nz1, pm_cm1, pm_c0, pm_c1, pm_c2, pm_c3, pm_c4, pm_c5, pm_b6, pm_b7, pm_b8, pm_b9, pm_b10, pm_b11, pm_b12, pm_b14, pm_b15, pm_b16, pm_b20, pm_b24, pm_b25, pm_b28, pm_b31, pm_b32, pm_b48, pm_b56, pm_b60, pm_b63, pm_b64, pm_b67, pm_b68, pm_b89, pm_b90, pm_b95, pm_b100, pm_b120, pm_b127, pm_h128, pm_h150, pm_h168, pm_h255, pm_h256, pm_h360, pm_h369, pm_h450, pm_h4096, pm_h8192, pm_h32767, pm_h4643, pm_h13363, pm_h20579, pm_h25843, pm_h29227, pm_h31145, pm_h32103, pm_h32525, pm_h32689, pm_h32745, pm_h32762, pm_h32766, pm_o, pm_ldi, pm_ldl, pm_lda, pm_sti, pm_stl, pm_sta, pm_lk, pm_f1, pm_f2, Value.category, lv_args, Option.bind_some, Option.map_some, if_true, if_false, ite_true, ite_false, Nat.reduceAdd, Nat.reduceSub, Nat.reduceMul, Nat.reduceDiv, Nat.reduceMod, Nat.reduceLT, Nat.reduceLeDiff, Nat.reduceEqDiff, reduceIte, reduceCtorEq, Int.reduceNatCast, Int.reduceNatCast', Int.reduceAdd, Int.reduceLE, Int.reduceLT, Int.reduceToNat, Int.reduceNeg, Int.reduceSub, pm_at_add, Nat.add_sub_cancel_left, va_up_g, Int.ofNat_eq_natCast, List.getElem?_cons_zero, List.getElem?_cons_succ, List.set_cons_zero, List.set_cons_succ, List.length_cons, List.length_nil, Nat.zero_add, va_rf, nI_add, pk_mul, Int.toNat_natCast, pm_ix_nI, Option.toList_none, Option.toList_some, List.nil_append, List.cons_append, pq_ial, pq_lal, pq_aal0, pq_aal1, pq_ias, F_S, K_S, d_S_mixColumns_100, d_S_mixColumns_102, d_S_mixColumns_104, d_S_mixColumns_107, d_S_mixColumns_108, d_S_mixColumns_111, d_S_mixColumns_113, d_S_mixColumns_114, d_S_mixColumns_115, d_S_mixColumns_116, d_S_mixColumns_117, d_S_mixColumns_118, d_S_mixColumns_121, sk_4, sk_5, sk_6, sk_7, sk_u4, sk_u5, sk_u6, sk_u7, Nat.reducePow, h1, e1, e2, e3]; exact rfl) ?_
    exact ih (k + 1) (by omega)
set_option maxHeartbeats 4000000 in
theorem lp2_mixColumns (X : cx_ p s m args c c_S_mixColumns 5 R_S D tc sz tk) (he : pm_G p l e (rm_ 1) s m args below meth c Q D cl_ sz 5 hz 91 0 0 (sk_ tc sz w (ti_ f 5 0) g (ch_ f h 5) len) 130 [(1, .int (nI 5)), (0, .ref (sz + 4))] []) : ∀ i j : Nat, j + i = 5 → pm_G p l e (rm_ 1) s m args below meth c Q D cl_ sz 5 hz 91 0 0 (sk_ tc sz w (ti_ f j 0) g (ch_ f h 5) len) 66 [(1, .int (nI j)), (0, .ref (sz + 4))] [] := by
  intro i
  induction i with
  | zero =>
    intro j hj
    obtain rfl : j = 5 := by omega
    have h1 : (nI 5 ≤ nI 5) = True := eq_true (nI_le (Nat.le_refl _) (by decide))
    refine pm_v_ok (cx_X X X_S) 3 _ _ _ _ (by simp -implicitDefEqProofs only [pv_0, pv_s, pd_iconst, pd_bipush, pd_sipush, pd_lconst_0, pd_lconst_1, pd_ldc, pd_ldc2, pd_iload_0, pd_iload_1, pd_iload_2, pd_iload_3, pd_iload, pd_lload_0, pd_lload_1, pd_lload_2, pd_lload_3, pd_lload, pd_aload_0, pd_aload_1, pd_aload_2, pd_aload_3, pd_aload, pd_istore_0, pd_istore_1, pd_istore_2, pd_istore_3, pd_istore, pd_lstore_0, pd_lstore_1, pd_lstore_2, pd_lstore_3, pd_lstore, pd_astore_0, pd_astore_1, pd_astore_2, pd_astore_3, pd_astore, pd_iinc, pd_iadd, pd_isub, pd_imul, pd_iand, pd_ior, pd_ixor, pd_ishl, pd_ishr, pd_iushr, pd_idiv, pd_irem, pd_ineg, pd_ladd, pd_lsub, pd_lmul, pd_land, pd_lor, pd_lxor, pd_lshl, pd_lushr, pd_lcmp, pd_i2l, pd_l2i, pd_dup_int, pd_pop_int, pd_dup_ref, pd_pop_ref, pd_dup_x1_ir, pd_dup_x1_ii, pd_dup2_ir, pd_dup2_ii, pd_goto, pd_if_eq, pd_if_ne, pd_if_lt, pd_if_ge, pd_if_gt, pd_if_le, pd_icmp_eq, pd_icmp_ne, pd_icmp_lt, pd_icmp_ge, pd_icmp_gt, pd_icmp_le, pd_iaload, pd_baload, pd_laload, pd_aaload, pd_iastore, pd_bastore, pd_lastore, pd_alen, pd_getfield, pd_putfield, ph_las, ph_len0, ph_len1, ph_len2, ph_gf, ph_pfi, ph_pfl, ph_pfz0, ph_pfz1, ph_nz0, ph_nz1, pm_cm1, pm_c0, pm_c1, pm_c2, pm_c3, pm_c4, pm_c5, pm_b6, pm_b7, pm_b8, pm_b9, pm_b10, pm_b11, pm_b12, pm_b14, pm_b15, pm_b16, pm_b20, pm_b24, pm_b25, pm_b28, pm_b31, pm_b32, pm_b48, pm_b56, pm_b60, pm_b63, pm_b64, pm_b67, pm_b68, pm_b89, pm_b90, pm_b95, pm_b100, pm_b120, pm_b127, pm_h128, pm_h150, pm_h168, pm_h255, pm_h256, pm_h360, pm_h369, pm_h450, pm_h4096, pm_h8192, pm_h32767, pm_h4643, pm_h13363, pm_h20579, pm_h25843, pm_h29227, pm_h31145, pm_h32103, pm_h32525, pm_h32689, pm_h32745, pm_h32762, pm_h32766, pm_o, pm_ldi, pm_ldl, pm_lda, pm_sti, pm_stl, pm_sta, pm_lk, pm_f1, pm_f2, Value.category, lv_args, Option.bind_some, Option.map_some, if_true, if_false, ite_true, ite_false, Nat.reduceAdd, Nat.reduceSub, Nat.reduceMul, Nat.reduceDiv, Nat.reduceMod, Nat.reduceLT, Nat.reduceLeDiff, Nat.reduceEqDiff, reduceIte, reduceCtorEq, Int.reduceNatCast, Int.reduceNatCast', Int.reduceAdd, Int.reduceLE, Int.reduceLT, Int.reduceToNat, Int.reduceNeg, Int.reduceSub, pm_at_add, Nat.add_sub_cancel_left, va_up_g, Int.ofNat_eq_natCast, List.getElem?_cons_zero, List.getElem?_cons_succ, List.set_cons_zero, List.set_cons_succ, List.length_cons, List.length_nil, Nat.zero_add, va_rf, nI_add, pk_mul, Int.toNat_natCast, pm_ix_nI, Option.toList_none, Option.toList_some, List.nil_append, List.cons_append, pq_ial, pq_lal, pq_aal0, pq_aal1, pq_ias, F_S, K_S, d_S_mixColumns_66, d_S_mixColumns_67, d_S_mixColumns_68, h1]; exact rfl) ?_
    exact he
  | succ i ih =>
    intro j hj
    have h1 : (nI 5 ≤ nI j) = False := eq_false (nI_ge (by omega) (by decide))
    have e1 : jv_rem (nI (j + 4)) (nI 5) = nI ((j + 4) % 5) := jr_ (by omega) (by decide) (by decide)
    have e2 : jv_rem (nI (j + 1)) (nI 5) = nI ((j + 1) % 5) := jr_ (by omega) (by decide) (by decide)
    have e3 : pm_ix (nI ((j + 4) % 5)) 5 = some ((j + 4) % 5) := pm_ix_nI (by omega) (by decide)
    have e4 : pm_ix (nI ((j + 1) % 5)) 5 = some ((j + 1) % 5) := pm_ix_nI (by omega) (by decide)
    have e5 : ch_ f h 5 ((j + 4) % 5) = co_ f ((j + 4) % 5) := if_pos (by omega)
    have e6 : ch_ f h 5 ((j + 1) % 5) = co_ f ((j + 1) % 5) := if_pos (by omega)
    refine pm_v_ok (cx_X X X_S) 20 _ _ _ _ (by simp -implicitDefEqProofs only [pv_0, pv_s, pd_iconst, pd_bipush, pd_sipush, pd_lconst_0, pd_lconst_1, pd_ldc, pd_ldc2, pd_iload_0, pd_iload_1, pd_iload_2, pd_iload_3, pd_iload, pd_lload_0, pd_lload_1, pd_lload_2, pd_lload_3, pd_lload, pd_aload_0, pd_aload_1, pd_aload_2, pd_aload_3, pd_aload, pd_istore_0, pd_istore_1, pd_istore_2, pd_istore_3, pd_istore, pd_lstore_0, pd_lstore_1, pd_lstore_2, pd_lstore_3, pd_lstore, pd_astore_0, pd_astore_1, pd_astore_2, pd_astore_3, pd_astore, pd_iinc, pd_iadd, pd_isub, pd_imul, pd_iand, pd_ior, pd_ixor, pd_ishl, pd_ishr, pd_iushr, pd_idiv, pd_irem, pd_ineg, pd_ladd, pd_lsub, pd_lmul, pd_land, pd_lor, pd_lxor, pd_lshl, pd_lushr, pd_lcmp, pd_i2l, pd_l2i, pd_dup_int, pd_pop_int, pd_dup_ref, pd_pop_ref, pd_dup_x1_ir, pd_dup_x1_ii, pd_dup2_ir, pd_dup2_ii, pd_goto, pd_if_eq, pd_if_ne, pd_if_lt, pd_if_ge, pd_if_gt, pd_if_le, pd_icmp_eq, pd_icmp_ne, pd_icmp_lt, pd_icmp_ge, pd_icmp_gt, pd_icmp_le, pd_iaload, pd_baload, pd_laload, pd_aaload, pd_iastore, pd_bastore, pd_lastore, pd_alen, pd_getfield, pd_putfield, ph_las, ph_len0, ph_len1, ph_len2, ph_gf, ph_pfi, ph_pfl, ph_pfz0, ph_pfz1, ph_nz0, ph_nz1, pm_cm1, pm_c0, pm_c1, pm_c2, pm_c3, pm_c4, pm_c5, pm_b6, pm_b7, pm_b8, pm_b9, pm_b10, pm_b11, pm_b12, pm_b14, pm_b15, pm_b16, pm_b20, pm_b24, pm_b25, pm_b28, pm_b31, pm_b32, pm_b48, pm_b56, pm_b60, pm_b63, pm_b64, pm_b67, pm_b68, pm_b89, pm_b90, pm_b95, pm_b100, pm_b120, pm_b127, pm_h128, pm_h150, pm_h168, pm_h255, pm_h256, pm_h360, pm_h369, pm_h450, pm_h4096, pm_h8192, pm_h32767, pm_h4643, pm_h13363, pm_h20579, pm_h25843, pm_h29227, pm_h31145, pm_h32103, pm_h32525, pm_h32689, pm_h32745, pm_h32762, pm_h32766, pm_o, pm_ldi, pm_ldl, pm_lda, pm_sti, pm_stl, pm_sta, pm_lk, pm_f1, pm_f2, Value.category, lv_args, Option.bind_some, Option.map_some, if_true, if_false, ite_true, ite_false, Nat.reduceAdd, Nat.reduceSub, Nat.reduceMul, Nat.reduceDiv, Nat.reduceMod, Nat.reduceLT, Nat.reduceLeDiff, Nat.reduceEqDiff, reduceIte, reduceCtorEq, Int.reduceNatCast, Int.reduceNatCast', Int.reduceAdd, Int.reduceLE, Int.reduceLT, Int.reduceToNat, Int.reduceNeg, Int.reduceSub, pm_at_add, Nat.add_sub_cancel_left, va_up_g, Int.ofNat_eq_natCast, List.getElem?_cons_zero, List.getElem?_cons_succ, List.set_cons_zero, List.set_cons_succ, List.length_cons, List.length_nil, Nat.zero_add, va_rf, nI_add, pk_mul, Int.toNat_natCast, pm_ix_nI, Option.toList_none, Option.toList_some, List.nil_append, List.cons_append, pq_ial, pq_lal, pq_aal0, pq_aal1, pq_ias, F_S, K_S, d_S_mixColumns_66, d_S_mixColumns_67, d_S_mixColumns_68, d_S_mixColumns_71, d_S_mixColumns_72, d_S_mixColumns_75, d_S_mixColumns_76, d_S_mixColumns_77, d_S_mixColumns_78, d_S_mixColumns_79, d_S_mixColumns_80, d_S_mixColumns_81, d_S_mixColumns_82, d_S_mixColumns_85, d_S_mixColumns_86, d_S_mixColumns_87, d_S_mixColumns_88, d_S_mixColumns_89, d_S_mixColumns_90, d_S_mixColumns_91, sk_4, sk_5, sk_6, sk_7, sk_u4, sk_u5, sk_u6, sk_u7, Nat.reducePow, h1, e1, e2, e3, e4, e5, e6, nz_5]; exact rfl) ?_
    refine mm_S X (m_S_turned) b_S_turned l_S_70 rfl rfl (Nat.le_of_ble_eq_true rfl) d_S_mixColumns_92 (by decide) (by decide) (fun v w1 hq => ?_)
    obtain ⟨rfl, rfl⟩ := hq
    have e7 : co_ f ((j + 4) % 5) ^^^ (jl_shl (co_ f ((j + 1) % 5)) (nI 1) ||| jl_ushr (co_ f ((j + 1) % 5)) (nI 64 - nI 1)) = mx_ f j := rfl
    refine pm_v_ok (cx_X X X_S) 4 _ _ _ _ (by simp -implicitDefEqProofs only [pv_0, pv_s, pd_iconst, pd_bipush, pd_sipush, pd_lconst_0, pd_lconst_1, pd_ldc, pd_ldc2, pd_iload_0, pd_iload_1, pd_iload_2, pd_iload_3, pd_iload, pd_lload_0, pd_lload_1, pd_lload_2, pd_lload_3, pd_lload, pd_aload_0, pd_aload_1, pd_aload_2, pd_aload_3, pd_aload, pd_istore_0, pd_istore_1, pd_istore_2, pd_istore_3, pd_istore, pd_lstore_0, pd_lstore_1, pd_lstore_2, pd_lstore_3, pd_lstore, pd_astore_0, pd_astore_1, pd_astore_2, pd_astore_3, pd_astore, pd_iinc, pd_iadd, pd_isub, pd_imul, pd_iand, pd_ior, pd_ixor, pd_ishl, pd_ishr, pd_iushr, pd_idiv, pd_irem, pd_ineg, pd_ladd, pd_lsub, pd_lmul, pd_land, pd_lor, pd_lxor, pd_lshl, pd_lushr, pd_lcmp, pd_i2l, pd_l2i, pd_dup_int, pd_pop_int, pd_dup_ref, pd_pop_ref, pd_dup_x1_ir, pd_dup_x1_ii, pd_dup2_ir, pd_dup2_ii, pd_goto, pd_if_eq, pd_if_ne, pd_if_lt, pd_if_ge, pd_if_gt, pd_if_le, pd_icmp_eq, pd_icmp_ne, pd_icmp_lt, pd_icmp_ge, pd_icmp_gt, pd_icmp_le, pd_iaload, pd_baload, pd_laload, pd_aaload, pd_iastore, pd_bastore, pd_lastore, pd_alen, pd_getfield, pd_putfield, ph_las, ph_len0, ph_len1, ph_len2, ph_gf, ph_pfi, ph_pfl, ph_pfz0, ph_pfz1, ph_nz0, ph_nz1, pm_cm1, pm_c0, pm_c1, pm_c2, pm_c3, pm_c4, pm_c5, pm_b6, pm_b7, pm_b8, pm_b9, pm_b10, pm_b11, pm_b12, pm_b14, pm_b15, pm_b16, pm_b20, pm_b24, pm_b25, pm_b28, pm_b31, pm_b32, pm_b48, pm_b56, pm_b60, pm_b63, pm_b64, pm_b67, pm_b68, pm_b89, pm_b90, pm_b95, pm_b100, pm_b120, pm_b127, pm_h128, pm_h150, pm_h168, pm_h255, pm_h256, pm_h360, pm_h369, pm_h450, pm_h4096, pm_h8192, pm_h32767, pm_h4643, pm_h13363, pm_h20579, pm_h25843, pm_h29227, pm_h31145, pm_h32103, pm_h32525, pm_h32689, pm_h32745, pm_h32762, pm_h32766, pm_o, pm_ldi, pm_ldl, pm_lda, pm_sti, pm_stl, pm_sta, pm_lk, pm_f1, pm_f2, Value.category, lv_args, Option.bind_some, Option.map_some, if_true, if_false, ite_true, ite_false, Nat.reduceAdd, Nat.reduceSub, Nat.reduceMul, Nat.reduceDiv, Nat.reduceMod, Nat.reduceLT, Nat.reduceLeDiff, Nat.reduceEqDiff, reduceIte, reduceCtorEq, Int.reduceNatCast, Int.reduceNatCast', Int.reduceAdd, Int.reduceLE, Int.reduceLT, Int.reduceToNat, Int.reduceNeg, Int.reduceSub, pm_at_add, Nat.add_sub_cancel_left, va_up_g, Int.ofNat_eq_natCast, List.getElem?_cons_zero, List.getElem?_cons_succ, List.set_cons_zero, List.set_cons_succ, List.length_cons, List.length_nil, Nat.zero_add, va_rf, nI_add, pk_mul, Int.toNat_natCast, pm_ix_nI, Option.toList_none, Option.toList_some, List.nil_append, List.cons_append, pq_ial, pq_lal, pq_aal0, pq_aal1, pq_ias, F_S, K_S, d_S_mixColumns_95, d_S_mixColumns_96, d_S_mixColumns_97, d_S_mixColumns_98, sk_4, sk_5, sk_6, sk_7, sk_u4, sk_u5, sk_u6, sk_u7, Nat.reducePow, e7]; exact rfl) ?_
    refine pm_G.sub (by simp) (lp3_mixColumns (j := j) (f := f) (g := g) (h := ch_ f h 5) (len := len) (w := w) (by omega) X ?_ 5 0 rfl)
    refine pm_G.wd (by rw [ti_n]) ?_
    refine pm_v_ok (cx_X X X_S) 2 _ _ _ _ (by simp -implicitDefEqProofs only [pv_0, pv_s, pd_iconst, pd_bipush, pd_sipush, pd_lconst_0, pd_lconst_1, pd_ldc, pd_ldc2, pd_iload_0, pd_iload_1, pd_iload_2, pd_iload_3, pd_iload, pd_lload_0, pd_lload_1, pd_lload_2, pd_lload_3, pd_lload, pd_aload_0, pd_aload_1, pd_aload_2, pd_aload_3, pd_aload, pd_istore_0, pd_istore_1, pd_istore_2, pd_istore_3, pd_istore, pd_lstore_0, pd_lstore_1, pd_lstore_2, pd_lstore_3, pd_lstore, pd_astore_0, pd_astore_1, pd_astore_2, pd_astore_3, pd_astore, pd_iinc, pd_iadd, pd_isub, pd_imul, pd_iand, pd_ior, pd_ixor, pd_ishl, pd_ishr, pd_iushr, pd_idiv, pd_irem, pd_ineg, pd_ladd, pd_lsub, pd_lmul, pd_land, pd_lor, pd_lxor, pd_lshl, pd_lushr, pd_lcmp, pd_i2l, pd_l2i, pd_dup_int, pd_pop_int, pd_dup_ref, pd_pop_ref, pd_dup_x1_ir, pd_dup_x1_ii, pd_dup2_ir, pd_dup2_ii, pd_goto, pd_if_eq, pd_if_ne, pd_if_lt, pd_if_ge, pd_if_gt, pd_if_le, pd_icmp_eq, pd_icmp_ne, pd_icmp_lt, pd_icmp_ge, pd_icmp_gt, pd_icmp_le, pd_iaload, pd_baload, pd_laload, pd_aaload, pd_iastore, pd_bastore, pd_lastore, pd_alen, pd_getfield, pd_putfield, ph_las, ph_len0, ph_len1, ph_len2, ph_gf, ph_pfi, ph_pfl, ph_pfz0, ph_pfz1, ph_nz0, ph_nz1, pm_cm1, pm_c0, pm_c1, pm_c2, pm_c3, pm_c4, pm_c5, pm_b6, pm_b7, pm_b8, pm_b9, pm_b10, pm_b11, pm_b12, pm_b14, pm_b15, pm_b16, pm_b20, pm_b24, pm_b25, pm_b28, pm_b31, pm_b32, pm_b48, pm_b56, pm_b60, pm_b63, pm_b64, pm_b67, pm_b68, pm_b89, pm_b90, pm_b95, pm_b100, pm_b120, pm_b127, pm_h128, pm_h150, pm_h168, pm_h255, pm_h256, pm_h360, pm_h369, pm_h450, pm_h4096, pm_h8192, pm_h32767, pm_h4643, pm_h13363, pm_h20579, pm_h25843, pm_h29227, pm_h31145, pm_h32103, pm_h32525, pm_h32689, pm_h32745, pm_h32762, pm_h32766, pm_o, pm_ldi, pm_ldl, pm_lda, pm_sti, pm_stl, pm_sta, pm_lk, pm_f1, pm_f2, Value.category, lv_args, Option.bind_some, Option.map_some, if_true, if_false, ite_true, ite_false, Nat.reduceAdd, Nat.reduceSub, Nat.reduceMul, Nat.reduceDiv, Nat.reduceMod, Nat.reduceLT, Nat.reduceLeDiff, Nat.reduceEqDiff, reduceIte, reduceCtorEq, Int.reduceNatCast, Int.reduceNatCast', Int.reduceAdd, Int.reduceLE, Int.reduceLT, Int.reduceToNat, Int.reduceNeg, Int.reduceSub, pm_at_add, Nat.add_sub_cancel_left, va_up_g, Int.ofNat_eq_natCast, List.getElem?_cons_zero, List.getElem?_cons_succ, List.set_cons_zero, List.set_cons_succ, List.length_cons, List.length_nil, Nat.zero_add, va_rf, nI_add, pk_mul, Int.toNat_natCast, pm_ix_nI, Option.toList_none, Option.toList_some, List.nil_append, List.cons_append, pq_ial, pq_lal, pq_aal0, pq_aal1, pq_ias, F_S, K_S, d_S_mixColumns_124, d_S_mixColumns_127]; exact rfl) ?_
    exact pm_G.sub (by simp) (ih (j + 1) (by omega))
set_option maxHeartbeats 4000000 in
theorem m_S_mixColumns : mm_ l y_S_mixColumns c_S_mixColumns 5 none (rm_ 1) D tc sz tk [.ref (sz + 4)] hz 91 (sk_ tc sz w f g h len) hz 91 (fun v w1 => v = none ∧ w1 = sk_ tc sz w (ti_ f 5 0) g (ch_ f h 5) len) := by
  refine mm_of (by decide) (Nat.le_of_ble_eq_true rfl) ?_
  intro p e s m args below meth c X hr hk hnm
  refine pm_v_ok (cx_X X X_S) 2 _ _ _ _ (by simp -implicitDefEqProofs only [pv_0, pv_s, pd_iconst, pd_bipush, pd_sipush, pd_lconst_0, pd_lconst_1, pd_ldc, pd_ldc2, pd_iload_0, pd_iload_1, pd_iload_2, pd_iload_3, pd_iload, pd_lload_0, pd_lload_1, pd_lload_2, pd_lload_3, pd_lload, pd_aload_0, pd_aload_1, pd_aload_2, pd_aload_3, pd_aload, pd_istore_0, pd_istore_1, pd_istore_2, pd_istore_3, pd_istore, pd_lstore_0, pd_lstore_1, pd_lstore_2, pd_lstore_3, pd_lstore, pd_astore_0, pd_astore_1, pd_astore_2, pd_astore_3, pd_astore, pd_iinc, pd_iadd, pd_isub, pd_imul, pd_iand, pd_ior, pd_ixor, pd_ishl, pd_ishr, pd_iushr, pd_idiv, pd_irem, pd_ineg, pd_ladd, pd_lsub, pd_lmul, pd_land, pd_lor, pd_lxor, pd_lshl, pd_lushr, pd_lcmp, pd_i2l, pd_l2i, pd_dup_int, pd_pop_int, pd_dup_ref, pd_pop_ref, pd_dup_x1_ir, pd_dup_x1_ii, pd_dup2_ir, pd_dup2_ii, pd_goto, pd_if_eq, pd_if_ne, pd_if_lt, pd_if_ge, pd_if_gt, pd_if_le, pd_icmp_eq, pd_icmp_ne, pd_icmp_lt, pd_icmp_ge, pd_icmp_gt, pd_icmp_le, pd_iaload, pd_baload, pd_laload, pd_aaload, pd_iastore, pd_bastore, pd_lastore, pd_alen, pd_getfield, pd_putfield, ph_las, ph_len0, ph_len1, ph_len2, ph_gf, ph_pfi, ph_pfl, ph_pfz0, ph_pfz1, ph_nz0, ph_nz1, pm_cm1, pm_c0, pm_c1, pm_c2, pm_c3, pm_c4, pm_c5, pm_b6, pm_b7, pm_b8, pm_b9, pm_b10, pm_b11, pm_b12, pm_b14, pm_b15, pm_b16, pm_b20, pm_b24, pm_b25, pm_b28, pm_b31, pm_b32, pm_b48, pm_b56, pm_b60, pm_b63, pm_b64, pm_b67, pm_b68, pm_b89, pm_b90, pm_b95, pm_b100, pm_b120, pm_b127, pm_h128, pm_h150, pm_h168, pm_h255, pm_h256, pm_h360, pm_h369, pm_h450, pm_h4096, pm_h8192, pm_h32767, pm_h4643, pm_h13363, pm_h20579, pm_h25843, pm_h29227, pm_h31145, pm_h32103, pm_h32525, pm_h32689, pm_h32745, pm_h32762, pm_h32766, pm_o, pm_ldi, pm_ldl, pm_lda, pm_sti, pm_stl, pm_sta, pm_lk, pm_f1, pm_f2, Value.category, lv_args, Option.bind_some, Option.map_some, if_true, if_false, ite_true, ite_false, Nat.reduceAdd, Nat.reduceSub, Nat.reduceMul, Nat.reduceDiv, Nat.reduceMod, Nat.reduceLT, Nat.reduceLeDiff, Nat.reduceEqDiff, reduceIte, reduceCtorEq, Int.reduceNatCast, Int.reduceNatCast', Int.reduceAdd, Int.reduceLE, Int.reduceLT, Int.reduceToNat, Int.reduceNeg, Int.reduceSub, pm_at_add, Nat.add_sub_cancel_left, va_up_g, Int.ofNat_eq_natCast, List.getElem?_cons_zero, List.getElem?_cons_succ, List.set_cons_zero, List.set_cons_succ, List.length_cons, List.length_nil, Nat.zero_add, va_rf, nI_add, pk_mul, Int.toNat_natCast, pm_ix_nI, Option.toList_none, Option.toList_some, List.nil_append, List.cons_append, pq_ial, pq_lal, pq_aal0, pq_aal1, pq_ias, F_S, K_S, d_S_mixColumns_0, d_S_mixColumns_1]; exact rfl) ?_
  refine pm_G.wd (w' := sk_ tc sz w f g (ch_ f h 0) len) (by rw [ch_0]) (pm_G.sub (by simp) (lp1_mixColumns (f := f) (g := g) (h := h) (len := len) (w := w) X ?_ 5 0 rfl))
  refine pm_v_ok (cx_X X X_S) 2 _ _ _ _ (by simp -implicitDefEqProofs only [pv_0, pv_s, pd_iconst, pd_bipush, pd_sipush, pd_lconst_0, pd_lconst_1, pd_ldc, pd_ldc2, pd_iload_0, pd_iload_1, pd_iload_2, pd_iload_3, pd_iload, pd_lload_0, pd_lload_1, pd_lload_2, pd_lload_3, pd_lload, pd_aload_0, pd_aload_1, pd_aload_2, pd_aload_3, pd_aload, pd_istore_0, pd_istore_1, pd_istore_2, pd_istore_3, pd_istore, pd_lstore_0, pd_lstore_1, pd_lstore_2, pd_lstore_3, pd_lstore, pd_astore_0, pd_astore_1, pd_astore_2, pd_astore_3, pd_astore, pd_iinc, pd_iadd, pd_isub, pd_imul, pd_iand, pd_ior, pd_ixor, pd_ishl, pd_ishr, pd_iushr, pd_idiv, pd_irem, pd_ineg, pd_ladd, pd_lsub, pd_lmul, pd_land, pd_lor, pd_lxor, pd_lshl, pd_lushr, pd_lcmp, pd_i2l, pd_l2i, pd_dup_int, pd_pop_int, pd_dup_ref, pd_pop_ref, pd_dup_x1_ir, pd_dup_x1_ii, pd_dup2_ir, pd_dup2_ii, pd_goto, pd_if_eq, pd_if_ne, pd_if_lt, pd_if_ge, pd_if_gt, pd_if_le, pd_icmp_eq, pd_icmp_ne, pd_icmp_lt, pd_icmp_ge, pd_icmp_gt, pd_icmp_le, pd_iaload, pd_baload, pd_laload, pd_aaload, pd_iastore, pd_bastore, pd_lastore, pd_alen, pd_getfield, pd_putfield, ph_las, ph_len0, ph_len1, ph_len2, ph_gf, ph_pfi, ph_pfl, ph_pfz0, ph_pfz1, ph_nz0, ph_nz1, pm_cm1, pm_c0, pm_c1, pm_c2, pm_c3, pm_c4, pm_c5, pm_b6, pm_b7, pm_b8, pm_b9, pm_b10, pm_b11, pm_b12, pm_b14, pm_b15, pm_b16, pm_b20, pm_b24, pm_b25, pm_b28, pm_b31, pm_b32, pm_b48, pm_b56, pm_b60, pm_b63, pm_b64, pm_b67, pm_b68, pm_b89, pm_b90, pm_b95, pm_b100, pm_b120, pm_b127, pm_h128, pm_h150, pm_h168, pm_h255, pm_h256, pm_h360, pm_h369, pm_h450, pm_h4096, pm_h8192, pm_h32767, pm_h4643, pm_h13363, pm_h20579, pm_h25843, pm_h29227, pm_h31145, pm_h32103, pm_h32525, pm_h32689, pm_h32745, pm_h32762, pm_h32766, pm_o, pm_ldi, pm_ldl, pm_lda, pm_sti, pm_stl, pm_sta, pm_lk, pm_f1, pm_f2, Value.category, lv_args, Option.bind_some, Option.map_some, if_true, if_false, ite_true, ite_false, Nat.reduceAdd, Nat.reduceSub, Nat.reduceMul, Nat.reduceDiv, Nat.reduceMod, Nat.reduceLT, Nat.reduceLeDiff, Nat.reduceEqDiff, reduceIte, reduceCtorEq, Int.reduceNatCast, Int.reduceNatCast', Int.reduceAdd, Int.reduceLE, Int.reduceLT, Int.reduceToNat, Int.reduceNeg, Int.reduceSub, pm_at_add, Nat.add_sub_cancel_left, va_up_g, Int.ofNat_eq_natCast, List.getElem?_cons_zero, List.getElem?_cons_succ, List.set_cons_zero, List.set_cons_succ, List.length_cons, List.length_nil, Nat.zero_add, va_rf, nI_add, pk_mul, Int.toNat_natCast, pm_ix_nI, Option.toList_none, Option.toList_some, List.nil_append, List.cons_append, pq_ial, pq_lal, pq_aal0, pq_aal1, pq_ias, F_S, K_S, d_S_mixColumns_64, d_S_mixColumns_65]; exact rfl) ?_
  refine pm_G.wd (w' := sk_ tc sz w (ti_ f 0 0) g (ch_ f h 5) len) (by rw [ti_0]) (pm_G.sub (by simp) (lp2_mixColumns (f := f) (g := g) (h := h) (len := len) (w := w) X ?_ 5 0 rfl))
  exact mr_v X hr hk d_S_mixColumns_130 (Nat.le_refl _) (Nat.le_refl _) ⟨rfl, rfl⟩
end M3
end
section
section M4
variable {p : Program} {l : Launch} {e : Env} {R : Room} {s : State} {m : MethodId} {args : Array Value} {below : List Frame} {meth : Method} {c : Code} {Q : State → Prop} {D : va_G} {tc : Nat → ClassId} {sz : Nat} {tk : Nat → Nat} {hz : Option Nat} {w : Nat → va_E}
variable {f g h f1 : Nat → Int64} {len N i j k a : Nat} {x : Int64} {r : Nat → Int32}
def mv_ (f g : Nat → Int64) : Nat → Nat → Int64
  | 0 => g
  | j + 1 => vp_updL (mv_ f g j) (go_ j) (ro_ (f j) (nI (tn_ j)))
theorem go_lt : ∀ j, j < 25 → go_ j < 25 := by decide
set_option maxHeartbeats 4000000 in
theorem lp_moveLanes (X : cx_ p s m args c c_S_moveLanes 2 R_S D tc sz tk) (he : pm_G p l e (rm_ 1) s m args below meth c Q D cl_ sz 2 hz 91 0 0 (sk_ tc sz w f (mv_ f g 25) h len) 38 [(1, .int (nI 25)), (0, .ref (sz + 4))] []) : ∀ i j : Nat, j + i = 25 → pm_G p l e (rm_ 1) s m args below meth c Q D cl_ sz 2 hz 91 0 0 (sk_ tc sz w f (mv_ f g j) h len) 2 [(1, .int (nI j)), (0, .ref (sz + 4))] [] := by
  have hSt := X.2.2.2
  intro i
  induction i with
  | zero =>
    intro j hj
    obtain rfl : j = 25 := by omega
    have h1 : (nI 25 ≤ nI 25) = True := eq_true (nI_le (Nat.le_refl _) (by decide))
    refine pm_v_ok (cx_X X X_S) 3 _ _ _ _ (by simp -implicitDefEqProofs only [pv_0, pv_s, pd_iconst, pd_bipush, pd_sipush, pd_lconst_0, pd_lconst_1, pd_ldc, pd_ldc2, pd_iload_0, pd_iload_1, pd_iload_2, pd_iload_3, pd_iload, pd_lload_0, pd_lload_1, pd_lload_2, pd_lload_3, pd_lload, pd_aload_0, pd_aload_1, pd_aload_2, pd_aload_3, pd_aload, pd_istore_0, pd_istore_1, pd_istore_2, pd_istore_3, pd_istore, pd_lstore_0, pd_lstore_1, pd_lstore_2, pd_lstore_3, pd_lstore, pd_astore_0, pd_astore_1, pd_astore_2, pd_astore_3, pd_astore, pd_iinc, pd_iadd, pd_isub, pd_imul, pd_iand, pd_ior, pd_ixor, pd_ishl, pd_ishr, pd_iushr, pd_idiv, pd_irem, pd_ineg, pd_ladd, pd_lsub, pd_lmul, pd_land, pd_lor, pd_lxor, pd_lshl, pd_lushr, pd_lcmp, pd_i2l, pd_l2i, pd_dup_int, pd_pop_int, pd_dup_ref, pd_pop_ref, pd_dup_x1_ir, pd_dup_x1_ii, pd_dup2_ir, pd_dup2_ii, pd_goto, pd_if_eq, pd_if_ne, pd_if_lt, pd_if_ge, pd_if_gt, pd_if_le, pd_icmp_eq, pd_icmp_ne, pd_icmp_lt, pd_icmp_ge, pd_icmp_gt, pd_icmp_le, pd_iaload, pd_baload, pd_laload, pd_aaload, pd_iastore, pd_bastore, pd_lastore, pd_alen, pd_getfield, pd_putfield, ph_las, ph_len0, ph_len1, ph_len2, ph_gf, ph_pfi, ph_pfl, ph_pfz0, ph_pfz1, ph_nz0, ph_nz1, pm_cm1, pm_c0, pm_c1, pm_c2, pm_c3, pm_c4, pm_c5, pm_b6, pm_b7, pm_b8, pm_b9, pm_b10, pm_b11, pm_b12, pm_b14, pm_b15, pm_b16, pm_b20, pm_b24, pm_b25, pm_b28, pm_b31, pm_b32, pm_b48, pm_b56, pm_b60, pm_b63, pm_b64, pm_b67, pm_b68, pm_b89, pm_b90, pm_b95, pm_b100, pm_b120, pm_b127, pm_h128, pm_h150, pm_h168, pm_h255, pm_h256, pm_h360, pm_h369, pm_h450, pm_h4096, pm_h8192, pm_h32767, pm_h4643, pm_h13363, pm_h20579, pm_h25843, pm_h29227, pm_h31145, pm_h32103, pm_h32525, pm_h32689, pm_h32745, pm_h32762, pm_h32766, pm_o, pm_ldi, pm_ldl, pm_lda, pm_sti, pm_stl, pm_sta, pm_lk, pm_f1, pm_f2, Value.category, lv_args, Option.bind_some, Option.map_some, if_true, if_false, ite_true, ite_false, Nat.reduceAdd, Nat.reduceSub, Nat.reduceMul, Nat.reduceDiv, Nat.reduceMod, Nat.reduceLT, Nat.reduceLeDiff, Nat.reduceEqDiff, reduceIte, reduceCtorEq, Int.reduceNatCast, Int.reduceNatCast', Int.reduceAdd, Int.reduceLE, Int.reduceLT, Int.reduceToNat, Int.reduceNeg, Int.reduceSub, pm_at_add, Nat.add_sub_cancel_left, va_up_g, Int.ofNat_eq_natCast, List.getElem?_cons_zero, List.getElem?_cons_succ, List.set_cons_zero, List.set_cons_succ, List.length_cons, List.length_nil, Nat.zero_add, va_rf, nI_add, pk_mul, Int.toNat_natCast, pm_ix_nI, Option.toList_none, Option.toList_some, List.nil_append, List.cons_append, pq_ial, pq_lal, pq_aal0, pq_aal1, pq_ias, F_S, K_S, d_S_moveLanes_2, d_S_moveLanes_3, d_S_moveLanes_5, h1]; exact rfl) ?_
    exact he
  | succ i ih =>
    intro j hj
    have h1 : (nI 25 ≤ nI j) = False := eq_false (nI_ge (by omega) (by decide))
    have e1 : pm_ix (nI j) 25 = some j := pm_ix_nI (by omega) (by decide)
    have e2 : pm_ix (nI (go_ j)) 25 = some (go_ j) := pm_ix_nI (go_lt j (by omega)) (by decide)
    refine pm_v_ok (cx_X X X_S) 5 _ _ _ _ (by simp -implicitDefEqProofs only [pv_0, pv_s, pd_iconst, pd_bipush, pd_sipush, pd_lconst_0, pd_lconst_1, pd_ldc, pd_ldc2, pd_iload_0, pd_iload_1, pd_iload_2, pd_iload_3, pd_iload, pd_lload_0, pd_lload_1, pd_lload_2, pd_lload_3, pd_lload, pd_aload_0, pd_aload_1, pd_aload_2, pd_aload_3, pd_aload, pd_istore_0, pd_istore_1, pd_istore_2, pd_istore_3, pd_istore, pd_lstore_0, pd_lstore_1, pd_lstore_2, pd_lstore_3, pd_lstore, pd_astore_0, pd_astore_1, pd_astore_2, pd_astore_3, pd_astore, pd_iinc, pd_iadd, pd_isub, pd_imul, pd_iand, pd_ior, pd_ixor, pd_ishl, pd_ishr, pd_iushr, pd_idiv, pd_irem, pd_ineg, pd_ladd, pd_lsub, pd_lmul, pd_land, pd_lor, pd_lxor, pd_lshl, pd_lushr, pd_lcmp, pd_i2l, pd_l2i, pd_dup_int, pd_pop_int, pd_dup_ref, pd_pop_ref, pd_dup_x1_ir, pd_dup_x1_ii, pd_dup2_ir, pd_dup2_ii, pd_goto, pd_if_eq, pd_if_ne, pd_if_lt, pd_if_ge, pd_if_gt, pd_if_le, pd_icmp_eq, pd_icmp_ne, pd_icmp_lt, pd_icmp_ge, pd_icmp_gt, pd_icmp_le, pd_iaload, pd_baload, pd_laload, pd_aaload, pd_iastore, pd_bastore, pd_lastore, pd_alen, pd_getfield, pd_putfield, ph_las, ph_len0, ph_len1, ph_len2, ph_gf, ph_pfi, ph_pfl, ph_pfz0, ph_pfz1, ph_nz0, ph_nz1, pm_cm1, pm_c0, pm_c1, pm_c2, pm_c3, pm_c4, pm_c5, pm_b6, pm_b7, pm_b8, pm_b9, pm_b10, pm_b11, pm_b12, pm_b14, pm_b15, pm_b16, pm_b20, pm_b24, pm_b25, pm_b28, pm_b31, pm_b32, pm_b48, pm_b56, pm_b60, pm_b63, pm_b64, pm_b67, pm_b68, pm_b89, pm_b90, pm_b95, pm_b100, pm_b120, pm_b127, pm_h128, pm_h150, pm_h168, pm_h255, pm_h256, pm_h360, pm_h369, pm_h450, pm_h4096, pm_h8192, pm_h32767, pm_h4643, pm_h13363, pm_h20579, pm_h25843, pm_h29227, pm_h31145, pm_h32103, pm_h32525, pm_h32689, pm_h32745, pm_h32762, pm_h32766, pm_o, pm_ldi, pm_ldl, pm_lda, pm_sti, pm_stl, pm_sta, pm_lk, pm_f1, pm_f2, Value.category, lv_args, Option.bind_some, Option.map_some, if_true, if_false, ite_true, ite_false, Nat.reduceAdd, Nat.reduceSub, Nat.reduceMul, Nat.reduceDiv, Nat.reduceMod, Nat.reduceLT, Nat.reduceLeDiff, Nat.reduceEqDiff, reduceIte, reduceCtorEq, Int.reduceNatCast, Int.reduceNatCast', Int.reduceAdd, Int.reduceLE, Int.reduceLT, Int.reduceToNat, Int.reduceNeg, Int.reduceSub, pm_at_add, Nat.add_sub_cancel_left, va_up_g, Int.ofNat_eq_natCast, List.getElem?_cons_zero, List.getElem?_cons_succ, List.set_cons_zero, List.set_cons_succ, List.length_cons, List.length_nil, Nat.zero_add, va_rf, nI_add, pk_mul, Int.toNat_natCast, pm_ix_nI, Option.toList_none, Option.toList_some, List.nil_append, List.cons_append, pq_ial, pq_lal, pq_aal0, pq_aal1, pq_ias, F_S, K_S, d_S_moveLanes_2, d_S_moveLanes_3, d_S_moveLanes_5, d_S_moveLanes_8, d_S_moveLanes_9, sk_4, sk_5, sk_6, sk_7, sk_u4, sk_u5, sk_u6, sk_u7, Nat.reducePow, h1]; exact rfl) ?_
    refine mm_gN X hSt.2.2.1.1 (host := "LatticeWraps") (List.mem_of_getElem? (i := 17) (by decide +kernel)) d_S_moveLanes_12 ?_
    refine pm_v_ok (cx_X X X_S) 1 _ _ _ _ (by simp -implicitDefEqProofs only [pv_0, pv_s, pd_iconst, pd_bipush, pd_sipush, pd_lconst_0, pd_lconst_1, pd_ldc, pd_ldc2, pd_iload_0, pd_iload_1, pd_iload_2, pd_iload_3, pd_iload, pd_lload_0, pd_lload_1, pd_lload_2, pd_lload_3, pd_lload, pd_aload_0, pd_aload_1, pd_aload_2, pd_aload_3, pd_aload, pd_istore_0, pd_istore_1, pd_istore_2, pd_istore_3, pd_istore, pd_lstore_0, pd_lstore_1, pd_lstore_2, pd_lstore_3, pd_lstore, pd_astore_0, pd_astore_1, pd_astore_2, pd_astore_3, pd_astore, pd_iinc, pd_iadd, pd_isub, pd_imul, pd_iand, pd_ior, pd_ixor, pd_ishl, pd_ishr, pd_iushr, pd_idiv, pd_irem, pd_ineg, pd_ladd, pd_lsub, pd_lmul, pd_land, pd_lor, pd_lxor, pd_lshl, pd_lushr, pd_lcmp, pd_i2l, pd_l2i, pd_dup_int, pd_pop_int, pd_dup_ref, pd_pop_ref, pd_dup_x1_ir, pd_dup_x1_ii, pd_dup2_ir, pd_dup2_ii, pd_goto, pd_if_eq, pd_if_ne, pd_if_lt, pd_if_ge, pd_if_gt, pd_if_le, pd_icmp_eq, pd_icmp_ne, pd_icmp_lt, pd_icmp_ge, pd_icmp_gt, pd_icmp_le, pd_iaload, pd_baload, pd_laload, pd_aaload, pd_iastore, pd_bastore, pd_lastore, pd_alen, pd_getfield, pd_putfield, ph_las, ph_len0, ph_len1, ph_len2, ph_gf, ph_pfi, ph_pfl, ph_pfz0, ph_pfz1, ph_nz0, ph_nz1, pm_cm1, pm_c0, pm_c1, pm_c2, pm_c3, pm_c4, pm_c5, pm_b6, pm_b7, pm_b8, pm_b9, pm_b10, pm_b11, pm_b12, pm_b14, pm_b15, pm_b16, pm_b20, pm_b24, pm_b25, pm_b28, pm_b31, pm_b32, pm_b48, pm_b56, pm_b60, pm_b63, pm_b64, pm_b67, pm_b68, pm_b89, pm_b90, pm_b95, pm_b100, pm_b120, pm_b127, pm_h128, pm_h150, pm_h168, pm_h255, pm_h256, pm_h360, pm_h369, pm_h450, pm_h4096, pm_h8192, pm_h32767, pm_h4643, pm_h13363, pm_h20579, pm_h25843, pm_h29227, pm_h31145, pm_h32103, pm_h32525, pm_h32689, pm_h32745, pm_h32762, pm_h32766, pm_o, pm_ldi, pm_ldl, pm_lda, pm_sti, pm_stl, pm_sta, pm_lk, pm_f1, pm_f2, Value.category, lv_args, Option.bind_some, Option.map_some, if_true, if_false, ite_true, ite_false, Nat.reduceAdd, Nat.reduceSub, Nat.reduceMul, Nat.reduceDiv, Nat.reduceMod, Nat.reduceLT, Nat.reduceLeDiff, Nat.reduceEqDiff, reduceIte, reduceCtorEq, Int.reduceNatCast, Int.reduceNatCast', Int.reduceAdd, Int.reduceLE, Int.reduceLT, Int.reduceToNat, Int.reduceNeg, Int.reduceSub, pm_at_add, Nat.add_sub_cancel_left, va_up_g, Int.ofNat_eq_natCast, List.getElem?_cons_zero, List.getElem?_cons_succ, List.set_cons_zero, List.set_cons_succ, List.length_cons, List.length_nil, Nat.zero_add, va_rf, nI_add, pk_mul, Int.toNat_natCast, pm_ix_nI, Option.toList_none, Option.toList_some, List.nil_append, List.cons_append, pq_ial, pq_lal, pq_aal0, pq_aal1, pq_ias, F_S, K_S, d_S_moveLanes_15]; exact rfl) ?_
    refine mm_ti X hSt.2.2.1.2 (by omega) (by decide) rfl d_S_moveLanes_16 ?_
    refine pm_v_ok (cx_X X X_S) 4 _ _ _ _ (by simp -implicitDefEqProofs only [pv_0, pv_s, pd_iconst, pd_bipush, pd_sipush, pd_lconst_0, pd_lconst_1, pd_ldc, pd_ldc2, pd_iload_0, pd_iload_1, pd_iload_2, pd_iload_3, pd_iload, pd_lload_0, pd_lload_1, pd_lload_2, pd_lload_3, pd_lload, pd_aload_0, pd_aload_1, pd_aload_2, pd_aload_3, pd_aload, pd_istore_0, pd_istore_1, pd_istore_2, pd_istore_3, pd_istore, pd_lstore_0, pd_lstore_1, pd_lstore_2, pd_lstore_3, pd_lstore, pd_astore_0, pd_astore_1, pd_astore_2, pd_astore_3, pd_astore, pd_iinc, pd_iadd, pd_isub, pd_imul, pd_iand, pd_ior, pd_ixor, pd_ishl, pd_ishr, pd_iushr, pd_idiv, pd_irem, pd_ineg, pd_ladd, pd_lsub, pd_lmul, pd_land, pd_lor, pd_lxor, pd_lshl, pd_lushr, pd_lcmp, pd_i2l, pd_l2i, pd_dup_int, pd_pop_int, pd_dup_ref, pd_pop_ref, pd_dup_x1_ir, pd_dup_x1_ii, pd_dup2_ir, pd_dup2_ii, pd_goto, pd_if_eq, pd_if_ne, pd_if_lt, pd_if_ge, pd_if_gt, pd_if_le, pd_icmp_eq, pd_icmp_ne, pd_icmp_lt, pd_icmp_ge, pd_icmp_gt, pd_icmp_le, pd_iaload, pd_baload, pd_laload, pd_aaload, pd_iastore, pd_bastore, pd_lastore, pd_alen, pd_getfield, pd_putfield, ph_las, ph_len0, ph_len1, ph_len2, ph_gf, ph_pfi, ph_pfl, ph_pfz0, ph_pfz1, ph_nz0, ph_nz1, pm_cm1, pm_c0, pm_c1, pm_c2, pm_c3, pm_c4, pm_c5, pm_b6, pm_b7, pm_b8, pm_b9, pm_b10, pm_b11, pm_b12, pm_b14, pm_b15, pm_b16, pm_b20, pm_b24, pm_b25, pm_b28, pm_b31, pm_b32, pm_b48, pm_b56, pm_b60, pm_b63, pm_b64, pm_b67, pm_b68, pm_b89, pm_b90, pm_b95, pm_b100, pm_b120, pm_b127, pm_h128, pm_h150, pm_h168, pm_h255, pm_h256, pm_h360, pm_h369, pm_h450, pm_h4096, pm_h8192, pm_h32767, pm_h4643, pm_h13363, pm_h20579, pm_h25843, pm_h29227, pm_h31145, pm_h32103, pm_h32525, pm_h32689, pm_h32745, pm_h32762, pm_h32766, pm_o, pm_ldi, pm_ldl, pm_lda, pm_sti, pm_stl, pm_sta, pm_lk, pm_f1, pm_f2, Value.category, lv_args, Option.bind_some, Option.map_some, if_true, if_false, ite_true, ite_false, Nat.reduceAdd, Nat.reduceSub, Nat.reduceMul, Nat.reduceDiv, Nat.reduceMod, Nat.reduceLT, Nat.reduceLeDiff, Nat.reduceEqDiff, reduceIte, reduceCtorEq, Int.reduceNatCast, Int.reduceNatCast', Int.reduceAdd, Int.reduceLE, Int.reduceLT, Int.reduceToNat, Int.reduceNeg, Int.reduceSub, pm_at_add, Nat.add_sub_cancel_left, va_up_g, Int.ofNat_eq_natCast, List.getElem?_cons_zero, List.getElem?_cons_succ, List.set_cons_zero, List.set_cons_succ, List.length_cons, List.length_nil, Nat.zero_add, va_rf, nI_add, pk_mul, Int.toNat_natCast, pm_ix_nI, Option.toList_none, Option.toList_some, List.nil_append, List.cons_append, pq_ial, pq_lal, pq_aal0, pq_aal1, pq_ias, F_S, K_S, d_S_moveLanes_17, d_S_moveLanes_18, d_S_moveLanes_21, d_S_moveLanes_22, sk_4, sk_5, sk_6, sk_7, sk_u4, sk_u5, sk_u6, sk_u7, Nat.reducePow, e1]; exact rfl) ?_
    refine mm_gN X hSt.2.2.2.1.1 (host := "LatticeWraps") (List.mem_of_getElem? (i := 18) (by decide +kernel)) d_S_moveLanes_23 ?_
    refine pm_v_ok (cx_X X X_S) 1 _ _ _ _ (by simp -implicitDefEqProofs only [pv_0, pv_s, pd_iconst, pd_bipush, pd_sipush, pd_lconst_0, pd_lconst_1, pd_ldc, pd_ldc2, pd_iload_0, pd_iload_1, pd_iload_2, pd_iload_3, pd_iload, pd_lload_0, pd_lload_1, pd_lload_2, pd_lload_3, pd_lload, pd_aload_0, pd_aload_1, pd_aload_2, pd_aload_3, pd_aload, pd_istore_0, pd_istore_1, pd_istore_2, pd_istore_3, pd_istore, pd_lstore_0, pd_lstore_1, pd_lstore_2, pd_lstore_3, pd_lstore, pd_astore_0, pd_astore_1, pd_astore_2, pd_astore_3, pd_astore, pd_iinc, pd_iadd, pd_isub, pd_imul, pd_iand, pd_ior, pd_ixor, pd_ishl, pd_ishr, pd_iushr, pd_idiv, pd_irem, pd_ineg, pd_ladd, pd_lsub, pd_lmul, pd_land, pd_lor, pd_lxor, pd_lshl, pd_lushr, pd_lcmp, pd_i2l, pd_l2i, pd_dup_int, pd_pop_int, pd_dup_ref, pd_pop_ref, pd_dup_x1_ir, pd_dup_x1_ii, pd_dup2_ir, pd_dup2_ii, pd_goto, pd_if_eq, pd_if_ne, pd_if_lt, pd_if_ge, pd_if_gt, pd_if_le, pd_icmp_eq, pd_icmp_ne, pd_icmp_lt, pd_icmp_ge, pd_icmp_gt, pd_icmp_le, pd_iaload, pd_baload, pd_laload, pd_aaload, pd_iastore, pd_bastore, pd_lastore, pd_alen, pd_getfield, pd_putfield, ph_las, ph_len0, ph_len1, ph_len2, ph_gf, ph_pfi, ph_pfl, ph_pfz0, ph_pfz1, ph_nz0, ph_nz1, pm_cm1, pm_c0, pm_c1, pm_c2, pm_c3, pm_c4, pm_c5, pm_b6, pm_b7, pm_b8, pm_b9, pm_b10, pm_b11, pm_b12, pm_b14, pm_b15, pm_b16, pm_b20, pm_b24, pm_b25, pm_b28, pm_b31, pm_b32, pm_b48, pm_b56, pm_b60, pm_b63, pm_b64, pm_b67, pm_b68, pm_b89, pm_b90, pm_b95, pm_b100, pm_b120, pm_b127, pm_h128, pm_h150, pm_h168, pm_h255, pm_h256, pm_h360, pm_h369, pm_h450, pm_h4096, pm_h8192, pm_h32767, pm_h4643, pm_h13363, pm_h20579, pm_h25843, pm_h29227, pm_h31145, pm_h32103, pm_h32525, pm_h32689, pm_h32745, pm_h32762, pm_h32766, pm_o, pm_ldi, pm_ldl, pm_lda, pm_sti, pm_stl, pm_sta, pm_lk, pm_f1, pm_f2, Value.category, lv_args, Option.bind_some, Option.map_some, if_true, if_false, ite_true, ite_false, Nat.reduceAdd, Nat.reduceSub, Nat.reduceMul, Nat.reduceDiv, Nat.reduceMod, Nat.reduceLT, Nat.reduceLeDiff, Nat.reduceEqDiff, reduceIte, reduceCtorEq, Int.reduceNatCast, Int.reduceNatCast', Int.reduceAdd, Int.reduceLE, Int.reduceLT, Int.reduceToNat, Int.reduceNeg, Int.reduceSub, pm_at_add, Nat.add_sub_cancel_left, va_up_g, Int.ofNat_eq_natCast, List.getElem?_cons_zero, List.getElem?_cons_succ, List.set_cons_zero, List.set_cons_succ, List.length_cons, List.length_nil, Nat.zero_add, va_rf, nI_add, pk_mul, Int.toNat_natCast, pm_ix_nI, Option.toList_none, Option.toList_some, List.nil_append, List.cons_append, pq_ial, pq_lal, pq_aal0, pq_aal1, pq_ias, F_S, K_S, d_S_moveLanes_26]; exact rfl) ?_
    refine mm_ti X hSt.2.2.2.1.2 (by omega) (by decide) rfl d_S_moveLanes_27 ?_
    refine mm_S X (m_S_turned (x := f j) (k := nI (tn_ j))) b_S_turned l_S_70 rfl rfl (Nat.le_of_ble_eq_true rfl) d_S_moveLanes_28 (by decide) (by decide) (fun v w1 hq => ?_)
    obtain ⟨rfl, rfl⟩ := hq
    have e7 : vp_updL (mv_ f g j) (go_ j) (jl_shl (f j) (nI (tn_ j)) ||| jl_ushr (f j) (nI 64 - nI (tn_ j))) = mv_ f g (j + 1) := rfl
    refine pm_v_ok (cx_X X X_S) 3 _ _ _ _ (by simp -implicitDefEqProofs only [pv_0, pv_s, pd_iconst, pd_bipush, pd_sipush, pd_lconst_0, pd_lconst_1, pd_ldc, pd_ldc2, pd_iload_0, pd_iload_1, pd_iload_2, pd_iload_3, pd_iload, pd_lload_0, pd_lload_1, pd_lload_2, pd_lload_3, pd_lload, pd_aload_0, pd_aload_1, pd_aload_2, pd_aload_3, pd_aload, pd_istore_0, pd_istore_1, pd_istore_2, pd_istore_3, pd_istore, pd_lstore_0, pd_lstore_1, pd_lstore_2, pd_lstore_3, pd_lstore, pd_astore_0, pd_astore_1, pd_astore_2, pd_astore_3, pd_astore, pd_iinc, pd_iadd, pd_isub, pd_imul, pd_iand, pd_ior, pd_ixor, pd_ishl, pd_ishr, pd_iushr, pd_idiv, pd_irem, pd_ineg, pd_ladd, pd_lsub, pd_lmul, pd_land, pd_lor, pd_lxor, pd_lshl, pd_lushr, pd_lcmp, pd_i2l, pd_l2i, pd_dup_int, pd_pop_int, pd_dup_ref, pd_pop_ref, pd_dup_x1_ir, pd_dup_x1_ii, pd_dup2_ir, pd_dup2_ii, pd_goto, pd_if_eq, pd_if_ne, pd_if_lt, pd_if_ge, pd_if_gt, pd_if_le, pd_icmp_eq, pd_icmp_ne, pd_icmp_lt, pd_icmp_ge, pd_icmp_gt, pd_icmp_le, pd_iaload, pd_baload, pd_laload, pd_aaload, pd_iastore, pd_bastore, pd_lastore, pd_alen, pd_getfield, pd_putfield, ph_las, ph_len0, ph_len1, ph_len2, ph_gf, ph_pfi, ph_pfl, ph_pfz0, ph_pfz1, ph_nz0, ph_nz1, pm_cm1, pm_c0, pm_c1, pm_c2, pm_c3, pm_c4, pm_c5, pm_b6, pm_b7, pm_b8, pm_b9, pm_b10, pm_b11, pm_b12, pm_b14, pm_b15, pm_b16, pm_b20, pm_b24, pm_b25, pm_b28, pm_b31, pm_b32, pm_b48, pm_b56, pm_b60, pm_b63, pm_b64, pm_b67, pm_b68, pm_b89, pm_b90, pm_b95, pm_b100, pm_b120, pm_b127, pm_h128, pm_h150, pm_h168, pm_h255, pm_h256, pm_h360, pm_h369, pm_h450, pm_h4096, pm_h8192, pm_h32767, pm_h4643, pm_h13363, pm_h20579, pm_h25843, pm_h29227, pm_h31145, pm_h32103, pm_h32525, pm_h32689, pm_h32745, pm_h32762, pm_h32766, pm_o, pm_ldi, pm_ldl, pm_lda, pm_sti, pm_stl, pm_sta, pm_lk, pm_f1, pm_f2, Value.category, lv_args, Option.bind_some, Option.map_some, if_true, if_false, ite_true, ite_false, Nat.reduceAdd, Nat.reduceSub, Nat.reduceMul, Nat.reduceDiv, Nat.reduceMod, Nat.reduceLT, Nat.reduceLeDiff, Nat.reduceEqDiff, reduceIte, reduceCtorEq, Int.reduceNatCast, Int.reduceNatCast', Int.reduceAdd, Int.reduceLE, Int.reduceLT, Int.reduceToNat, Int.reduceNeg, Int.reduceSub, pm_at_add, Nat.add_sub_cancel_left, va_up_g, Int.ofNat_eq_natCast, List.getElem?_cons_zero, List.getElem?_cons_succ, List.set_cons_zero, List.set_cons_succ, List.length_cons, List.length_nil, Nat.zero_add, va_rf, nI_add, pk_mul, Int.toNat_natCast, pm_ix_nI, Option.toList_none, Option.toList_some, List.nil_append, List.cons_append, pq_ial, pq_lal, pq_aal0, pq_aal1, pq_ias, F_S, K_S, d_S_moveLanes_31, d_S_moveLanes_32, d_S_moveLanes_35, sk_4, sk_5, sk_6, sk_7, sk_u4, sk_u5, sk_u6, sk_u7, Nat.reducePow, e2, e7]; exact rfl) ?_
    exact ih (j + 1) (by omega)
set_option maxHeartbeats 4000000 in
theorem m_S_moveLanes : mm_ l y_S_moveLanes c_S_moveLanes 2 none (rm_ 1) D tc sz tk [.ref (sz + 4)] hz 91 (sk_ tc sz w f g h len) hz 91 (fun v w1 => v = none ∧ w1 = sk_ tc sz w f (mv_ f g 25) h len) := by
  refine mm_of (by decide) (Nat.le_of_ble_eq_true rfl) ?_
  intro p e s m args below meth c X hr hk hnm
  refine pm_v_ok (cx_X X X_S) 2 _ _ _ _ (by simp -implicitDefEqProofs only [pv_0, pv_s, pd_iconst, pd_bipush, pd_sipush, pd_lconst_0, pd_lconst_1, pd_ldc, pd_ldc2, pd_iload_0, pd_iload_1, pd_iload_2, pd_iload_3, pd_iload, pd_lload_0, pd_lload_1, pd_lload_2, pd_lload_3, pd_lload, pd_aload_0, pd_aload_1, pd_aload_2, pd_aload_3, pd_aload, pd_istore_0, pd_istore_1, pd_istore_2, pd_istore_3, pd_istore, pd_lstore_0, pd_lstore_1, pd_lstore_2, pd_lstore_3, pd_lstore, pd_astore_0, pd_astore_1, pd_astore_2, pd_astore_3, pd_astore, pd_iinc, pd_iadd, pd_isub, pd_imul, pd_iand, pd_ior, pd_ixor, pd_ishl, pd_ishr, pd_iushr, pd_idiv, pd_irem, pd_ineg, pd_ladd, pd_lsub, pd_lmul, pd_land, pd_lor, pd_lxor, pd_lshl, pd_lushr, pd_lcmp, pd_i2l, pd_l2i, pd_dup_int, pd_pop_int, pd_dup_ref, pd_pop_ref, pd_dup_x1_ir, pd_dup_x1_ii, pd_dup2_ir, pd_dup2_ii, pd_goto, pd_if_eq, pd_if_ne, pd_if_lt, pd_if_ge, pd_if_gt, pd_if_le, pd_icmp_eq, pd_icmp_ne, pd_icmp_lt, pd_icmp_ge, pd_icmp_gt, pd_icmp_le, pd_iaload, pd_baload, pd_laload, pd_aaload, pd_iastore, pd_bastore, pd_lastore, pd_alen, pd_getfield, pd_putfield, ph_las, ph_len0, ph_len1, ph_len2, ph_gf, ph_pfi, ph_pfl, ph_pfz0, ph_pfz1, ph_nz0, ph_nz1, pm_cm1, pm_c0, pm_c1, pm_c2, pm_c3, pm_c4, pm_c5, pm_b6, pm_b7, pm_b8, pm_b9, pm_b10, pm_b11, pm_b12, pm_b14, pm_b15, pm_b16, pm_b20, pm_b24, pm_b25, pm_b28, pm_b31, pm_b32, pm_b48, pm_b56, pm_b60, pm_b63, pm_b64, pm_b67, pm_b68, pm_b89, pm_b90, pm_b95, pm_b100, pm_b120, pm_b127, pm_h128, pm_h150, pm_h168, pm_h255, pm_h256, pm_h360, pm_h369, pm_h450, pm_h4096, pm_h8192, pm_h32767, pm_h4643, pm_h13363, pm_h20579, pm_h25843, pm_h29227, pm_h31145, pm_h32103, pm_h32525, pm_h32689, pm_h32745, pm_h32762, pm_h32766, pm_o, pm_ldi, pm_ldl, pm_lda, pm_sti, pm_stl, pm_sta, pm_lk, pm_f1, pm_f2, Value.category, lv_args, Option.bind_some, Option.map_some, if_true, if_false, ite_true, ite_false, Nat.reduceAdd, Nat.reduceSub, Nat.reduceMul, Nat.reduceDiv, Nat.reduceMod, Nat.reduceLT, Nat.reduceLeDiff, Nat.reduceEqDiff, reduceIte, reduceCtorEq, Int.reduceNatCast, Int.reduceNatCast', Int.reduceAdd, Int.reduceLE, Int.reduceLT, Int.reduceToNat, Int.reduceNeg, Int.reduceSub, pm_at_add, Nat.add_sub_cancel_left, va_up_g, Int.ofNat_eq_natCast, List.getElem?_cons_zero, List.getElem?_cons_succ, List.set_cons_zero, List.set_cons_succ, List.length_cons, List.length_nil, Nat.zero_add, va_rf, nI_add, pk_mul, Int.toNat_natCast, pm_ix_nI, Option.toList_none, Option.toList_some, List.nil_append, List.cons_append, pq_ial, pq_lal, pq_aal0, pq_aal1, pq_ias, F_S, K_S, d_S_moveLanes_0, d_S_moveLanes_1]; exact rfl) ?_
  refine pm_G.sub (by simp) (lp_moveLanes (f := f) (g := g) (h := h) (len := len) (w := w) X ?_ 25 0 rfl)
  exact mr_v X hr hk d_S_moveLanes_38 (Nat.le_refl _) (Nat.le_refl _) ⟨rfl, rfl⟩
def cc_ (g : Nat → Int64) (j : Nat) : Int64 := g j ^^^ ((g (j / 5 * 5 + (j % 5 + 1) % 5) ^^^ (-1)) &&& g (j / 5 * 5 + (j % 5 + 2) % 5))
def mr_ (f g : Nat → Int64) (k : Nat) : Nat → Int64 := fun j => if j < k then cc_ g j else f j
theorem mr_0 : mr_ f g 0 = f := by
  funext j
  simp [mr_]
theorem mr_s (hi : i < 5) : vp_updL (mr_ f g (5 * a + i)) (5 * a + i) (g (5 * a + i) ^^^ ((g (5 * a + (i + 1) % 5) ^^^ (-1)) &&& g (5 * a + (i + 2) % 5))) = mr_ f g (5 * a + (i + 1)) := by
  funext j
  by_cases hj : j = 5 * a + i
  · subst hj
    have h1 : (5 * a + i) / 5 * 5 = 5 * a := by omega
    have h2 : (5 * a + i) % 5 = i := by omega
    have h3 : 5 * a + i < 5 * a + (i + 1) := by omega
    simp [vp_updL, mr_, cc_, h1, h2, h3]
  · by_cases h2 : j < 5 * a + i
    · have h3 : j < 5 * a + (i + 1) := by omega
      simp [vp_updL, mr_, hj, h2, h3]
    · have h3 : ¬ j < 5 * a + (i + 1) := by omega
      simp [vp_updL, mr_, hj, h2, h3]
set_option maxHeartbeats 4000000 in
theorem lpi_mixRows (ha : a < 5) (X : cx_ p s m args c c_S_mixRows 7 R_S D tc sz tk) (he : pm_G p l e (rm_ 0) s m args below meth c Q D cl_ sz 7 hz 91 0 0 (sk_ tc sz w (mr_ f g (5 * a + 5)) g h len) 73 [(2, .int (nI 5)), (1, .int (nI (5 * a))), (0, .ref (sz + 4))] []) : ∀ i j : Nat, j + i = 5 → pm_G p l e (rm_ 0) s m args below meth c Q D cl_ sz 7 hz 91 0 0 (sk_ tc sz w (mr_ f g (5 * a + j)) g h len) 10 [(2, .int (nI j)), (1, .int (nI (5 * a))), (0, .ref (sz + 4))] [] := by
  intro i
  induction i with
  | zero =>
    intro j hj
    obtain rfl : j = 5 := by omega
    have h1 : (nI 5 ≤ nI 5) = True := eq_true (nI_le (Nat.le_refl _) (by decide))
    refine pm_v_ok (cx_X X X_S) 3 _ _ _ _ (by simp -implicitDefEqProofs only [pv_0, pv_s, pd_iconst, pd_bipush, pd_sipush, pd_lconst_0, pd_lconst_1, pd_ldc, pd_ldc2, pd_iload_0, pd_iload_1, pd_iload_2, pd_iload_3, pd_iload, pd_lload_0, pd_lload_1, pd_lload_2, pd_lload_3, pd_lload, pd_aload_0, pd_aload_1, pd_aload_2, pd_aload_3, pd_aload, pd_istore_0, pd_istore_1, pd_istore_2, pd_istore_3, pd_istore, pd_lstore_0, pd_lstore_1, pd_lstore_2, pd_lstore_3, pd_lstore, pd_astore_0, pd_astore_1, pd_astore_2, pd_astore_3, pd_astore, pd_iinc, pd_iadd, pd_isub, pd_imul, pd_iand, pd_ior, pd_ixor, pd_ishl, pd_ishr, pd_iushr, pd_idiv, pd_irem, pd_ineg, pd_ladd, pd_lsub, pd_lmul, pd_land, pd_lor, pd_lxor, pd_lshl, pd_lushr, pd_lcmp, pd_i2l, pd_l2i, pd_dup_int, pd_pop_int, pd_dup_ref, pd_pop_ref, pd_dup_x1_ir, pd_dup_x1_ii, pd_dup2_ir, pd_dup2_ii, pd_goto, pd_if_eq, pd_if_ne, pd_if_lt, pd_if_ge, pd_if_gt, pd_if_le, pd_icmp_eq, pd_icmp_ne, pd_icmp_lt, pd_icmp_ge, pd_icmp_gt, pd_icmp_le, pd_iaload, pd_baload, pd_laload, pd_aaload, pd_iastore, pd_bastore, pd_lastore, pd_alen, pd_getfield, pd_putfield, ph_las, ph_len0, ph_len1, ph_len2, ph_gf, ph_pfi, ph_pfl, ph_pfz0, ph_pfz1, ph_nz0, ph_nz1, pm_cm1, pm_c0, pm_c1, pm_c2, pm_c3, pm_c4, pm_c5, pm_b6, pm_b7, pm_b8, pm_b9, pm_b10, pm_b11, pm_b12, pm_b14, pm_b15, pm_b16, pm_b20, pm_b24, pm_b25, pm_b28, pm_b31, pm_b32, pm_b48, pm_b56, pm_b60, pm_b63, pm_b64, pm_b67, pm_b68, pm_b89, pm_b90, pm_b95, pm_b100, pm_b120, pm_b127, pm_h128, pm_h150, pm_h168, pm_h255, pm_h256, pm_h360, pm_h369, pm_h450, pm_h4096, pm_h8192, pm_h32767, pm_h4643, pm_h13363, pm_h20579, pm_h25843, pm_h29227, pm_h31145, pm_h32103, pm_h32525, pm_h32689, pm_h32745, pm_h32762, pm_h32766, pm_o, pm_ldi, pm_ldl, pm_lda, pm_sti, pm_stl, pm_sta, pm_lk, pm_f1, pm_f2, Value.category, lv_args, Option.bind_some, Option.map_some, if_true, if_false, ite_true, ite_false, Nat.reduceAdd, Nat.reduceSub, Nat.reduceMul, Nat.reduceDiv, Nat.reduceMod, Nat.reduceLT, Nat.reduceLeDiff, Nat.reduceEqDiff, reduceIte, reduceCtorEq, Int.reduceNatCast, Int.reduceNatCast', Int.reduceAdd, Int.reduceLE, Int.reduceLT, Int.reduceToNat, Int.reduceNeg, Int.reduceSub, pm_at_add, Nat.add_sub_cancel_left, va_up_g, Int.ofNat_eq_natCast, List.getElem?_cons_zero, List.getElem?_cons_succ, List.set_cons_zero, List.set_cons_succ, List.length_cons, List.length_nil, Nat.zero_add, va_rf, nI_add, pk_mul, Int.toNat_natCast, pm_ix_nI, Option.toList_none, Option.toList_some, List.nil_append, List.cons_append, pq_ial, pq_lal, pq_aal0, pq_aal1, pq_ias, F_S, K_S, d_S_mixRows_10, d_S_mixRows_11, d_S_mixRows_12, h1]; exact rfl) ?_
    exact he
  | succ i ih =>
    intro j hj
    have h1 : (nI 5 ≤ nI j) = False := eq_false (nI_ge (by omega) (by decide))
    have e1 : jv_rem (nI (j + 1)) (nI 5) = nI ((j + 1) % 5) := jr_ (by omega) (by decide) (by decide)
    have e2 : jv_rem (nI (j + 2)) (nI 5) = nI ((j + 2) % 5) := jr_ (by omega) (by decide) (by decide)
    have e3 : pm_ix (nI (5 * a + (j + 1) % 5)) 25 = some (5 * a + (j + 1) % 5) := pm_ix_nI (by omega) (by decide)
    have e4 : pm_ix (nI (5 * a + (j + 2) % 5)) 25 = some (5 * a + (j + 2) % 5) := pm_ix_nI (by omega) (by decide)
    have e5 : pm_ix (nI (5 * a + j)) 25 = some (5 * a + j) := pm_ix_nI (by omega) (by decide)
    have e6 : vp_updL (mr_ f g (5 * a + j)) (5 * a + j) (g (5 * a + j) ^^^ ((g (5 * a + (j + 1) % 5) ^^^ (-1)) &&& g (5 * a + (j + 2) % 5))) = mr_ f g (5 * a + (j + 1)) := mr_s (by omega)
    refine pm_v_ok (cx_X X X_S) 45 _ _ _ _ (by simp -implicitDefEqProofs only [pv_0, pv_s, pd_iconst, pd_bipush, pd_sipush, pd_lconst_0, pd_lconst_1, pd_ldc, pd_ldc2, pd_iload_0, pd_iload_1, pd_iload_2, pd_iload_3, pd_iload, pd_lload_0, pd_lload_1, pd_lload_2, pd_lload_3, pd_lload, pd_aload_0, pd_aload_1, pd_aload_2, pd_aload_3, pd_aload, pd_istore_0, pd_istore_1, pd_istore_2, pd_istore_3, pd_istore, pd_lstore_0, pd_lstore_1, pd_lstore_2, pd_lstore_3, pd_lstore, pd_astore_0, pd_astore_1, pd_astore_2, pd_astore_3, pd_astore, pd_iinc, pd_iadd, pd_isub, pd_imul, pd_iand, pd_ior, pd_ixor, pd_ishl, pd_ishr, pd_iushr, pd_idiv, pd_irem, pd_ineg, pd_ladd, pd_lsub, pd_lmul, pd_land, pd_lor, pd_lxor, pd_lshl, pd_lushr, pd_lcmp, pd_i2l, pd_l2i, pd_dup_int, pd_pop_int, pd_dup_ref, pd_pop_ref, pd_dup_x1_ir, pd_dup_x1_ii, pd_dup2_ir, pd_dup2_ii, pd_goto, pd_if_eq, pd_if_ne, pd_if_lt, pd_if_ge, pd_if_gt, pd_if_le, pd_icmp_eq, pd_icmp_ne, pd_icmp_lt, pd_icmp_ge, pd_icmp_gt, pd_icmp_le, pd_iaload, pd_baload, pd_laload, pd_aaload, pd_iastore, pd_bastore, pd_lastore, pd_alen, pd_getfield, pd_putfield, ph_las, ph_len0, ph_len1, ph_len2, ph_gf, ph_pfi, ph_pfl, ph_pfz0, ph_pfz1, ph_nz0, ph_nz1, pm_cm1, pm_c0, pm_c1, pm_c2, pm_c3, pm_c4, pm_c5, pm_b6, pm_b7, pm_b8, pm_b9, pm_b10, pm_b11, pm_b12, pm_b14, pm_b15, pm_b16, pm_b20, pm_b24, pm_b25, pm_b28, pm_b31, pm_b32, pm_b48, pm_b56, pm_b60, pm_b63, pm_b64, pm_b67, pm_b68, pm_b89, pm_b90, pm_b95, pm_b100, pm_b120, pm_b127, pm_h128, pm_h150, pm_h168, pm_h255, pm_h256, pm_h360, pm_h369, pm_h450, pm_h4096, pm_h8192, pm_h32767, pm_h4643, pm_h13363, pm_h20579, pm_h25843, pm_h29227, pm_h31145, pm_h32103, pm_h32525, pm_h32689, pm_h32745, pm_h32762, pm_h32766, pm_o, pm_ldi, pm_ldl, pm_lda, pm_sti, pm_stl, pm_sta, pm_lk, pm_f1, pm_f2, Value.category, lv_args, Option.bind_some, Option.map_some, if_true, if_false, ite_true, ite_false, Nat.reduceAdd, Nat.reduceSub, Nat.reduceMul, Nat.reduceDiv, Nat.reduceMod, Nat.reduceLT, Nat.reduceLeDiff, Nat.reduceEqDiff, reduceIte, reduceCtorEq, Int.reduceNatCast, Int.reduceNatCast', Int.reduceAdd, Int.reduceLE, Int.reduceLT, Int.reduceToNat, Int.reduceNeg, Int.reduceSub, pm_at_add, Nat.add_sub_cancel_left, va_up_g, Int.ofNat_eq_natCast, List.getElem?_cons_zero, List.getElem?_cons_succ, List.set_cons_zero, List.set_cons_succ, List.length_cons, List.length_nil, Nat.zero_add, va_rf, nI_add, pk_mul, Int.toNat_natCast, pm_ix_nI, Option.toList_none, Option.toList_some, List.nil_append, List.cons_append, pq_ial, pq_lal, pq_aal0, pq_aal1, pq_ias, F_S, K_S, d_S_mixRows_10, d_S_mixRows_11, d_S_mixRows_12, d_S_mixRows_15, d_S_mixRows_16, d_S_mixRows_19, d_S_mixRows_20, d_S_mixRows_21, d_S_mixRows_22, d_S_mixRows_23, d_S_mixRows_24, d_S_mixRows_25, d_S_mixRows_26, d_S_mixRows_27, d_S_mixRows_28, d_S_mixRows_29, d_S_mixRows_32, d_S_mixRows_33, d_S_mixRows_34, d_S_mixRows_35, d_S_mixRows_36, d_S_mixRows_37, d_S_mixRows_38, d_S_mixRows_39, d_S_mixRows_40, d_S_mixRows_42, d_S_mixRows_43, d_S_mixRows_46, d_S_mixRows_47, d_S_mixRows_48, d_S_mixRows_49, d_S_mixRows_50, d_S_mixRows_53, d_S_mixRows_54, d_S_mixRows_55, d_S_mixRows_56, d_S_mixRows_57, d_S_mixRows_58, d_S_mixRows_61, d_S_mixRows_62, d_S_mixRows_64, d_S_mixRows_65, d_S_mixRows_66, d_S_mixRows_67, d_S_mixRows_70, sk_4, sk_5, sk_6, sk_7, sk_u4, sk_u5, sk_u6, sk_u7, Nat.reducePow, h1, e1, e2, e3, e4, e5, e6, nz_5]; exact rfl) ?_
    exact pm_G.sub (by simp) (ih (j + 1) (by omega))
set_option maxHeartbeats 4000000 in
theorem lpo_mixRows (X : cx_ p s m args c c_S_mixRows 7 R_S D tc sz tk) (he : pm_G p l e (rm_ 0) s m args below meth c Q D cl_ sz 7 hz 91 0 0 (sk_ tc sz w (mr_ f g (5 * 5)) g h len) 79 [(1, .int (nI (5 * 5))), (0, .ref (sz + 4))] []) : ∀ i j : Nat, j + i = 5 → pm_G p l e (rm_ 0) s m args below meth c Q D cl_ sz 7 hz 91 0 0 (sk_ tc sz w (mr_ f g (5 * j)) g h len) 2 [(1, .int (nI (5 * j))), (0, .ref (sz + 4))] [] := by
  intro i
  induction i with
  | zero =>
    intro j hj
    obtain rfl : j = 5 := by omega
    have h1 : (nI 25 ≤ nI (5 * 5)) = True := eq_true (nI_le (by decide) (by decide))
    refine pm_v_ok (cx_X X X_S) 3 _ _ _ _ (by simp -implicitDefEqProofs only [pv_0, pv_s, pd_iconst, pd_bipush, pd_sipush, pd_lconst_0, pd_lconst_1, pd_ldc, pd_ldc2, pd_iload_0, pd_iload_1, pd_iload_2, pd_iload_3, pd_iload, pd_lload_0, pd_lload_1, pd_lload_2, pd_lload_3, pd_lload, pd_aload_0, pd_aload_1, pd_aload_2, pd_aload_3, pd_aload, pd_istore_0, pd_istore_1, pd_istore_2, pd_istore_3, pd_istore, pd_lstore_0, pd_lstore_1, pd_lstore_2, pd_lstore_3, pd_lstore, pd_astore_0, pd_astore_1, pd_astore_2, pd_astore_3, pd_astore, pd_iinc, pd_iadd, pd_isub, pd_imul, pd_iand, pd_ior, pd_ixor, pd_ishl, pd_ishr, pd_iushr, pd_idiv, pd_irem, pd_ineg, pd_ladd, pd_lsub, pd_lmul, pd_land, pd_lor, pd_lxor, pd_lshl, pd_lushr, pd_lcmp, pd_i2l, pd_l2i, pd_dup_int, pd_pop_int, pd_dup_ref, pd_pop_ref, pd_dup_x1_ir, pd_dup_x1_ii, pd_dup2_ir, pd_dup2_ii, pd_goto, pd_if_eq, pd_if_ne, pd_if_lt, pd_if_ge, pd_if_gt, pd_if_le, pd_icmp_eq, pd_icmp_ne, pd_icmp_lt, pd_icmp_ge, pd_icmp_gt, pd_icmp_le, pd_iaload, pd_baload, pd_laload, pd_aaload, pd_iastore, pd_bastore, pd_lastore, pd_alen, pd_getfield, pd_putfield, ph_las, ph_len0, ph_len1, ph_len2, ph_gf, ph_pfi, ph_pfl, ph_pfz0, ph_pfz1, ph_nz0, ph_nz1, pm_cm1, pm_c0, pm_c1, pm_c2, pm_c3, pm_c4, pm_c5, pm_b6, pm_b7, pm_b8, pm_b9, pm_b10, pm_b11, pm_b12, pm_b14, pm_b15, pm_b16, pm_b20, pm_b24, pm_b25, pm_b28, pm_b31, pm_b32, pm_b48, pm_b56, pm_b60, pm_b63, pm_b64, pm_b67, pm_b68, pm_b89, pm_b90, pm_b95, pm_b100, pm_b120, pm_b127, pm_h128, pm_h150, pm_h168, pm_h255, pm_h256, pm_h360, pm_h369, pm_h450, pm_h4096, pm_h8192, pm_h32767, pm_h4643, pm_h13363, pm_h20579, pm_h25843, pm_h29227, pm_h31145, pm_h32103, pm_h32525, pm_h32689, pm_h32745, pm_h32762, pm_h32766, pm_o, pm_ldi, pm_ldl, pm_lda, pm_sti, pm_stl, pm_sta, pm_lk, pm_f1, pm_f2, Value.category, lv_args, Option.bind_some, Option.map_some, if_true, if_false, ite_true, ite_false, Nat.reduceAdd, Nat.reduceSub, Nat.reduceDiv, Nat.reduceMod, Nat.reduceLT, Nat.reduceLeDiff, Nat.reduceEqDiff, reduceIte, reduceCtorEq, Int.reduceNatCast, Int.reduceNatCast', Int.reduceAdd, Int.reduceLE, Int.reduceLT, Int.reduceToNat, Int.reduceNeg, Int.reduceSub, pm_at_add, Nat.add_sub_cancel_left, va_up_g, Int.ofNat_eq_natCast, List.getElem?_cons_zero, List.getElem?_cons_succ, List.set_cons_zero, List.set_cons_succ, List.length_cons, List.length_nil, Nat.zero_add, va_rf, nI_add, pk_mul, Int.toNat_natCast, pm_ix_nI, Option.toList_none, Option.toList_some, List.nil_append, List.cons_append, pq_ial, pq_lal, pq_aal0, pq_aal1, pq_ias, F_S, K_S, d_S_mixRows_2, d_S_mixRows_3, d_S_mixRows_5, h1]; exact rfl) ?_
    exact he
  | succ i ih =>
    intro j hj
    have h1 : (nI 25 ≤ nI (5 * j)) = False := eq_false (nI_ge (by omega) (by decide))
    refine pm_v_ok (cx_X X X_S) 5 _ _ _ _ (by simp -implicitDefEqProofs only [pv_0, pv_s, pd_iconst, pd_bipush, pd_sipush, pd_lconst_0, pd_lconst_1, pd_ldc, pd_ldc2, pd_iload_0, pd_iload_1, pd_iload_2, pd_iload_3, pd_iload, pd_lload_0, pd_lload_1, pd_lload_2, pd_lload_3, pd_lload, pd_aload_0, pd_aload_1, pd_aload_2, pd_aload_3, pd_aload, pd_istore_0, pd_istore_1, pd_istore_2, pd_istore_3, pd_istore, pd_lstore_0, pd_lstore_1, pd_lstore_2, pd_lstore_3, pd_lstore, pd_astore_0, pd_astore_1, pd_astore_2, pd_astore_3, pd_astore, pd_iinc, pd_iadd, pd_isub, pd_imul, pd_iand, pd_ior, pd_ixor, pd_ishl, pd_ishr, pd_iushr, pd_idiv, pd_irem, pd_ineg, pd_ladd, pd_lsub, pd_lmul, pd_land, pd_lor, pd_lxor, pd_lshl, pd_lushr, pd_lcmp, pd_i2l, pd_l2i, pd_dup_int, pd_pop_int, pd_dup_ref, pd_pop_ref, pd_dup_x1_ir, pd_dup_x1_ii, pd_dup2_ir, pd_dup2_ii, pd_goto, pd_if_eq, pd_if_ne, pd_if_lt, pd_if_ge, pd_if_gt, pd_if_le, pd_icmp_eq, pd_icmp_ne, pd_icmp_lt, pd_icmp_ge, pd_icmp_gt, pd_icmp_le, pd_iaload, pd_baload, pd_laload, pd_aaload, pd_iastore, pd_bastore, pd_lastore, pd_alen, pd_getfield, pd_putfield, ph_las, ph_len0, ph_len1, ph_len2, ph_gf, ph_pfi, ph_pfl, ph_pfz0, ph_pfz1, ph_nz0, ph_nz1, pm_cm1, pm_c0, pm_c1, pm_c2, pm_c3, pm_c4, pm_c5, pm_b6, pm_b7, pm_b8, pm_b9, pm_b10, pm_b11, pm_b12, pm_b14, pm_b15, pm_b16, pm_b20, pm_b24, pm_b25, pm_b28, pm_b31, pm_b32, pm_b48, pm_b56, pm_b60, pm_b63, pm_b64, pm_b67, pm_b68, pm_b89, pm_b90, pm_b95, pm_b100, pm_b120, pm_b127, pm_h128, pm_h150, pm_h168, pm_h255, pm_h256, pm_h360, pm_h369, pm_h450, pm_h4096, pm_h8192, pm_h32767, pm_h4643, pm_h13363, pm_h20579, pm_h25843, pm_h29227, pm_h31145, pm_h32103, pm_h32525, pm_h32689, pm_h32745, pm_h32762, pm_h32766, pm_o, pm_ldi, pm_ldl, pm_lda, pm_sti, pm_stl, pm_sta, pm_lk, pm_f1, pm_f2, Value.category, lv_args, Option.bind_some, Option.map_some, if_true, if_false, ite_true, ite_false, Nat.reduceAdd, Nat.reduceSub, Nat.reduceMul, Nat.reduceDiv, Nat.reduceMod, Nat.reduceLT, Nat.reduceLeDiff, Nat.reduceEqDiff, reduceIte, reduceCtorEq, Int.reduceNatCast, Int.reduceNatCast', Int.reduceAdd, Int.reduceLE, Int.reduceLT, Int.reduceToNat, Int.reduceNeg, Int.reduceSub, pm_at_add, Nat.add_sub_cancel_left, va_up_g, Int.ofNat_eq_natCast, List.getElem?_cons_zero, List.getElem?_cons_succ, List.set_cons_zero, List.set_cons_succ, List.length_cons, List.length_nil, Nat.zero_add, va_rf, nI_add, pk_mul, Int.toNat_natCast, pm_ix_nI, Option.toList_none, Option.toList_some, List.nil_append, List.cons_append, pq_ial, pq_lal, pq_aal0, pq_aal1, pq_ias, F_S, K_S, d_S_mixRows_2, d_S_mixRows_3, d_S_mixRows_5, d_S_mixRows_8, d_S_mixRows_9, h1]; exact rfl) ?_
    refine pm_G.sub (by simp) (lpi_mixRows (a := j) (f := f) (g := g) (h := h) (len := len) (w := w) (by omega) X ?_ 5 0 rfl)
    have e2 : 5 * j + 5 = 5 * (j + 1) := by omega
    refine pm_G.wd (by rw [e2]) ?_
    refine pm_v_ok (cx_X X X_S) 2 _ _ _ _ (by simp -implicitDefEqProofs only [pv_0, pv_s, pd_iconst, pd_bipush, pd_sipush, pd_lconst_0, pd_lconst_1, pd_ldc, pd_ldc2, pd_iload_0, pd_iload_1, pd_iload_2, pd_iload_3, pd_iload, pd_lload_0, pd_lload_1, pd_lload_2, pd_lload_3, pd_lload, pd_aload_0, pd_aload_1, pd_aload_2, pd_aload_3, pd_aload, pd_istore_0, pd_istore_1, pd_istore_2, pd_istore_3, pd_istore, pd_lstore_0, pd_lstore_1, pd_lstore_2, pd_lstore_3, pd_lstore, pd_astore_0, pd_astore_1, pd_astore_2, pd_astore_3, pd_astore, pd_iinc, pd_iadd, pd_isub, pd_imul, pd_iand, pd_ior, pd_ixor, pd_ishl, pd_ishr, pd_iushr, pd_idiv, pd_irem, pd_ineg, pd_ladd, pd_lsub, pd_lmul, pd_land, pd_lor, pd_lxor, pd_lshl, pd_lushr, pd_lcmp, pd_i2l, pd_l2i, pd_dup_int, pd_pop_int, pd_dup_ref, pd_pop_ref, pd_dup_x1_ir, pd_dup_x1_ii, pd_dup2_ir, pd_dup2_ii, pd_goto, pd_if_eq, pd_if_ne, pd_if_lt, pd_if_ge, pd_if_gt, pd_if_le, pd_icmp_eq, pd_icmp_ne, pd_icmp_lt, pd_icmp_ge, pd_icmp_gt, pd_icmp_le, pd_iaload, pd_baload, pd_laload, pd_aaload, pd_iastore, pd_bastore, pd_lastore, pd_alen, pd_getfield, pd_putfield, ph_las, ph_len0, ph_len1, ph_len2, ph_gf, ph_pfi, ph_pfl, ph_pfz0, ph_pfz1, ph_nz0, ph_nz1, pm_cm1, pm_c0, pm_c1, pm_c2, pm_c3, pm_c4, pm_c5, pm_b6, pm_b7, pm_b8, pm_b9, pm_b10, pm_b11, pm_b12, pm_b14, pm_b15, pm_b16, pm_b20, pm_b24, pm_b25, pm_b28, pm_b31, pm_b32, pm_b48, pm_b56, pm_b60, pm_b63, pm_b64, pm_b67, pm_b68, pm_b89, pm_b90, pm_b95, pm_b100, pm_b120, pm_b127, pm_h128, pm_h150, pm_h168, pm_h255, pm_h256, pm_h360, pm_h369, pm_h450, pm_h4096, pm_h8192, pm_h32767, pm_h4643, pm_h13363, pm_h20579, pm_h25843, pm_h29227, pm_h31145, pm_h32103, pm_h32525, pm_h32689, pm_h32745, pm_h32762, pm_h32766, pm_o, pm_ldi, pm_ldl, pm_lda, pm_sti, pm_stl, pm_sta, pm_lk, pm_f1, pm_f2, Value.category, lv_args, Option.bind_some, Option.map_some, if_true, if_false, ite_true, ite_false, Nat.reduceAdd, Nat.reduceSub, Nat.reduceMul, Nat.reduceDiv, Nat.reduceMod, Nat.reduceLT, Nat.reduceLeDiff, Nat.reduceEqDiff, reduceIte, reduceCtorEq, Int.reduceNatCast, Int.reduceNatCast', Int.reduceAdd, Int.reduceLE, Int.reduceLT, Int.reduceToNat, Int.reduceNeg, Int.reduceSub, pm_at_add, Nat.add_sub_cancel_left, va_up_g, Int.ofNat_eq_natCast, List.getElem?_cons_zero, List.getElem?_cons_succ, List.set_cons_zero, List.set_cons_succ, List.length_cons, List.length_nil, Nat.zero_add, va_rf, nI_add, pk_mul, Int.toNat_natCast, pm_ix_nI, Option.toList_none, Option.toList_some, List.nil_append, List.cons_append, pq_ial, pq_lal, pq_aal0, pq_aal1, pq_ias, F_S, K_S, d_S_mixRows_73, d_S_mixRows_76, e2]; exact rfl) ?_
    exact pm_G.sub (by simp) (ih (j + 1) (by omega))
set_option maxHeartbeats 4000000 in
theorem m_S_mixRows : mm_ l y_S_mixRows c_S_mixRows 7 none (rm_ 0) D tc sz tk [.ref (sz + 4)] hz 91 (sk_ tc sz w f g h len) hz 91 (fun v w1 => v = none ∧ w1 = sk_ tc sz w (mr_ f g 25) g h len) := by
  refine mm_of (by decide) (Nat.le_of_ble_eq_true rfl) ?_
  intro p e s m args below meth c X hr hk hnm
  refine pm_v_ok (cx_X X X_S) 2 _ _ _ _ (by simp -implicitDefEqProofs only [pv_0, pv_s, pd_iconst, pd_bipush, pd_sipush, pd_lconst_0, pd_lconst_1, pd_ldc, pd_ldc2, pd_iload_0, pd_iload_1, pd_iload_2, pd_iload_3, pd_iload, pd_lload_0, pd_lload_1, pd_lload_2, pd_lload_3, pd_lload, pd_aload_0, pd_aload_1, pd_aload_2, pd_aload_3, pd_aload, pd_istore_0, pd_istore_1, pd_istore_2, pd_istore_3, pd_istore, pd_lstore_0, pd_lstore_1, pd_lstore_2, pd_lstore_3, pd_lstore, pd_astore_0, pd_astore_1, pd_astore_2, pd_astore_3, pd_astore, pd_iinc, pd_iadd, pd_isub, pd_imul, pd_iand, pd_ior, pd_ixor, pd_ishl, pd_ishr, pd_iushr, pd_idiv, pd_irem, pd_ineg, pd_ladd, pd_lsub, pd_lmul, pd_land, pd_lor, pd_lxor, pd_lshl, pd_lushr, pd_lcmp, pd_i2l, pd_l2i, pd_dup_int, pd_pop_int, pd_dup_ref, pd_pop_ref, pd_dup_x1_ir, pd_dup_x1_ii, pd_dup2_ir, pd_dup2_ii, pd_goto, pd_if_eq, pd_if_ne, pd_if_lt, pd_if_ge, pd_if_gt, pd_if_le, pd_icmp_eq, pd_icmp_ne, pd_icmp_lt, pd_icmp_ge, pd_icmp_gt, pd_icmp_le, pd_iaload, pd_baload, pd_laload, pd_aaload, pd_iastore, pd_bastore, pd_lastore, pd_alen, pd_getfield, pd_putfield, ph_las, ph_len0, ph_len1, ph_len2, ph_gf, ph_pfi, ph_pfl, ph_pfz0, ph_pfz1, ph_nz0, ph_nz1, pm_cm1, pm_c0, pm_c1, pm_c2, pm_c3, pm_c4, pm_c5, pm_b6, pm_b7, pm_b8, pm_b9, pm_b10, pm_b11, pm_b12, pm_b14, pm_b15, pm_b16, pm_b20, pm_b24, pm_b25, pm_b28, pm_b31, pm_b32, pm_b48, pm_b56, pm_b60, pm_b63, pm_b64, pm_b67, pm_b68, pm_b89, pm_b90, pm_b95, pm_b100, pm_b120, pm_b127, pm_h128, pm_h150, pm_h168, pm_h255, pm_h256, pm_h360, pm_h369, pm_h450, pm_h4096, pm_h8192, pm_h32767, pm_h4643, pm_h13363, pm_h20579, pm_h25843, pm_h29227, pm_h31145, pm_h32103, pm_h32525, pm_h32689, pm_h32745, pm_h32762, pm_h32766, pm_o, pm_ldi, pm_ldl, pm_lda, pm_sti, pm_stl, pm_sta, pm_lk, pm_f1, pm_f2, Value.category, lv_args, Option.bind_some, Option.map_some, if_true, if_false, ite_true, ite_false, Nat.reduceAdd, Nat.reduceSub, Nat.reduceMul, Nat.reduceDiv, Nat.reduceMod, Nat.reduceLT, Nat.reduceLeDiff, Nat.reduceEqDiff, reduceIte, reduceCtorEq, Int.reduceNatCast, Int.reduceNatCast', Int.reduceAdd, Int.reduceLE, Int.reduceLT, Int.reduceToNat, Int.reduceNeg, Int.reduceSub, pm_at_add, Nat.add_sub_cancel_left, va_up_g, Int.ofNat_eq_natCast, List.getElem?_cons_zero, List.getElem?_cons_succ, List.set_cons_zero, List.set_cons_succ, List.length_cons, List.length_nil, Nat.zero_add, va_rf, nI_add, pk_mul, Int.toNat_natCast, pm_ix_nI, Option.toList_none, Option.toList_some, List.nil_append, List.cons_append, pq_ial, pq_lal, pq_aal0, pq_aal1, pq_ias, F_S, K_S, d_S_mixRows_0, d_S_mixRows_1]; exact rfl) ?_
  refine pm_G.wd (w' := sk_ tc sz w (mr_ f g (5 * 0)) g h len) (by rw [Nat.mul_zero, mr_0]) (pm_G.sub (by simp) (lpo_mixRows (f := f) (g := g) (h := h) (len := len) (w := w) X ?_ 5 0 rfl))
  exact mr_v X hr hk d_S_mixRows_79 (Nat.le_refl _) (Nat.le_refl _) ⟨rfl, rfl⟩
def iv_ (j : Nat) : Nat := ([0, 6, 12, 18, 24, 3, 9, 10, 16, 22, 1, 7, 13, 19, 20, 4, 5, 11, 17, 23, 2, 8, 14, 15, 21] : List Nat).getD j 0
def mw_ (f : Nat → Int64) (j : Nat) : Int64 := ro_ (f (iv_ j)) (nI (tn_ (iv_ j)))
theorem mv_w (hj : j < 25) : mv_ f g 25 j = mw_ f j := by
  have h : j = 0 ∨ j = 1 ∨ j = 2 ∨ j = 3 ∨ j = 4 ∨ j = 5 ∨ j = 6 ∨ j = 7 ∨ j = 8 ∨ j = 9 ∨ j = 10 ∨ j = 11 ∨ j = 12 ∨ j = 13 ∨ j = 14 ∨ j = 15 ∨ j = 16 ∨ j = 17 ∨ j = 18 ∨ j = 19 ∨ j = 20 ∨ j = 21 ∨ j = 22 ∨ j = 23 ∨ j = 24 := by omega
  rcases h with rfl | rfl | rfl | rfl | rfl | rfl | rfl | rfl | rfl | rfl | rfl | rfl | rfl | rfl | rfl | rfl | rfl | rfl | rfl | rfl | rfl | rfl | rfl | rfl | rfl <;> rfl
theorem mr_w : mr_ f (mv_ f1 g 25) 25 = mr_ f (mw_ f1) 25 := by
  funext j
  by_cases hj : j < 25
  · have h1 : j / 5 * 5 + (j % 5 + 1) % 5 < 25 := by omega
    have h2 : j / 5 * 5 + (j % 5 + 2) % 5 < 25 := by omega
    simp only [mr_, if_pos hj, cc_, mv_w hj, mv_w h1, mv_w h2]
  · simp only [mr_, if_neg hj]
def rd_ (f : Nat → Int64) : Nat → Int64 := mr_ (ti_ f 5 0) (mw_ (ti_ f 5 0)) 25
def rn_ (f : Nat → Int64) : Nat → Nat → Int64
  | 0 => f
  | k + 1 => vp_updL (rd_ (rn_ f k)) 0 (rd_ (rn_ f k) 0 ^^^ rb_ k)
def fs_ (f : Nat → Int64) : Nat → Int64 := vp_updL f 20 (f 20 ^^^ (-9223372036854775808))
set_option maxHeartbeats 4000000 in
theorem lp_finish (X : cx_ p s m args c c_S_finish 2 R_S D tc sz tk) (he : ∀ g h : Nat → Int64, pm_G p l e (rm_ 2) s m args below meth c Q D cl_ sz 2 hz 91 0 0 (sk_ tc sz w (rn_ f 24) g h len) 61 [(1, .int (nI 24)), (0, .ref (sz + 4))] []) : ∀ i j : Nat, j + i = 24 → ∀ g h : Nat → Int64, pm_G p l e (rm_ 2) s m args below meth c Q D cl_ sz 2 hz 91 0 0 (sk_ tc sz w (rn_ f j) g h len) 21 [(1, .int (nI j)), (0, .ref (sz + 4))] [] := by
  have hSt := X.2.2.2
  intro i
  induction i with
  | zero =>
    intro j hj g h
    obtain rfl : j = 24 := by omega
    have h1 : (nI 24 ≤ nI 24) = True := eq_true (nI_le (Nat.le_refl _) (by decide))
    refine pm_v_ok (cx_X X X_S) 1 _ _ _ _ (by simp -implicitDefEqProofs only [pv_0, pv_s, pd_iconst, pd_bipush, pd_sipush, pd_lconst_0, pd_lconst_1, pd_ldc, pd_ldc2, pd_iload_0, pd_iload_1, pd_iload_2, pd_iload_3, pd_iload, pd_lload_0, pd_lload_1, pd_lload_2, pd_lload_3, pd_lload, pd_aload_0, pd_aload_1, pd_aload_2, pd_aload_3, pd_aload, pd_istore_0, pd_istore_1, pd_istore_2, pd_istore_3, pd_istore, pd_lstore_0, pd_lstore_1, pd_lstore_2, pd_lstore_3, pd_lstore, pd_astore_0, pd_astore_1, pd_astore_2, pd_astore_3, pd_astore, pd_iinc, pd_iadd, pd_isub, pd_imul, pd_iand, pd_ior, pd_ixor, pd_ishl, pd_ishr, pd_iushr, pd_idiv, pd_irem, pd_ineg, pd_ladd, pd_lsub, pd_lmul, pd_land, pd_lor, pd_lxor, pd_lshl, pd_lushr, pd_lcmp, pd_i2l, pd_l2i, pd_dup_int, pd_pop_int, pd_dup_ref, pd_pop_ref, pd_dup_x1_ir, pd_dup_x1_ii, pd_dup2_ir, pd_dup2_ii, pd_goto, pd_if_eq, pd_if_ne, pd_if_lt, pd_if_ge, pd_if_gt, pd_if_le, pd_icmp_eq, pd_icmp_ne, pd_icmp_lt, pd_icmp_ge, pd_icmp_gt, pd_icmp_le, pd_iaload, pd_baload, pd_laload, pd_aaload, pd_iastore, pd_bastore, pd_lastore, pd_alen, pd_getfield, pd_putfield, ph_las, ph_len0, ph_len1, ph_len2, ph_gf, ph_pfi, ph_pfl, ph_pfz0, ph_pfz1, ph_nz0, ph_nz1, pm_cm1, pm_c0, pm_c1, pm_c2, pm_c3, pm_c4, pm_c5, pm_b6, pm_b7, pm_b8, pm_b9, pm_b10, pm_b11, pm_b12, pm_b14, pm_b15, pm_b16, pm_b20, pm_b24, pm_b25, pm_b28, pm_b31, pm_b32, pm_b48, pm_b56, pm_b60, pm_b63, pm_b64, pm_b67, pm_b68, pm_b89, pm_b90, pm_b95, pm_b100, pm_b120, pm_b127, pm_h128, pm_h150, pm_h168, pm_h255, pm_h256, pm_h360, pm_h369, pm_h450, pm_h4096, pm_h8192, pm_h32767, pm_h4643, pm_h13363, pm_h20579, pm_h25843, pm_h29227, pm_h31145, pm_h32103, pm_h32525, pm_h32689, pm_h32745, pm_h32762, pm_h32766, pm_o, pm_ldi, pm_ldl, pm_lda, pm_sti, pm_stl, pm_sta, pm_lk, pm_f1, pm_f2, Value.category, lv_args, Option.bind_some, Option.map_some, if_true, if_false, ite_true, ite_false, Nat.reduceAdd, Nat.reduceSub, Nat.reduceMul, Nat.reduceDiv, Nat.reduceMod, Nat.reduceLT, Nat.reduceLeDiff, Nat.reduceEqDiff, reduceIte, reduceCtorEq, Int.reduceNatCast, Int.reduceNatCast', Int.reduceAdd, Int.reduceLE, Int.reduceLT, Int.reduceToNat, Int.reduceNeg, Int.reduceSub, pm_at_add, Nat.add_sub_cancel_left, va_up_g, Int.ofNat_eq_natCast, List.getElem?_cons_zero, List.getElem?_cons_succ, List.set_cons_zero, List.set_cons_succ, List.length_cons, List.length_nil, Nat.zero_add, va_rf, nI_add, pk_mul, Int.toNat_natCast, pm_ix_nI, Option.toList_none, Option.toList_some, List.nil_append, List.cons_append, pq_ial, pq_lal, pq_aal0, pq_aal1, pq_ias, F_S, K_S, d_S_finish_21]; exact rfl) ?_
    refine mm_gN X hSt.2.2.2.2.1.1 (host := "LatticeWraps") (List.mem_of_getElem? (i := 16) (by decide +kernel)) d_S_finish_22 ?_
    refine mm_tlen X hSt.2.2.2.2.1.2 d_S_finish_25 ?_
    refine pm_v_ok (cx_X X X_S) 1 _ _ _ _ (by simp -implicitDefEqProofs only [pv_0, pv_s, pd_iconst, pd_bipush, pd_sipush, pd_lconst_0, pd_lconst_1, pd_ldc, pd_ldc2, pd_iload_0, pd_iload_1, pd_iload_2, pd_iload_3, pd_iload, pd_lload_0, pd_lload_1, pd_lload_2, pd_lload_3, pd_lload, pd_aload_0, pd_aload_1, pd_aload_2, pd_aload_3, pd_aload, pd_istore_0, pd_istore_1, pd_istore_2, pd_istore_3, pd_istore, pd_lstore_0, pd_lstore_1, pd_lstore_2, pd_lstore_3, pd_lstore, pd_astore_0, pd_astore_1, pd_astore_2, pd_astore_3, pd_astore, pd_iinc, pd_iadd, pd_isub, pd_imul, pd_iand, pd_ior, pd_ixor, pd_ishl, pd_ishr, pd_iushr, pd_idiv, pd_irem, pd_ineg, pd_ladd, pd_lsub, pd_lmul, pd_land, pd_lor, pd_lxor, pd_lshl, pd_lushr, pd_lcmp, pd_i2l, pd_l2i, pd_dup_int, pd_pop_int, pd_dup_ref, pd_pop_ref, pd_dup_x1_ir, pd_dup_x1_ii, pd_dup2_ir, pd_dup2_ii, pd_goto, pd_if_eq, pd_if_ne, pd_if_lt, pd_if_ge, pd_if_gt, pd_if_le, pd_icmp_eq, pd_icmp_ne, pd_icmp_lt, pd_icmp_ge, pd_icmp_gt, pd_icmp_le, pd_iaload, pd_baload, pd_laload, pd_aaload, pd_iastore, pd_bastore, pd_lastore, pd_alen, pd_getfield, pd_putfield, ph_las, ph_len0, ph_len1, ph_len2, ph_gf, ph_pfi, ph_pfl, ph_pfz0, ph_pfz1, ph_nz0, ph_nz1, pm_cm1, pm_c0, pm_c1, pm_c2, pm_c3, pm_c4, pm_c5, pm_b6, pm_b7, pm_b8, pm_b9, pm_b10, pm_b11, pm_b12, pm_b14, pm_b15, pm_b16, pm_b20, pm_b24, pm_b25, pm_b28, pm_b31, pm_b32, pm_b48, pm_b56, pm_b60, pm_b63, pm_b64, pm_b67, pm_b68, pm_b89, pm_b90, pm_b95, pm_b100, pm_b120, pm_b127, pm_h128, pm_h150, pm_h168, pm_h255, pm_h256, pm_h360, pm_h369, pm_h450, pm_h4096, pm_h8192, pm_h32767, pm_h4643, pm_h13363, pm_h20579, pm_h25843, pm_h29227, pm_h31145, pm_h32103, pm_h32525, pm_h32689, pm_h32745, pm_h32762, pm_h32766, pm_o, pm_ldi, pm_ldl, pm_lda, pm_sti, pm_stl, pm_sta, pm_lk, pm_f1, pm_f2, Value.category, lv_args, Option.bind_some, Option.map_some, if_true, if_false, ite_true, ite_false, Nat.reduceAdd, Nat.reduceSub, Nat.reduceMul, Nat.reduceDiv, Nat.reduceMod, Nat.reduceLT, Nat.reduceLeDiff, Nat.reduceEqDiff, reduceIte, reduceCtorEq, Int.reduceNatCast, Int.reduceNatCast', Int.reduceAdd, Int.reduceLE, Int.reduceLT, Int.reduceToNat, Int.reduceNeg, Int.reduceSub, pm_at_add, Nat.add_sub_cancel_left, va_up_g, Int.ofNat_eq_natCast, List.getElem?_cons_zero, List.getElem?_cons_succ, List.set_cons_zero, List.set_cons_succ, List.length_cons, List.length_nil, Nat.zero_add, va_rf, nI_add, pk_mul, Int.toNat_natCast, pm_ix_nI, Option.toList_none, Option.toList_some, List.nil_append, List.cons_append, pq_ial, pq_lal, pq_aal0, pq_aal1, pq_ias, F_S, K_S, d_S_finish_26, h1]; exact rfl) ?_
    exact he g h
  | succ i ih =>
    intro j hj g h
    have h1 : (nI 24 ≤ nI j) = False := eq_false (nI_ge (by omega) (by decide))
    refine pm_v_ok (cx_X X X_S) 1 _ _ _ _ (by simp -implicitDefEqProofs only [pv_0, pv_s, pd_iconst, pd_bipush, pd_sipush, pd_lconst_0, pd_lconst_1, pd_ldc, pd_ldc2, pd_iload_0, pd_iload_1, pd_iload_2, pd_iload_3, pd_iload, pd_lload_0, pd_lload_1, pd_lload_2, pd_lload_3, pd_lload, pd_aload_0, pd_aload_1, pd_aload_2, pd_aload_3, pd_aload, pd_istore_0, pd_istore_1, pd_istore_2, pd_istore_3, pd_istore, pd_lstore_0, pd_lstore_1, pd_lstore_2, pd_lstore_3, pd_lstore, pd_astore_0, pd_astore_1, pd_astore_2, pd_astore_3, pd_astore, pd_iinc, pd_iadd, pd_isub, pd_imul, pd_iand, pd_ior, pd_ixor, pd_ishl, pd_ishr, pd_iushr, pd_idiv, pd_irem, pd_ineg, pd_ladd, pd_lsub, pd_lmul, pd_land, pd_lor, pd_lxor, pd_lshl, pd_lushr, pd_lcmp, pd_i2l, pd_l2i, pd_dup_int, pd_pop_int, pd_dup_ref, pd_pop_ref, pd_dup_x1_ir, pd_dup_x1_ii, pd_dup2_ir, pd_dup2_ii, pd_goto, pd_if_eq, pd_if_ne, pd_if_lt, pd_if_ge, pd_if_gt, pd_if_le, pd_icmp_eq, pd_icmp_ne, pd_icmp_lt, pd_icmp_ge, pd_icmp_gt, pd_icmp_le, pd_iaload, pd_baload, pd_laload, pd_aaload, pd_iastore, pd_bastore, pd_lastore, pd_alen, pd_getfield, pd_putfield, ph_las, ph_len0, ph_len1, ph_len2, ph_gf, ph_pfi, ph_pfl, ph_pfz0, ph_pfz1, ph_nz0, ph_nz1, pm_cm1, pm_c0, pm_c1, pm_c2, pm_c3, pm_c4, pm_c5, pm_b6, pm_b7, pm_b8, pm_b9, pm_b10, pm_b11, pm_b12, pm_b14, pm_b15, pm_b16, pm_b20, pm_b24, pm_b25, pm_b28, pm_b31, pm_b32, pm_b48, pm_b56, pm_b60, pm_b63, pm_b64, pm_b67, pm_b68, pm_b89, pm_b90, pm_b95, pm_b100, pm_b120, pm_b127, pm_h128, pm_h150, pm_h168, pm_h255, pm_h256, pm_h360, pm_h369, pm_h450, pm_h4096, pm_h8192, pm_h32767, pm_h4643, pm_h13363, pm_h20579, pm_h25843, pm_h29227, pm_h31145, pm_h32103, pm_h32525, pm_h32689, pm_h32745, pm_h32762, pm_h32766, pm_o, pm_ldi, pm_ldl, pm_lda, pm_sti, pm_stl, pm_sta, pm_lk, pm_f1, pm_f2, Value.category, lv_args, Option.bind_some, Option.map_some, if_true, if_false, ite_true, ite_false, Nat.reduceAdd, Nat.reduceSub, Nat.reduceMul, Nat.reduceDiv, Nat.reduceMod, Nat.reduceLT, Nat.reduceLeDiff, Nat.reduceEqDiff, reduceIte, reduceCtorEq, Int.reduceNatCast, Int.reduceNatCast', Int.reduceAdd, Int.reduceLE, Int.reduceLT, Int.reduceToNat, Int.reduceNeg, Int.reduceSub, pm_at_add, Nat.add_sub_cancel_left, va_up_g, Int.ofNat_eq_natCast, List.getElem?_cons_zero, List.getElem?_cons_succ, List.set_cons_zero, List.set_cons_succ, List.length_cons, List.length_nil, Nat.zero_add, va_rf, nI_add, pk_mul, Int.toNat_natCast, pm_ix_nI, Option.toList_none, Option.toList_some, List.nil_append, List.cons_append, pq_ial, pq_lal, pq_aal0, pq_aal1, pq_ias, F_S, K_S, d_S_finish_21]; exact rfl) ?_
    refine mm_gN X hSt.2.2.2.2.1.1 (host := "LatticeWraps") (List.mem_of_getElem? (i := 16) (by decide +kernel)) d_S_finish_22 ?_
    refine mm_tlen X hSt.2.2.2.2.1.2 d_S_finish_25 ?_
    refine pm_v_ok (cx_X X X_S) 2 _ _ _ _ (by simp -implicitDefEqProofs only [pv_0, pv_s, pd_iconst, pd_bipush, pd_sipush, pd_lconst_0, pd_lconst_1, pd_ldc, pd_ldc2, pd_iload_0, pd_iload_1, pd_iload_2, pd_iload_3, pd_iload, pd_lload_0, pd_lload_1, pd_lload_2, pd_lload_3, pd_lload, pd_aload_0, pd_aload_1, pd_aload_2, pd_aload_3, pd_aload, pd_istore_0, pd_istore_1, pd_istore_2, pd_istore_3, pd_istore, pd_lstore_0, pd_lstore_1, pd_lstore_2, pd_lstore_3, pd_lstore, pd_astore_0, pd_astore_1, pd_astore_2, pd_astore_3, pd_astore, pd_iinc, pd_iadd, pd_isub, pd_imul, pd_iand, pd_ior, pd_ixor, pd_ishl, pd_ishr, pd_iushr, pd_idiv, pd_irem, pd_ineg, pd_ladd, pd_lsub, pd_lmul, pd_land, pd_lor, pd_lxor, pd_lshl, pd_lushr, pd_lcmp, pd_i2l, pd_l2i, pd_dup_int, pd_pop_int, pd_dup_ref, pd_pop_ref, pd_dup_x1_ir, pd_dup_x1_ii, pd_dup2_ir, pd_dup2_ii, pd_goto, pd_if_eq, pd_if_ne, pd_if_lt, pd_if_ge, pd_if_gt, pd_if_le, pd_icmp_eq, pd_icmp_ne, pd_icmp_lt, pd_icmp_ge, pd_icmp_gt, pd_icmp_le, pd_iaload, pd_baload, pd_laload, pd_aaload, pd_iastore, pd_bastore, pd_lastore, pd_alen, pd_getfield, pd_putfield, ph_las, ph_len0, ph_len1, ph_len2, ph_gf, ph_pfi, ph_pfl, ph_pfz0, ph_pfz1, ph_nz0, ph_nz1, pm_cm1, pm_c0, pm_c1, pm_c2, pm_c3, pm_c4, pm_c5, pm_b6, pm_b7, pm_b8, pm_b9, pm_b10, pm_b11, pm_b12, pm_b14, pm_b15, pm_b16, pm_b20, pm_b24, pm_b25, pm_b28, pm_b31, pm_b32, pm_b48, pm_b56, pm_b60, pm_b63, pm_b64, pm_b67, pm_b68, pm_b89, pm_b90, pm_b95, pm_b100, pm_b120, pm_b127, pm_h128, pm_h150, pm_h168, pm_h255, pm_h256, pm_h360, pm_h369, pm_h450, pm_h4096, pm_h8192, pm_h32767, pm_h4643, pm_h13363, pm_h20579, pm_h25843, pm_h29227, pm_h31145, pm_h32103, pm_h32525, pm_h32689, pm_h32745, pm_h32762, pm_h32766, pm_o, pm_ldi, pm_ldl, pm_lda, pm_sti, pm_stl, pm_sta, pm_lk, pm_f1, pm_f2, Value.category, lv_args, Option.bind_some, Option.map_some, if_true, if_false, ite_true, ite_false, Nat.reduceAdd, Nat.reduceSub, Nat.reduceMul, Nat.reduceDiv, Nat.reduceMod, Nat.reduceLT, Nat.reduceLeDiff, Nat.reduceEqDiff, reduceIte, reduceCtorEq, Int.reduceNatCast, Int.reduceNatCast', Int.reduceAdd, Int.reduceLE, Int.reduceLT, Int.reduceToNat, Int.reduceNeg, Int.reduceSub, pm_at_add, Nat.add_sub_cancel_left, va_up_g, Int.ofNat_eq_natCast, List.getElem?_cons_zero, List.getElem?_cons_succ, List.set_cons_zero, List.set_cons_succ, List.length_cons, List.length_nil, Nat.zero_add, va_rf, nI_add, pk_mul, Int.toNat_natCast, pm_ix_nI, Option.toList_none, Option.toList_some, List.nil_append, List.cons_append, pq_ial, pq_lal, pq_aal0, pq_aal1, pq_ias, F_S, K_S, d_S_finish_26, d_S_finish_29, h1]; exact rfl) ?_
    refine mm_V X (m_S_mixColumns) b_S_mixColumns l_S_42 (by decide) sk_4 rfl rfl rfl (Nat.le_of_ble_eq_true rfl) d_S_finish_30 (by decide) (by decide) (fun v w1 hq => ?_)
    obtain ⟨rfl, rfl⟩ := hq
    refine pm_v_ok (cx_X X X_S) 1 _ _ _ _ (by simp -implicitDefEqProofs only [pv_0, pv_s, pd_iconst, pd_bipush, pd_sipush, pd_lconst_0, pd_lconst_1, pd_ldc, pd_ldc2, pd_iload_0, pd_iload_1, pd_iload_2, pd_iload_3, pd_iload, pd_lload_0, pd_lload_1, pd_lload_2, pd_lload_3, pd_lload, pd_aload_0, pd_aload_1, pd_aload_2, pd_aload_3, pd_aload, pd_istore_0, pd_istore_1, pd_istore_2, pd_istore_3, pd_istore, pd_lstore_0, pd_lstore_1, pd_lstore_2, pd_lstore_3, pd_lstore, pd_astore_0, pd_astore_1, pd_astore_2, pd_astore_3, pd_astore, pd_iinc, pd_iadd, pd_isub, pd_imul, pd_iand, pd_ior, pd_ixor, pd_ishl, pd_ishr, pd_iushr, pd_idiv, pd_irem, pd_ineg, pd_ladd, pd_lsub, pd_lmul, pd_land, pd_lor, pd_lxor, pd_lshl, pd_lushr, pd_lcmp, pd_i2l, pd_l2i, pd_dup_int, pd_pop_int, pd_dup_ref, pd_pop_ref, pd_dup_x1_ir, pd_dup_x1_ii, pd_dup2_ir, pd_dup2_ii, pd_goto, pd_if_eq, pd_if_ne, pd_if_lt, pd_if_ge, pd_if_gt, pd_if_le, pd_icmp_eq, pd_icmp_ne, pd_icmp_lt, pd_icmp_ge, pd_icmp_gt, pd_icmp_le, pd_iaload, pd_baload, pd_laload, pd_aaload, pd_iastore, pd_bastore, pd_lastore, pd_alen, pd_getfield, pd_putfield, ph_las, ph_len0, ph_len1, ph_len2, ph_gf, ph_pfi, ph_pfl, ph_pfz0, ph_pfz1, ph_nz0, ph_nz1, pm_cm1, pm_c0, pm_c1, pm_c2, pm_c3, pm_c4, pm_c5, pm_b6, pm_b7, pm_b8, pm_b9, pm_b10, pm_b11, pm_b12, pm_b14, pm_b15, pm_b16, pm_b20, pm_b24, pm_b25, pm_b28, pm_b31, pm_b32, pm_b48, pm_b56, pm_b60, pm_b63, pm_b64, pm_b67, pm_b68, pm_b89, pm_b90, pm_b95, pm_b100, pm_b120, pm_b127, pm_h128, pm_h150, pm_h168, pm_h255, pm_h256, pm_h360, pm_h369, pm_h450, pm_h4096, pm_h8192, pm_h32767, pm_h4643, pm_h13363, pm_h20579, pm_h25843, pm_h29227, pm_h31145, pm_h32103, pm_h32525, pm_h32689, pm_h32745, pm_h32762, pm_h32766, pm_o, pm_ldi, pm_ldl, pm_lda, pm_sti, pm_stl, pm_sta, pm_lk, pm_f1, pm_f2, Value.category, lv_args, Option.bind_some, Option.map_some, if_true, if_false, ite_true, ite_false, Nat.reduceAdd, Nat.reduceSub, Nat.reduceMul, Nat.reduceDiv, Nat.reduceMod, Nat.reduceLT, Nat.reduceLeDiff, Nat.reduceEqDiff, reduceIte, reduceCtorEq, Int.reduceNatCast, Int.reduceNatCast', Int.reduceAdd, Int.reduceLE, Int.reduceLT, Int.reduceToNat, Int.reduceNeg, Int.reduceSub, pm_at_add, Nat.add_sub_cancel_left, va_up_g, Int.ofNat_eq_natCast, List.getElem?_cons_zero, List.getElem?_cons_succ, List.set_cons_zero, List.set_cons_succ, List.length_cons, List.length_nil, Nat.zero_add, va_rf, nI_add, pk_mul, Int.toNat_natCast, pm_ix_nI, Option.toList_none, Option.toList_some, List.nil_append, List.cons_append, pq_ial, pq_lal, pq_aal0, pq_aal1, pq_ias, F_S, K_S, d_S_finish_33]; exact rfl) ?_
    refine mm_V X (m_S_moveLanes) b_S_moveLanes l_S_45 (by decide) sk_4 rfl rfl rfl (Nat.le_of_ble_eq_true rfl) d_S_finish_34 (by decide) (by decide) (fun v w1 hq => ?_)
    obtain ⟨rfl, rfl⟩ := hq
    refine pm_v_ok (cx_X X X_S) 1 _ _ _ _ (by simp -implicitDefEqProofs only [pv_0, pv_s, pd_iconst, pd_bipush, pd_sipush, pd_lconst_0, pd_lconst_1, pd_ldc, pd_ldc2, pd_iload_0, pd_iload_1, pd_iload_2, pd_iload_3, pd_iload, pd_lload_0, pd_lload_1, pd_lload_2, pd_lload_3, pd_lload, pd_aload_0, pd_aload_1, pd_aload_2, pd_aload_3, pd_aload, pd_istore_0, pd_istore_1, pd_istore_2, pd_istore_3, pd_istore, pd_lstore_0, pd_lstore_1, pd_lstore_2, pd_lstore_3, pd_lstore, pd_astore_0, pd_astore_1, pd_astore_2, pd_astore_3, pd_astore, pd_iinc, pd_iadd, pd_isub, pd_imul, pd_iand, pd_ior, pd_ixor, pd_ishl, pd_ishr, pd_iushr, pd_idiv, pd_irem, pd_ineg, pd_ladd, pd_lsub, pd_lmul, pd_land, pd_lor, pd_lxor, pd_lshl, pd_lushr, pd_lcmp, pd_i2l, pd_l2i, pd_dup_int, pd_pop_int, pd_dup_ref, pd_pop_ref, pd_dup_x1_ir, pd_dup_x1_ii, pd_dup2_ir, pd_dup2_ii, pd_goto, pd_if_eq, pd_if_ne, pd_if_lt, pd_if_ge, pd_if_gt, pd_if_le, pd_icmp_eq, pd_icmp_ne, pd_icmp_lt, pd_icmp_ge, pd_icmp_gt, pd_icmp_le, pd_iaload, pd_baload, pd_laload, pd_aaload, pd_iastore, pd_bastore, pd_lastore, pd_alen, pd_getfield, pd_putfield, ph_las, ph_len0, ph_len1, ph_len2, ph_gf, ph_pfi, ph_pfl, ph_pfz0, ph_pfz1, ph_nz0, ph_nz1, pm_cm1, pm_c0, pm_c1, pm_c2, pm_c3, pm_c4, pm_c5, pm_b6, pm_b7, pm_b8, pm_b9, pm_b10, pm_b11, pm_b12, pm_b14, pm_b15, pm_b16, pm_b20, pm_b24, pm_b25, pm_b28, pm_b31, pm_b32, pm_b48, pm_b56, pm_b60, pm_b63, pm_b64, pm_b67, pm_b68, pm_b89, pm_b90, pm_b95, pm_b100, pm_b120, pm_b127, pm_h128, pm_h150, pm_h168, pm_h255, pm_h256, pm_h360, pm_h369, pm_h450, pm_h4096, pm_h8192, pm_h32767, pm_h4643, pm_h13363, pm_h20579, pm_h25843, pm_h29227, pm_h31145, pm_h32103, pm_h32525, pm_h32689, pm_h32745, pm_h32762, pm_h32766, pm_o, pm_ldi, pm_ldl, pm_lda, pm_sti, pm_stl, pm_sta, pm_lk, pm_f1, pm_f2, Value.category, lv_args, Option.bind_some, Option.map_some, if_true, if_false, ite_true, ite_false, Nat.reduceAdd, Nat.reduceSub, Nat.reduceMul, Nat.reduceDiv, Nat.reduceMod, Nat.reduceLT, Nat.reduceLeDiff, Nat.reduceEqDiff, reduceIte, reduceCtorEq, Int.reduceNatCast, Int.reduceNatCast', Int.reduceAdd, Int.reduceLE, Int.reduceLT, Int.reduceToNat, Int.reduceNeg, Int.reduceSub, pm_at_add, Nat.add_sub_cancel_left, va_up_g, Int.ofNat_eq_natCast, List.getElem?_cons_zero, List.getElem?_cons_succ, List.set_cons_zero, List.set_cons_succ, List.length_cons, List.length_nil, Nat.zero_add, va_rf, nI_add, pk_mul, Int.toNat_natCast, pm_ix_nI, Option.toList_none, Option.toList_some, List.nil_append, List.cons_append, pq_ial, pq_lal, pq_aal0, pq_aal1, pq_ias, F_S, K_S, d_S_finish_37]; exact rfl) ?_
    refine mm_V X (m_S_mixRows) b_S_mixRows l_S_48 (by decide) sk_4 rfl rfl rfl (Nat.le_of_ble_eq_true rfl) d_S_finish_38 (by decide) (by decide) (fun v w1 hq => ?_)
    obtain ⟨rfl, rfl⟩ := hq
    have e8 : mr_ (ti_ (rn_ f j) 5 0) (mv_ (ti_ (rn_ f j) 5 0) g 25) 25 = rd_ (rn_ f j) := mr_w
    refine pm_G.wd (by rw [e8]) ?_
    refine pm_v_ok (cx_X X X_S) 5 _ _ _ _ (by simp -implicitDefEqProofs only [pv_0, pv_s, pd_iconst, pd_bipush, pd_sipush, pd_lconst_0, pd_lconst_1, pd_ldc, pd_ldc2, pd_iload_0, pd_iload_1, pd_iload_2, pd_iload_3, pd_iload, pd_lload_0, pd_lload_1, pd_lload_2, pd_lload_3, pd_lload, pd_aload_0, pd_aload_1, pd_aload_2, pd_aload_3, pd_aload, pd_istore_0, pd_istore_1, pd_istore_2, pd_istore_3, pd_istore, pd_lstore_0, pd_lstore_1, pd_lstore_2, pd_lstore_3, pd_lstore, pd_astore_0, pd_astore_1, pd_astore_2, pd_astore_3, pd_astore, pd_iinc, pd_iadd, pd_isub, pd_imul, pd_iand, pd_ior, pd_ixor, pd_ishl, pd_ishr, pd_iushr, pd_idiv, pd_irem, pd_ineg, pd_ladd, pd_lsub, pd_lmul, pd_land, pd_lor, pd_lxor, pd_lshl, pd_lushr, pd_lcmp, pd_i2l, pd_l2i, pd_dup_int, pd_pop_int, pd_dup_ref, pd_pop_ref, pd_dup_x1_ir, pd_dup_x1_ii, pd_dup2_ir, pd_dup2_ii, pd_goto, pd_if_eq, pd_if_ne, pd_if_lt, pd_if_ge, pd_if_gt, pd_if_le, pd_icmp_eq, pd_icmp_ne, pd_icmp_lt, pd_icmp_ge, pd_icmp_gt, pd_icmp_le, pd_iaload, pd_baload, pd_laload, pd_aaload, pd_iastore, pd_bastore, pd_lastore, pd_alen, pd_getfield, pd_putfield, ph_las, ph_len0, ph_len1, ph_len2, ph_gf, ph_pfi, ph_pfl, ph_pfz0, ph_pfz1, ph_nz0, ph_nz1, pm_cm1, pm_c0, pm_c1, pm_c2, pm_c3, pm_c4, pm_c5, pm_b6, pm_b7, pm_b8, pm_b9, pm_b10, pm_b11, pm_b12, pm_b14, pm_b15, pm_b16, pm_b20, pm_b24, pm_b25, pm_b28, pm_b31, pm_b32, pm_b48, pm_b56, pm_b60, pm_b63, pm_b64, pm_b67, pm_b68, pm_b89, pm_b90, pm_b95, pm_b100, pm_b120, pm_b127, pm_h128, pm_h150, pm_h168, pm_h255, pm_h256, pm_h360, pm_h369, pm_h450, pm_h4096, pm_h8192, pm_h32767, pm_h4643, pm_h13363, pm_h20579, pm_h25843, pm_h29227, pm_h31145, pm_h32103, pm_h32525, pm_h32689, pm_h32745, pm_h32762, pm_h32766, pm_o, pm_ldi, pm_ldl, pm_lda, pm_sti, pm_stl, pm_sta, pm_lk, pm_f1, pm_f2, Value.category, lv_args, Option.bind_some, Option.map_some, if_true, if_false, ite_true, ite_false, Nat.reduceAdd, Nat.reduceSub, Nat.reduceMul, Nat.reduceDiv, Nat.reduceMod, Nat.reduceLT, Nat.reduceLeDiff, Nat.reduceEqDiff, reduceIte, reduceCtorEq, Int.reduceNatCast, Int.reduceNatCast', Int.reduceAdd, Int.reduceLE, Int.reduceLT, Int.reduceToNat, Int.reduceNeg, Int.reduceSub, pm_at_add, Nat.add_sub_cancel_left, va_up_g, Int.ofNat_eq_natCast, List.getElem?_cons_zero, List.getElem?_cons_succ, List.set_cons_zero, List.set_cons_succ, List.length_cons, List.length_nil, Nat.zero_add, va_rf, nI_add, pk_mul, Int.toNat_natCast, pm_ix_nI, Option.toList_none, Option.toList_some, List.nil_append, List.cons_append, pq_ial, pq_lal, pq_aal0, pq_aal1, pq_ias, F_S, K_S, d_S_finish_41, d_S_finish_42, d_S_finish_45, d_S_finish_46, d_S_finish_47, sk_4, sk_5, sk_6, sk_7, sk_u4, sk_u5, sk_u6, sk_u7, Nat.reducePow]; exact rfl) ?_
    refine mm_gN X hSt.2.2.2.2.1.1 (host := "LatticeWraps") (List.mem_of_getElem? (i := 16) (by decide +kernel)) d_S_finish_48 ?_
    refine pm_v_ok (cx_X X X_S) 1 _ _ _ _ (by simp -implicitDefEqProofs only [pv_0, pv_s, pd_iconst, pd_bipush, pd_sipush, pd_lconst_0, pd_lconst_1, pd_ldc, pd_ldc2, pd_iload_0, pd_iload_1, pd_iload_2, pd_iload_3, pd_iload, pd_lload_0, pd_lload_1, pd_lload_2, pd_lload_3, pd_lload, pd_aload_0, pd_aload_1, pd_aload_2, pd_aload_3, pd_aload, pd_istore_0, pd_istore_1, pd_istore_2, pd_istore_3, pd_istore, pd_lstore_0, pd_lstore_1, pd_lstore_2, pd_lstore_3, pd_lstore, pd_astore_0, pd_astore_1, pd_astore_2, pd_astore_3, pd_astore, pd_iinc, pd_iadd, pd_isub, pd_imul, pd_iand, pd_ior, pd_ixor, pd_ishl, pd_ishr, pd_iushr, pd_idiv, pd_irem, pd_ineg, pd_ladd, pd_lsub, pd_lmul, pd_land, pd_lor, pd_lxor, pd_lshl, pd_lushr, pd_lcmp, pd_i2l, pd_l2i, pd_dup_int, pd_pop_int, pd_dup_ref, pd_pop_ref, pd_dup_x1_ir, pd_dup_x1_ii, pd_dup2_ir, pd_dup2_ii, pd_goto, pd_if_eq, pd_if_ne, pd_if_lt, pd_if_ge, pd_if_gt, pd_if_le, pd_icmp_eq, pd_icmp_ne, pd_icmp_lt, pd_icmp_ge, pd_icmp_gt, pd_icmp_le, pd_iaload, pd_baload, pd_laload, pd_aaload, pd_iastore, pd_bastore, pd_lastore, pd_alen, pd_getfield, pd_putfield, ph_las, ph_len0, ph_len1, ph_len2, ph_gf, ph_pfi, ph_pfl, ph_pfz0, ph_pfz1, ph_nz0, ph_nz1, pm_cm1, pm_c0, pm_c1, pm_c2, pm_c3, pm_c4, pm_c5, pm_b6, pm_b7, pm_b8, pm_b9, pm_b10, pm_b11, pm_b12, pm_b14, pm_b15, pm_b16, pm_b20, pm_b24, pm_b25, pm_b28, pm_b31, pm_b32, pm_b48, pm_b56, pm_b60, pm_b63, pm_b64, pm_b67, pm_b68, pm_b89, pm_b90, pm_b95, pm_b100, pm_b120, pm_b127, pm_h128, pm_h150, pm_h168, pm_h255, pm_h256, pm_h360, pm_h369, pm_h450, pm_h4096, pm_h8192, pm_h32767, pm_h4643, pm_h13363, pm_h20579, pm_h25843, pm_h29227, pm_h31145, pm_h32103, pm_h32525, pm_h32689, pm_h32745, pm_h32762, pm_h32766, pm_o, pm_ldi, pm_ldl, pm_lda, pm_sti, pm_stl, pm_sta, pm_lk, pm_f1, pm_f2, Value.category, lv_args, Option.bind_some, Option.map_some, if_true, if_false, ite_true, ite_false, Nat.reduceAdd, Nat.reduceSub, Nat.reduceMul, Nat.reduceDiv, Nat.reduceMod, Nat.reduceLT, Nat.reduceLeDiff, Nat.reduceEqDiff, reduceIte, reduceCtorEq, Int.reduceNatCast, Int.reduceNatCast', Int.reduceAdd, Int.reduceLE, Int.reduceLT, Int.reduceToNat, Int.reduceNeg, Int.reduceSub, pm_at_add, Nat.add_sub_cancel_left, va_up_g, Int.ofNat_eq_natCast, List.getElem?_cons_zero, List.getElem?_cons_succ, List.set_cons_zero, List.set_cons_succ, List.length_cons, List.length_nil, Nat.zero_add, va_rf, nI_add, pk_mul, Int.toNat_natCast, pm_ix_nI, Option.toList_none, Option.toList_some, List.nil_append, List.cons_append, pq_ial, pq_lal, pq_aal0, pq_aal1, pq_ias, F_S, K_S, d_S_finish_51]; exact rfl) ?_
    refine mm_tl X hSt.2.2.2.2.1.2 (by omega) (by decide) rfl d_S_finish_52 ?_
    have e9 : vp_updL (rd_ (rn_ f j)) 0 (rd_ (rn_ f j) 0 ^^^ rb_ j) = rn_ f (j + 1) := rfl
    refine pm_v_ok (cx_X X X_S) 4 _ _ _ _ (by simp -implicitDefEqProofs only [pv_0, pv_s, pd_iconst, pd_bipush, pd_sipush, pd_lconst_0, pd_lconst_1, pd_ldc, pd_ldc2, pd_iload_0, pd_iload_1, pd_iload_2, pd_iload_3, pd_iload, pd_lload_0, pd_lload_1, pd_lload_2, pd_lload_3, pd_lload, pd_aload_0, pd_aload_1, pd_aload_2, pd_aload_3, pd_aload, pd_istore_0, pd_istore_1, pd_istore_2, pd_istore_3, pd_istore, pd_lstore_0, pd_lstore_1, pd_lstore_2, pd_lstore_3, pd_lstore, pd_astore_0, pd_astore_1, pd_astore_2, pd_astore_3, pd_astore, pd_iinc, pd_iadd, pd_isub, pd_imul, pd_iand, pd_ior, pd_ixor, pd_ishl, pd_ishr, pd_iushr, pd_idiv, pd_irem, pd_ineg, pd_ladd, pd_lsub, pd_lmul, pd_land, pd_lor, pd_lxor, pd_lshl, pd_lushr, pd_lcmp, pd_i2l, pd_l2i, pd_dup_int, pd_pop_int, pd_dup_ref, pd_pop_ref, pd_dup_x1_ir, pd_dup_x1_ii, pd_dup2_ir, pd_dup2_ii, pd_goto, pd_if_eq, pd_if_ne, pd_if_lt, pd_if_ge, pd_if_gt, pd_if_le, pd_icmp_eq, pd_icmp_ne, pd_icmp_lt, pd_icmp_ge, pd_icmp_gt, pd_icmp_le, pd_iaload, pd_baload, pd_laload, pd_aaload, pd_iastore, pd_bastore, pd_lastore, pd_alen, pd_getfield, pd_putfield, ph_las, ph_len0, ph_len1, ph_len2, ph_gf, ph_pfi, ph_pfl, ph_pfz0, ph_pfz1, ph_nz0, ph_nz1, pm_cm1, pm_c0, pm_c1, pm_c2, pm_c3, pm_c4, pm_c5, pm_b6, pm_b7, pm_b8, pm_b9, pm_b10, pm_b11, pm_b12, pm_b14, pm_b15, pm_b16, pm_b20, pm_b24, pm_b25, pm_b28, pm_b31, pm_b32, pm_b48, pm_b56, pm_b60, pm_b63, pm_b64, pm_b67, pm_b68, pm_b89, pm_b90, pm_b95, pm_b100, pm_b120, pm_b127, pm_h128, pm_h150, pm_h168, pm_h255, pm_h256, pm_h360, pm_h369, pm_h450, pm_h4096, pm_h8192, pm_h32767, pm_h4643, pm_h13363, pm_h20579, pm_h25843, pm_h29227, pm_h31145, pm_h32103, pm_h32525, pm_h32689, pm_h32745, pm_h32762, pm_h32766, pm_o, pm_ldi, pm_ldl, pm_lda, pm_sti, pm_stl, pm_sta, pm_lk, pm_f1, pm_f2, Value.category, lv_args, Option.bind_some, Option.map_some, if_true, if_false, ite_true, ite_false, Nat.reduceAdd, Nat.reduceSub, Nat.reduceMul, Nat.reduceDiv, Nat.reduceMod, Nat.reduceLT, Nat.reduceLeDiff, Nat.reduceEqDiff, reduceIte, reduceCtorEq, Int.reduceNatCast, Int.reduceNatCast', Int.reduceAdd, Int.reduceLE, Int.reduceLT, Int.reduceToNat, Int.reduceNeg, Int.reduceSub, pm_at_add, Nat.add_sub_cancel_left, va_up_g, Int.ofNat_eq_natCast, List.getElem?_cons_zero, List.getElem?_cons_succ, List.set_cons_zero, List.set_cons_succ, List.length_cons, List.length_nil, Nat.zero_add, va_rf, nI_add, pk_mul, Int.toNat_natCast, pm_ix_nI, Option.toList_none, Option.toList_some, List.nil_append, List.cons_append, pq_ial, pq_lal, pq_aal0, pq_aal1, pq_ias, F_S, K_S, d_S_finish_53, d_S_finish_54, d_S_finish_55, d_S_finish_58, sk_4, sk_5, sk_6, sk_7, sk_u4, sk_u5, sk_u6, sk_u7, Nat.reducePow, e9]; exact rfl) ?_
    exact pm_G.sub (by simp) (ih (j + 1) (by omega) _ _)
def kf_ (f : Nat → Int64) (len : Nat) : Nat → Int64 := rn_ (fs_ (pb_ f len (nI 31).toInt64)) 24
set_option maxHeartbeats 4000000 in
theorem m_S_finish (hl : len < 160) : mm_ l y_S_finish c_S_finish 2 none (rm_ 2) D tc sz tk [.ref (sz + 4)] hz 91 (sk_ tc sz w f g h len) hz 91 (fun v w1 => v = none ∧ ∃ g1 h1 : Nat → Int64, w1 = sk_ tc sz w (kf_ f len) g1 h1 (len + 1)) := by
  refine mm_of (by decide) (Nat.le_of_ble_eq_true rfl) ?_
  intro p e s m args below meth c X hr hk hnm
  refine pm_v_ok (cx_X X X_S) 2 _ _ _ _ (by simp -implicitDefEqProofs only [pv_0, pv_s, pd_iconst, pd_bipush, pd_sipush, pd_lconst_0, pd_lconst_1, pd_ldc, pd_ldc2, pd_iload_0, pd_iload_1, pd_iload_2, pd_iload_3, pd_iload, pd_lload_0, pd_lload_1, pd_lload_2, pd_lload_3, pd_lload, pd_aload_0, pd_aload_1, pd_aload_2, pd_aload_3, pd_aload, pd_istore_0, pd_istore_1, pd_istore_2, pd_istore_3, pd_istore, pd_lstore_0, pd_lstore_1, pd_lstore_2, pd_lstore_3, pd_lstore, pd_astore_0, pd_astore_1, pd_astore_2, pd_astore_3, pd_astore, pd_iinc, pd_iadd, pd_isub, pd_imul, pd_iand, pd_ior, pd_ixor, pd_ishl, pd_ishr, pd_iushr, pd_idiv, pd_irem, pd_ineg, pd_ladd, pd_lsub, pd_lmul, pd_land, pd_lor, pd_lxor, pd_lshl, pd_lushr, pd_lcmp, pd_i2l, pd_l2i, pd_dup_int, pd_pop_int, pd_dup_ref, pd_pop_ref, pd_dup_x1_ir, pd_dup_x1_ii, pd_dup2_ir, pd_dup2_ii, pd_goto, pd_if_eq, pd_if_ne, pd_if_lt, pd_if_ge, pd_if_gt, pd_if_le, pd_icmp_eq, pd_icmp_ne, pd_icmp_lt, pd_icmp_ge, pd_icmp_gt, pd_icmp_le, pd_iaload, pd_baload, pd_laload, pd_aaload, pd_iastore, pd_bastore, pd_lastore, pd_alen, pd_getfield, pd_putfield, ph_las, ph_len0, ph_len1, ph_len2, ph_gf, ph_pfi, ph_pfl, ph_pfz0, ph_pfz1, ph_nz0, ph_nz1, pm_cm1, pm_c0, pm_c1, pm_c2, pm_c3, pm_c4, pm_c5, pm_b6, pm_b7, pm_b8, pm_b9, pm_b10, pm_b11, pm_b12, pm_b14, pm_b15, pm_b16, pm_b20, pm_b24, pm_b25, pm_b28, pm_b31, pm_b32, pm_b48, pm_b56, pm_b60, pm_b63, pm_b64, pm_b67, pm_b68, pm_b89, pm_b90, pm_b95, pm_b100, pm_b120, pm_b127, pm_h128, pm_h150, pm_h168, pm_h255, pm_h256, pm_h360, pm_h369, pm_h450, pm_h4096, pm_h8192, pm_h32767, pm_h4643, pm_h13363, pm_h20579, pm_h25843, pm_h29227, pm_h31145, pm_h32103, pm_h32525, pm_h32689, pm_h32745, pm_h32762, pm_h32766, pm_o, pm_ldi, pm_ldl, pm_lda, pm_sti, pm_stl, pm_sta, pm_lk, pm_f1, pm_f2, Value.category, lv_args, Option.bind_some, Option.map_some, if_true, if_false, ite_true, ite_false, Nat.reduceAdd, Nat.reduceSub, Nat.reduceMul, Nat.reduceDiv, Nat.reduceMod, Nat.reduceLT, Nat.reduceLeDiff, Nat.reduceEqDiff, reduceIte, reduceCtorEq, Int.reduceNatCast, Int.reduceNatCast', Int.reduceAdd, Int.reduceLE, Int.reduceLT, Int.reduceToNat, Int.reduceNeg, Int.reduceSub, pm_at_add, Nat.add_sub_cancel_left, va_up_g, Int.ofNat_eq_natCast, List.getElem?_cons_zero, List.getElem?_cons_succ, List.set_cons_zero, List.set_cons_succ, List.length_cons, List.length_nil, Nat.zero_add, va_rf, nI_add, pk_mul, Int.toNat_natCast, pm_ix_nI, Option.toList_none, Option.toList_some, List.nil_append, List.cons_append, pq_ial, pq_lal, pq_aal0, pq_aal1, pq_ias, F_S, K_S, d_S_finish_0, d_S_finish_1]; exact rfl) ?_
  refine mm_V X (m_S_putByte (by omega)) b_S_putByte l_S_33 (by decide) sk_4 rfl rfl rfl (Nat.le_of_ble_eq_true rfl) d_S_finish_3 (by decide) (by decide) (fun v w1 hq => ?_)
  obtain ⟨rfl, rfl⟩ := hq
  have e1 : vp_updL (pb_ f len (nI 31).toInt64) 20 (pb_ f len (nI 31).toInt64 20 ^^^ (-9223372036854775808)) = fs_ (pb_ f len (nI 31).toInt64) := rfl
  refine pm_v_ok (cx_X X X_S) 10 _ _ _ _ (by simp -implicitDefEqProofs only [pv_0, pv_s, pd_iconst, pd_bipush, pd_sipush, pd_lconst_0, pd_lconst_1, pd_ldc, pd_ldc2, pd_iload_0, pd_iload_1, pd_iload_2, pd_iload_3, pd_iload, pd_lload_0, pd_lload_1, pd_lload_2, pd_lload_3, pd_lload, pd_aload_0, pd_aload_1, pd_aload_2, pd_aload_3, pd_aload, pd_istore_0, pd_istore_1, pd_istore_2, pd_istore_3, pd_istore, pd_lstore_0, pd_lstore_1, pd_lstore_2, pd_lstore_3, pd_lstore, pd_astore_0, pd_astore_1, pd_astore_2, pd_astore_3, pd_astore, pd_iinc, pd_iadd, pd_isub, pd_imul, pd_iand, pd_ior, pd_ixor, pd_ishl, pd_ishr, pd_iushr, pd_idiv, pd_irem, pd_ineg, pd_ladd, pd_lsub, pd_lmul, pd_land, pd_lor, pd_lxor, pd_lshl, pd_lushr, pd_lcmp, pd_i2l, pd_l2i, pd_dup_int, pd_pop_int, pd_dup_ref, pd_pop_ref, pd_dup_x1_ir, pd_dup_x1_ii, pd_dup2_ir, pd_dup2_ii, pd_goto, pd_if_eq, pd_if_ne, pd_if_lt, pd_if_ge, pd_if_gt, pd_if_le, pd_icmp_eq, pd_icmp_ne, pd_icmp_lt, pd_icmp_ge, pd_icmp_gt, pd_icmp_le, pd_iaload, pd_baload, pd_laload, pd_aaload, pd_iastore, pd_bastore, pd_lastore, pd_alen, pd_getfield, pd_putfield, ph_las, ph_len0, ph_len1, ph_len2, ph_gf, ph_pfi, ph_pfl, ph_pfz0, ph_pfz1, ph_nz0, ph_nz1, pm_cm1, pm_c0, pm_c1, pm_c2, pm_c3, pm_c4, pm_c5, pm_b6, pm_b7, pm_b8, pm_b9, pm_b10, pm_b11, pm_b12, pm_b14, pm_b15, pm_b16, pm_b20, pm_b24, pm_b25, pm_b28, pm_b31, pm_b32, pm_b48, pm_b56, pm_b60, pm_b63, pm_b64, pm_b67, pm_b68, pm_b89, pm_b90, pm_b95, pm_b100, pm_b120, pm_b127, pm_h128, pm_h150, pm_h168, pm_h255, pm_h256, pm_h360, pm_h369, pm_h450, pm_h4096, pm_h8192, pm_h32767, pm_h4643, pm_h13363, pm_h20579, pm_h25843, pm_h29227, pm_h31145, pm_h32103, pm_h32525, pm_h32689, pm_h32745, pm_h32762, pm_h32766, pm_o, pm_ldi, pm_ldl, pm_lda, pm_sti, pm_stl, pm_sta, pm_lk, pm_f1, pm_f2, Value.category, lv_args, Option.bind_some, Option.map_some, if_true, if_false, ite_true, ite_false, Nat.reduceAdd, Nat.reduceSub, Nat.reduceMul, Nat.reduceDiv, Nat.reduceMod, Nat.reduceLT, Nat.reduceLeDiff, Nat.reduceEqDiff, reduceIte, reduceCtorEq, Int.reduceNatCast, Int.reduceNatCast', Int.reduceAdd, Int.reduceLE, Int.reduceLT, Int.reduceToNat, Int.reduceNeg, Int.reduceSub, pm_at_add, Nat.add_sub_cancel_left, va_up_g, Int.ofNat_eq_natCast, List.getElem?_cons_zero, List.getElem?_cons_succ, List.set_cons_zero, List.set_cons_succ, List.length_cons, List.length_nil, Nat.zero_add, va_rf, nI_add, pk_mul, Int.toNat_natCast, pm_ix_nI, Option.toList_none, Option.toList_some, List.nil_append, List.cons_append, pq_ial, pq_lal, pq_aal0, pq_aal1, pq_ias, F_S, K_S, d_S_finish_6, d_S_finish_7, d_S_finish_10, d_S_finish_12, d_S_finish_13, d_S_finish_14, d_S_finish_17, d_S_finish_18, d_S_finish_19, d_S_finish_20, sk_4, sk_5, sk_6, sk_7, sk_u4, sk_u5, sk_u6, sk_u7, Nat.reducePow, e1]; exact rfl) ?_
  refine pm_G.sub (by simp) (lp_finish (f := fs_ (pb_ f len (nI 31).toInt64)) (len := len + 1) (w := w) X (fun g1 h1 => ?_) 24 0 rfl g h)
  exact mr_v X hr hk d_S_finish_61 (Nat.le_refl _) (Nat.le_refl _) ⟨rfl, g1, h1, rfl⟩
end M4
end
section
section M5
variable {p : Program} {l : Launch} {e : Env} {R : Room} {s : State} {m : MethodId} {args : Array Value} {below : List Frame} {meth : Method} {c : Code} {Q : State → Prop} {D : va_G} {tc : Nat → ClassId} {sz : Nat} {tk : Nat → Nat} {hz : Option Nat} {w : Nat → va_E}
variable {f g h f1 f2 : Nat → Int64} {len N i j k a : Nat} {x : Int64} {r : Nat → Int32} {b b1 : Nat → Int64}
def eq_ (f f1 : Nat → Int64) : Prop := ∀ j, j < 25 → f j = f1 j
theorem eq_pb {y : Int64} (hl : len < 200) (h : eq_ f f1) : eq_ (pb_ f len y) (pb_ f1 len y) := by
  intro j hj
  unfold pb_ vp_updL
  rw [h (len / 8) (by omega), h j hj]
theorem eq_bs (hl : len + k < 200) (h : eq_ f f1) : eq_ (bs_ f len x k) (bs_ f1 len x k) := by
  induction k with
  | zero => exact h
  | succ k ih => exact eq_pb (by omega) (ih (by omega))
theorem eq_fs (h : eq_ f f1) : eq_ (fs_ f) (fs_ f1) := by
  intro j hj
  unfold fs_ vp_updL
  rw [h 20 (by decide), h j hj]
theorem eq_co (h : eq_ f f1) (hj : j < 5) : co_ f j = co_ f1 j := by
  unfold co_
  rw [h j (by omega), h (j + 5) (by omega), h (j + 10) (by omega), h (j + 15) (by omega), h (j + 20) (by omega)]
theorem eq_mx (h : eq_ f f1) : mx_ f j = mx_ f1 j := by
  unfold mx_
  rw [eq_co h (j := (j + 4) % 5) (by omega), eq_co h (j := (j + 1) % 5) (by omega)]
theorem eq_ti (h : eq_ f f1) : eq_ (ti_ f i k) (ti_ f1 i k) := by
  intro j hj
  unfold ti_
  rw [h j hj, eq_mx h]
theorem iv_lt : ∀ j, j < 25 → iv_ j < 25 := by decide
theorem eq_mw (h : eq_ f f1) : eq_ (mw_ f) (mw_ f1) := by
  intro j hj
  unfold mw_
  rw [h _ (iv_lt j hj)]
theorem eq_mr (h : eq_ f f1) (h2 : eq_ g f2) : eq_ (mr_ f g k) (mr_ f1 f2 k) := by
  intro j hj
  unfold mr_ cc_
  rw [h j hj, h2 j hj, h2 (j / 5 * 5 + (j % 5 + 1) % 5) (by omega), h2 (j / 5 * 5 + (j % 5 + 2) % 5) (by omega)]
theorem eq_rd (h : eq_ f f1) : eq_ (rd_ f) (rd_ f1) := eq_mr (eq_ti h) (eq_mw (eq_ti h))
theorem eq_rn (h : eq_ f f1) : eq_ (rn_ f k) (rn_ f1 k) := by
  induction k with
  | zero => exact h
  | succ k ih =>
    intro j hj
    have h1 := eq_rd ih
    show vp_updL _ _ _ _ = vp_updL _ _ _ _
    unfold vp_updL
    rw [h1 0 (by decide), h1 j hj]
theorem eq_kf (hl : len < 200) (h : eq_ f f1) : eq_ (kf_ f len) (kf_ f1 len) := eq_rn (eq_fs (eq_pb hl h))
def ab_ (b : Nat → Int64) : Nat → Nat → Int64
  | 0 => fun _ => 0
  | k + 1 => pb_ (ab_ b k) k (b k)
theorem ab_congr (h : ∀ i, i < k → b i = b1 i) : ab_ b k = ab_ b1 k := by
  induction k with
  | zero => rfl
  | succ k ih =>
    show pb_ _ _ _ = pb_ _ _ _
    rw [ih (fun i hi => h i (by omega)), h k (by omega)]
def sh_ (b : Nat → Int64) (n : Nat) : Nat → Int64 := kf_ (ab_ b n) n
theorem sh_congr (h : ∀ i, i < k → b i = b1 i) : sh_ b k = sh_ b1 k := by
  unfold sh_
  rw [ab_congr h]
def lb_ (x : Int64) (k : Nat) : Int64 := (jl_ushr x (nI (8 * k))).toInt32.toInt64
theorem bs_ab (hb : ∀ i, i < k → b (len + i) = lb_ x i) (hl : len + k < 200) (h : eq_ f (ab_ b len)) : eq_ (bs_ f len x k) (ab_ b (len + k)) := by
  induction k with
  | zero => exact h
  | succ k ih =>
    have h1 := eq_pb (y := lb_ x k) (len := len + k) (by omega) (ih (fun i hi => hb i (by omega)) (by omega))
    show eq_ (pb_ (bs_ f len x k) (len + k) (lb_ x k)) (pb_ (ab_ b (len + k)) (len + k) (b (len + k)))
    rw [hb k (by omega)]
    exact h1
theorem rs_ab (hb : ∀ i, i < k → b (len + i) = (r i).toInt64) (hl : len + k < 200) (h : eq_ f (ab_ b len)) : eq_ (rs_ f len r k) (ab_ b (len + k)) := by
  induction k with
  | zero => exact h
  | succ k ih =>
    have h1 := eq_pb (y := (r k).toInt64) (len := len + k) (by omega) (ih (fun i hi => hb i (by omega)) (by omega))
    show eq_ (pb_ (rs_ f len r k) (len + k) (r k).toInt64) (pb_ (ab_ b (len + k)) (len + k) (b (len + k)))
    rw [hb k (by omega)]
    exact h1
theorem fl_ab : eq_ (fl_ f 0 25) (ab_ b 0) := fun j hj => if_pos hj
def ct_ (b : Nat → Int64) (n : Nat) (c : Nat → Int64) : Nat → Int64 := fun k => if k < n then b k else c (k - n)
theorem ct_l (h : k < N) : ct_ b N b1 k = b k := if_pos h
theorem ct_r : ct_ b N b1 (N + k) = b1 k := by
  unfold ct_
  rw [if_neg (by omega), Nat.add_sub_cancel_left]
set_option maxHeartbeats 4000000 in
theorem m_S_ofLong : mm_ l y_S_ofLong c_S_ofLong 3 (some .long) (rm_ 3) D tc sz tk [.ref (sz + 4), .long x] hz 91 (sk_ tc sz w f g h len) hz 91 (fun v w1 => v = some (.long (sh_ (lb_ x) 8 0)) ∧ ∃ f1 g1 h1 : Nat → Int64, w1 = sk_ tc sz w f1 g1 h1 9 ∧ eq_ f1 (sh_ (lb_ x) 8)) := by
  refine mm_of (by decide) (Nat.le_of_ble_eq_true rfl) ?_
  intro p e s m args below meth c X hr hk hnm
  refine pm_v_ok (cx_X X X_S) 1 _ _ _ _ (by simp -implicitDefEqProofs only [pv_0, pv_s, pd_iconst, pd_bipush, pd_sipush, pd_lconst_0, pd_lconst_1, pd_ldc, pd_ldc2, pd_iload_0, pd_iload_1, pd_iload_2, pd_iload_3, pd_iload, pd_lload_0, pd_lload_1, pd_lload_2, pd_lload_3, pd_lload, pd_aload_0, pd_aload_1, pd_aload_2, pd_aload_3, pd_aload, pd_istore_0, pd_istore_1, pd_istore_2, pd_istore_3, pd_istore, pd_lstore_0, pd_lstore_1, pd_lstore_2, pd_lstore_3, pd_lstore, pd_astore_0, pd_astore_1, pd_astore_2, pd_astore_3, pd_astore, pd_iinc, pd_iadd, pd_isub, pd_imul, pd_iand, pd_ior, pd_ixor, pd_ishl, pd_ishr, pd_iushr, pd_idiv, pd_irem, pd_ineg, pd_ladd, pd_lsub, pd_lmul, pd_land, pd_lor, pd_lxor, pd_lshl, pd_lushr, pd_lcmp, pd_i2l, pd_l2i, pd_dup_int, pd_pop_int, pd_dup_ref, pd_pop_ref, pd_dup_x1_ir, pd_dup_x1_ii, pd_dup2_ir, pd_dup2_ii, pd_goto, pd_if_eq, pd_if_ne, pd_if_lt, pd_if_ge, pd_if_gt, pd_if_le, pd_icmp_eq, pd_icmp_ne, pd_icmp_lt, pd_icmp_ge, pd_icmp_gt, pd_icmp_le, pd_iaload, pd_baload, pd_laload, pd_aaload, pd_iastore, pd_bastore, pd_lastore, pd_alen, pd_getfield, pd_putfield, ph_las, ph_len0, ph_len1, ph_len2, ph_gf, ph_pfi, ph_pfl, ph_pfz0, ph_pfz1, ph_nz0, ph_nz1, pm_cm1, pm_c0, pm_c1, pm_c2, pm_c3, pm_c4, pm_c5, pm_b6, pm_b7, pm_b8, pm_b9, pm_b10, pm_b11, pm_b12, pm_b14, pm_b15, pm_b16, pm_b20, pm_b24, pm_b25, pm_b28, pm_b31, pm_b32, pm_b48, pm_b56, pm_b60, pm_b63, pm_b64, pm_b67, pm_b68, pm_b89, pm_b90, pm_b95, pm_b100, pm_b120, pm_b127, pm_h128, pm_h150, pm_h168, pm_h255, pm_h256, pm_h360, pm_h369, pm_h450, pm_h4096, pm_h8192, pm_h32767, pm_h4643, pm_h13363, pm_h20579, pm_h25843, pm_h29227, pm_h31145, pm_h32103, pm_h32525, pm_h32689, pm_h32745, pm_h32762, pm_h32766, pm_o, pm_ldi, pm_ldl, pm_lda, pm_sti, pm_stl, pm_sta, pm_lk, pm_f1, pm_f2, Value.category, lv_args, Option.bind_some, Option.map_some, if_true, if_false, ite_true, ite_false, Nat.reduceAdd, Nat.reduceSub, Nat.reduceMul, Nat.reduceDiv, Nat.reduceMod, Nat.reduceLT, Nat.reduceLeDiff, Nat.reduceEqDiff, reduceIte, reduceCtorEq, Int.reduceNatCast, Int.reduceNatCast', Int.reduceAdd, Int.reduceLE, Int.reduceLT, Int.reduceToNat, Int.reduceNeg, Int.reduceSub, pm_at_add, Nat.add_sub_cancel_left, va_up_g, Int.ofNat_eq_natCast, List.getElem?_cons_zero, List.getElem?_cons_succ, List.set_cons_zero, List.set_cons_succ, List.length_cons, List.length_nil, Nat.zero_add, va_rf, nI_add, pk_mul, Int.toNat_natCast, pm_ix_nI, Option.toList_none, Option.toList_some, List.nil_append, List.cons_append, pq_ial, pq_lal, pq_aal0, pq_aal1, pq_ias, F_S, K_S, d_S_ofLong_0]; exact rfl) ?_
  refine mm_V X (m_S_begin) b_S_begin l_S_52 (by decide) sk_4 rfl rfl rfl (Nat.le_of_ble_eq_true rfl) d_S_ofLong_1 (by decide) (by decide) (fun v w1 hq => ?_)
  obtain ⟨rfl, rfl⟩ := hq
  refine pm_v_ok (cx_X X X_S) 3 _ _ _ _ (by simp -implicitDefEqProofs only [pv_0, pv_s, pd_iconst, pd_bipush, pd_sipush, pd_lconst_0, pd_lconst_1, pd_ldc, pd_ldc2, pd_iload_0, pd_iload_1, pd_iload_2, pd_iload_3, pd_iload, pd_lload_0, pd_lload_1, pd_lload_2, pd_lload_3, pd_lload, pd_aload_0, pd_aload_1, pd_aload_2, pd_aload_3, pd_aload, pd_istore_0, pd_istore_1, pd_istore_2, pd_istore_3, pd_istore, pd_lstore_0, pd_lstore_1, pd_lstore_2, pd_lstore_3, pd_lstore, pd_astore_0, pd_astore_1, pd_astore_2, pd_astore_3, pd_astore, pd_iinc, pd_iadd, pd_isub, pd_imul, pd_iand, pd_ior, pd_ixor, pd_ishl, pd_ishr, pd_iushr, pd_idiv, pd_irem, pd_ineg, pd_ladd, pd_lsub, pd_lmul, pd_land, pd_lor, pd_lxor, pd_lshl, pd_lushr, pd_lcmp, pd_i2l, pd_l2i, pd_dup_int, pd_pop_int, pd_dup_ref, pd_pop_ref, pd_dup_x1_ir, pd_dup_x1_ii, pd_dup2_ir, pd_dup2_ii, pd_goto, pd_if_eq, pd_if_ne, pd_if_lt, pd_if_ge, pd_if_gt, pd_if_le, pd_icmp_eq, pd_icmp_ne, pd_icmp_lt, pd_icmp_ge, pd_icmp_gt, pd_icmp_le, pd_iaload, pd_baload, pd_laload, pd_aaload, pd_iastore, pd_bastore, pd_lastore, pd_alen, pd_getfield, pd_putfield, ph_las, ph_len0, ph_len1, ph_len2, ph_gf, ph_pfi, ph_pfl, ph_pfz0, ph_pfz1, ph_nz0, ph_nz1, pm_cm1, pm_c0, pm_c1, pm_c2, pm_c3, pm_c4, pm_c5, pm_b6, pm_b7, pm_b8, pm_b9, pm_b10, pm_b11, pm_b12, pm_b14, pm_b15, pm_b16, pm_b20, pm_b24, pm_b25, pm_b28, pm_b31, pm_b32, pm_b48, pm_b56, pm_b60, pm_b63, pm_b64, pm_b67, pm_b68, pm_b89, pm_b90, pm_b95, pm_b100, pm_b120, pm_b127, pm_h128, pm_h150, pm_h168, pm_h255, pm_h256, pm_h360, pm_h369, pm_h450, pm_h4096, pm_h8192, pm_h32767, pm_h4643, pm_h13363, pm_h20579, pm_h25843, pm_h29227, pm_h31145, pm_h32103, pm_h32525, pm_h32689, pm_h32745, pm_h32762, pm_h32766, pm_o, pm_ldi, pm_ldl, pm_lda, pm_sti, pm_stl, pm_sta, pm_lk, pm_f1, pm_f2, Value.category, lv_args, Option.bind_some, Option.map_some, if_true, if_false, ite_true, ite_false, Nat.reduceAdd, Nat.reduceSub, Nat.reduceMul, Nat.reduceDiv, Nat.reduceMod, Nat.reduceLT, Nat.reduceLeDiff, Nat.reduceEqDiff, reduceIte, reduceCtorEq, Int.reduceNatCast, Int.reduceNatCast', Int.reduceAdd, Int.reduceLE, Int.reduceLT, Int.reduceToNat, Int.reduceNeg, Int.reduceSub, pm_at_add, Nat.add_sub_cancel_left, va_up_g, Int.ofNat_eq_natCast, List.getElem?_cons_zero, List.getElem?_cons_succ, List.set_cons_zero, List.set_cons_succ, List.length_cons, List.length_nil, Nat.zero_add, va_rf, nI_add, pk_mul, Int.toNat_natCast, pm_ix_nI, Option.toList_none, Option.toList_some, List.nil_append, List.cons_append, pq_ial, pq_lal, pq_aal0, pq_aal1, pq_ias, F_S, K_S, d_S_ofLong_4, d_S_ofLong_5, d_S_ofLong_6]; exact rfl) ?_
  refine mm_V X (m_S_putBytes (by decide) (by decide)) b_S_putBytes l_S_55 (by decide) sk_4 rfl rfl rfl (Nat.le_of_ble_eq_true rfl) d_S_ofLong_8 (by decide) (by decide) (fun v w1 hq => ?_)
  obtain ⟨rfl, rfl⟩ := hq
  refine pm_v_ok (cx_X X X_S) 1 _ _ _ _ (by simp -implicitDefEqProofs only [pv_0, pv_s, pd_iconst, pd_bipush, pd_sipush, pd_lconst_0, pd_lconst_1, pd_ldc, pd_ldc2, pd_iload_0, pd_iload_1, pd_iload_2, pd_iload_3, pd_iload, pd_lload_0, pd_lload_1, pd_lload_2, pd_lload_3, pd_lload, pd_aload_0, pd_aload_1, pd_aload_2, pd_aload_3, pd_aload, pd_istore_0, pd_istore_1, pd_istore_2, pd_istore_3, pd_istore, pd_lstore_0, pd_lstore_1, pd_lstore_2, pd_lstore_3, pd_lstore, pd_astore_0, pd_astore_1, pd_astore_2, pd_astore_3, pd_astore, pd_iinc, pd_iadd, pd_isub, pd_imul, pd_iand, pd_ior, pd_ixor, pd_ishl, pd_ishr, pd_iushr, pd_idiv, pd_irem, pd_ineg, pd_ladd, pd_lsub, pd_lmul, pd_land, pd_lor, pd_lxor, pd_lshl, pd_lushr, pd_lcmp, pd_i2l, pd_l2i, pd_dup_int, pd_pop_int, pd_dup_ref, pd_pop_ref, pd_dup_x1_ir, pd_dup_x1_ii, pd_dup2_ir, pd_dup2_ii, pd_goto, pd_if_eq, pd_if_ne, pd_if_lt, pd_if_ge, pd_if_gt, pd_if_le, pd_icmp_eq, pd_icmp_ne, pd_icmp_lt, pd_icmp_ge, pd_icmp_gt, pd_icmp_le, pd_iaload, pd_baload, pd_laload, pd_aaload, pd_iastore, pd_bastore, pd_lastore, pd_alen, pd_getfield, pd_putfield, ph_las, ph_len0, ph_len1, ph_len2, ph_gf, ph_pfi, ph_pfl, ph_pfz0, ph_pfz1, ph_nz0, ph_nz1, pm_cm1, pm_c0, pm_c1, pm_c2, pm_c3, pm_c4, pm_c5, pm_b6, pm_b7, pm_b8, pm_b9, pm_b10, pm_b11, pm_b12, pm_b14, pm_b15, pm_b16, pm_b20, pm_b24, pm_b25, pm_b28, pm_b31, pm_b32, pm_b48, pm_b56, pm_b60, pm_b63, pm_b64, pm_b67, pm_b68, pm_b89, pm_b90, pm_b95, pm_b100, pm_b120, pm_b127, pm_h128, pm_h150, pm_h168, pm_h255, pm_h256, pm_h360, pm_h369, pm_h450, pm_h4096, pm_h8192, pm_h32767, pm_h4643, pm_h13363, pm_h20579, pm_h25843, pm_h29227, pm_h31145, pm_h32103, pm_h32525, pm_h32689, pm_h32745, pm_h32762, pm_h32766, pm_o, pm_ldi, pm_ldl, pm_lda, pm_sti, pm_stl, pm_sta, pm_lk, pm_f1, pm_f2, Value.category, lv_args, Option.bind_some, Option.map_some, if_true, if_false, ite_true, ite_false, Nat.reduceAdd, Nat.reduceSub, Nat.reduceMul, Nat.reduceDiv, Nat.reduceMod, Nat.reduceLT, Nat.reduceLeDiff, Nat.reduceEqDiff, reduceIte, reduceCtorEq, Int.reduceNatCast, Int.reduceNatCast', Int.reduceAdd, Int.reduceLE, Int.reduceLT, Int.reduceToNat, Int.reduceNeg, Int.reduceSub, pm_at_add, Nat.add_sub_cancel_left, va_up_g, Int.ofNat_eq_natCast, List.getElem?_cons_zero, List.getElem?_cons_succ, List.set_cons_zero, List.set_cons_succ, List.length_cons, List.length_nil, Nat.zero_add, va_rf, nI_add, pk_mul, Int.toNat_natCast, pm_ix_nI, Option.toList_none, Option.toList_some, List.nil_append, List.cons_append, pq_ial, pq_lal, pq_aal0, pq_aal1, pq_ias, F_S, K_S, d_S_ofLong_11]; exact rfl) ?_
  refine mm_V X (m_S_finish (by decide)) b_S_finish l_S_59 (by decide) sk_4 rfl rfl rfl (Nat.le_of_ble_eq_true rfl) d_S_ofLong_12 (by decide) (by decide) (fun v w1 hq => ?_)
  obtain ⟨rfl, g1, h1, rfl⟩ := hq
  have hE : eq_ (kf_ (bs_ (fl_ f 0 25) 0 x 8) (0 + 8)) (sh_ (lb_ x) 8) := by
    have h2 := bs_ab (b := lb_ x) (len := 0) (x := x) (k := 8) (fun i _ => by rw [Nat.zero_add]) (by decide) (fl_ab (f := f))
    exact eq_kf (by decide) h2
  refine pm_v_ok (cx_X X X_S) 2 _ _ _ _ (by simp -implicitDefEqProofs only [pv_0, pv_s, pd_iconst, pd_bipush, pd_sipush, pd_lconst_0, pd_lconst_1, pd_ldc, pd_ldc2, pd_iload_0, pd_iload_1, pd_iload_2, pd_iload_3, pd_iload, pd_lload_0, pd_lload_1, pd_lload_2, pd_lload_3, pd_lload, pd_aload_0, pd_aload_1, pd_aload_2, pd_aload_3, pd_aload, pd_istore_0, pd_istore_1, pd_istore_2, pd_istore_3, pd_istore, pd_lstore_0, pd_lstore_1, pd_lstore_2, pd_lstore_3, pd_lstore, pd_astore_0, pd_astore_1, pd_astore_2, pd_astore_3, pd_astore, pd_iinc, pd_iadd, pd_isub, pd_imul, pd_iand, pd_ior, pd_ixor, pd_ishl, pd_ishr, pd_iushr, pd_idiv, pd_irem, pd_ineg, pd_ladd, pd_lsub, pd_lmul, pd_land, pd_lor, pd_lxor, pd_lshl, pd_lushr, pd_lcmp, pd_i2l, pd_l2i, pd_dup_int, pd_pop_int, pd_dup_ref, pd_pop_ref, pd_dup_x1_ir, pd_dup_x1_ii, pd_dup2_ir, pd_dup2_ii, pd_goto, pd_if_eq, pd_if_ne, pd_if_lt, pd_if_ge, pd_if_gt, pd_if_le, pd_icmp_eq, pd_icmp_ne, pd_icmp_lt, pd_icmp_ge, pd_icmp_gt, pd_icmp_le, pd_iaload, pd_baload, pd_laload, pd_aaload, pd_iastore, pd_bastore, pd_lastore, pd_alen, pd_getfield, pd_putfield, ph_las, ph_len0, ph_len1, ph_len2, ph_gf, ph_pfi, ph_pfl, ph_pfz0, ph_pfz1, ph_nz0, ph_nz1, pm_cm1, pm_c0, pm_c1, pm_c2, pm_c3, pm_c4, pm_c5, pm_b6, pm_b7, pm_b8, pm_b9, pm_b10, pm_b11, pm_b12, pm_b14, pm_b15, pm_b16, pm_b20, pm_b24, pm_b25, pm_b28, pm_b31, pm_b32, pm_b48, pm_b56, pm_b60, pm_b63, pm_b64, pm_b67, pm_b68, pm_b89, pm_b90, pm_b95, pm_b100, pm_b120, pm_b127, pm_h128, pm_h150, pm_h168, pm_h255, pm_h256, pm_h360, pm_h369, pm_h450, pm_h4096, pm_h8192, pm_h32767, pm_h4643, pm_h13363, pm_h20579, pm_h25843, pm_h29227, pm_h31145, pm_h32103, pm_h32525, pm_h32689, pm_h32745, pm_h32762, pm_h32766, pm_o, pm_ldi, pm_ldl, pm_lda, pm_sti, pm_stl, pm_sta, pm_lk, pm_f1, pm_f2, Value.category, lv_args, Option.bind_some, Option.map_some, if_true, if_false, ite_true, ite_false, Nat.reduceAdd, Nat.reduceSub, Nat.reduceMul, Nat.reduceDiv, Nat.reduceMod, Nat.reduceLT, Nat.reduceLeDiff, Nat.reduceEqDiff, reduceIte, reduceCtorEq, Int.reduceNatCast, Int.reduceNatCast', Int.reduceAdd, Int.reduceLE, Int.reduceLT, Int.reduceToNat, Int.reduceNeg, Int.reduceSub, pm_at_add, Nat.add_sub_cancel_left, va_up_g, Int.ofNat_eq_natCast, List.getElem?_cons_zero, List.getElem?_cons_succ, List.set_cons_zero, List.set_cons_succ, List.length_cons, List.length_nil, Nat.zero_add, va_rf, nI_add, pk_mul, Int.toNat_natCast, pm_ix_nI, Option.toList_none, Option.toList_some, List.nil_append, List.cons_append, pq_ial, pq_lal, pq_aal0, pq_aal1, pq_ias, F_S, K_S, d_S_ofLong_15, d_S_ofLong_16]; exact rfl) ?_
  refine mm_V X (m_S_longAt (by decide)) b_S_longAt l_S_62 (by decide) sk_4 rfl rfl rfl (Nat.le_of_ble_eq_true rfl) d_S_ofLong_17 (by decide) (by decide) (fun v w1 hq => ?_)
  obtain ⟨rfl, rfl⟩ := hq
  exact mr_l X hr hk d_S_ofLong_20 (Nat.le_refl _) (Nat.le_refl _) ⟨by rw [← hE 0 (by decide)], _, _, _, rfl, hE⟩
def bl_ (y : Int32) (x : Int64) : Nat → Int64 := ct_ (fun _ => y.toInt64) 1 (lb_ x)
set_option maxHeartbeats 4000000 in
theorem m_S_ofByteAndLong {y : Int32} : mm_ l y_S_ofByteAndLong c_S_ofByteAndLong 4 none (rm_ 3) D tc sz tk [.ref (sz + 4), .int y, .long x] hz 91 (sk_ tc sz w f g h len) hz 91 (fun v w1 => v = none ∧ ∃ f1 g1 h1 : Nat → Int64, w1 = sk_ tc sz w f1 g1 h1 10 ∧ eq_ f1 (sh_ (bl_ y x) 9)) := by
  refine mm_of (by decide) (Nat.le_of_ble_eq_true rfl) ?_
  intro p e s m args below meth c X hr hk hnm
  refine pm_v_ok (cx_X X X_S) 1 _ _ _ _ (by simp -implicitDefEqProofs only [pv_0, pv_s, pd_iconst, pd_bipush, pd_sipush, pd_lconst_0, pd_lconst_1, pd_ldc, pd_ldc2, pd_iload_0, pd_iload_1, pd_iload_2, pd_iload_3, pd_iload, pd_lload_0, pd_lload_1, pd_lload_2, pd_lload_3, pd_lload, pd_aload_0, pd_aload_1, pd_aload_2, pd_aload_3, pd_aload, pd_istore_0, pd_istore_1, pd_istore_2, pd_istore_3, pd_istore, pd_lstore_0, pd_lstore_1, pd_lstore_2, pd_lstore_3, pd_lstore, pd_astore_0, pd_astore_1, pd_astore_2, pd_astore_3, pd_astore, pd_iinc, pd_iadd, pd_isub, pd_imul, pd_iand, pd_ior, pd_ixor, pd_ishl, pd_ishr, pd_iushr, pd_idiv, pd_irem, pd_ineg, pd_ladd, pd_lsub, pd_lmul, pd_land, pd_lor, pd_lxor, pd_lshl, pd_lushr, pd_lcmp, pd_i2l, pd_l2i, pd_dup_int, pd_pop_int, pd_dup_ref, pd_pop_ref, pd_dup_x1_ir, pd_dup_x1_ii, pd_dup2_ir, pd_dup2_ii, pd_goto, pd_if_eq, pd_if_ne, pd_if_lt, pd_if_ge, pd_if_gt, pd_if_le, pd_icmp_eq, pd_icmp_ne, pd_icmp_lt, pd_icmp_ge, pd_icmp_gt, pd_icmp_le, pd_iaload, pd_baload, pd_laload, pd_aaload, pd_iastore, pd_bastore, pd_lastore, pd_alen, pd_getfield, pd_putfield, ph_las, ph_len0, ph_len1, ph_len2, ph_gf, ph_pfi, ph_pfl, ph_pfz0, ph_pfz1, ph_nz0, ph_nz1, pm_cm1, pm_c0, pm_c1, pm_c2, pm_c3, pm_c4, pm_c5, pm_b6, pm_b7, pm_b8, pm_b9, pm_b10, pm_b11, pm_b12, pm_b14, pm_b15, pm_b16, pm_b20, pm_b24, pm_b25, pm_b28, pm_b31, pm_b32, pm_b48, pm_b56, pm_b60, pm_b63, pm_b64, pm_b67, pm_b68, pm_b89, pm_b90, pm_b95, pm_b100, pm_b120, pm_b127, pm_h128, pm_h150, pm_h168, pm_h255, pm_h256, pm_h360, pm_h369, pm_h450, pm_h4096, pm_h8192, pm_h32767, pm_h4643, pm_h13363, pm_h20579, pm_h25843, pm_h29227, pm_h31145, pm_h32103, pm_h32525, pm_h32689, pm_h32745, pm_h32762, pm_h32766, pm_o, pm_ldi, pm_ldl, pm_lda, pm_sti, pm_stl, pm_sta, pm_lk, pm_f1, pm_f2, Value.category, lv_args, Option.bind_some, Option.map_some, if_true, if_false, ite_true, ite_false, Nat.reduceAdd, Nat.reduceSub, Nat.reduceMul, Nat.reduceDiv, Nat.reduceMod, Nat.reduceLT, Nat.reduceLeDiff, Nat.reduceEqDiff, reduceIte, reduceCtorEq, Int.reduceNatCast, Int.reduceNatCast', Int.reduceAdd, Int.reduceLE, Int.reduceLT, Int.reduceToNat, Int.reduceNeg, Int.reduceSub, pm_at_add, Nat.add_sub_cancel_left, va_up_g, Int.ofNat_eq_natCast, List.getElem?_cons_zero, List.getElem?_cons_succ, List.set_cons_zero, List.set_cons_succ, List.length_cons, List.length_nil, Nat.zero_add, va_rf, nI_add, pk_mul, Int.toNat_natCast, pm_ix_nI, Option.toList_none, Option.toList_some, List.nil_append, List.cons_append, pq_ial, pq_lal, pq_aal0, pq_aal1, pq_ias, F_S, K_S, d_S_ofByteAndLong_0]; exact rfl) ?_
  refine mm_V X (m_S_begin) b_S_begin l_S_52 (by decide) sk_4 rfl rfl rfl (Nat.le_of_ble_eq_true rfl) d_S_ofByteAndLong_1 (by decide) (by decide) (fun v w1 hq => ?_)
  obtain ⟨rfl, rfl⟩ := hq
  refine pm_v_ok (cx_X X X_S) 2 _ _ _ _ (by simp -implicitDefEqProofs only [pv_0, pv_s, pd_iconst, pd_bipush, pd_sipush, pd_lconst_0, pd_lconst_1, pd_ldc, pd_ldc2, pd_iload_0, pd_iload_1, pd_iload_2, pd_iload_3, pd_iload, pd_lload_0, pd_lload_1, pd_lload_2, pd_lload_3, pd_lload, pd_aload_0, pd_aload_1, pd_aload_2, pd_aload_3, pd_aload, pd_istore_0, pd_istore_1, pd_istore_2, pd_istore_3, pd_istore, pd_lstore_0, pd_lstore_1, pd_lstore_2, pd_lstore_3, pd_lstore, pd_astore_0, pd_astore_1, pd_astore_2, pd_astore_3, pd_astore, pd_iinc, pd_iadd, pd_isub, pd_imul, pd_iand, pd_ior, pd_ixor, pd_ishl, pd_ishr, pd_iushr, pd_idiv, pd_irem, pd_ineg, pd_ladd, pd_lsub, pd_lmul, pd_land, pd_lor, pd_lxor, pd_lshl, pd_lushr, pd_lcmp, pd_i2l, pd_l2i, pd_dup_int, pd_pop_int, pd_dup_ref, pd_pop_ref, pd_dup_x1_ir, pd_dup_x1_ii, pd_dup2_ir, pd_dup2_ii, pd_goto, pd_if_eq, pd_if_ne, pd_if_lt, pd_if_ge, pd_if_gt, pd_if_le, pd_icmp_eq, pd_icmp_ne, pd_icmp_lt, pd_icmp_ge, pd_icmp_gt, pd_icmp_le, pd_iaload, pd_baload, pd_laload, pd_aaload, pd_iastore, pd_bastore, pd_lastore, pd_alen, pd_getfield, pd_putfield, ph_las, ph_len0, ph_len1, ph_len2, ph_gf, ph_pfi, ph_pfl, ph_pfz0, ph_pfz1, ph_nz0, ph_nz1, pm_cm1, pm_c0, pm_c1, pm_c2, pm_c3, pm_c4, pm_c5, pm_b6, pm_b7, pm_b8, pm_b9, pm_b10, pm_b11, pm_b12, pm_b14, pm_b15, pm_b16, pm_b20, pm_b24, pm_b25, pm_b28, pm_b31, pm_b32, pm_b48, pm_b56, pm_b60, pm_b63, pm_b64, pm_b67, pm_b68, pm_b89, pm_b90, pm_b95, pm_b100, pm_b120, pm_b127, pm_h128, pm_h150, pm_h168, pm_h255, pm_h256, pm_h360, pm_h369, pm_h450, pm_h4096, pm_h8192, pm_h32767, pm_h4643, pm_h13363, pm_h20579, pm_h25843, pm_h29227, pm_h31145, pm_h32103, pm_h32525, pm_h32689, pm_h32745, pm_h32762, pm_h32766, pm_o, pm_ldi, pm_ldl, pm_lda, pm_sti, pm_stl, pm_sta, pm_lk, pm_f1, pm_f2, Value.category, lv_args, Option.bind_some, Option.map_some, if_true, if_false, ite_true, ite_false, Nat.reduceAdd, Nat.reduceSub, Nat.reduceMul, Nat.reduceDiv, Nat.reduceMod, Nat.reduceLT, Nat.reduceLeDiff, Nat.reduceEqDiff, reduceIte, reduceCtorEq, Int.reduceNatCast, Int.reduceNatCast', Int.reduceAdd, Int.reduceLE, Int.reduceLT, Int.reduceToNat, Int.reduceNeg, Int.reduceSub, pm_at_add, Nat.add_sub_cancel_left, va_up_g, Int.ofNat_eq_natCast, List.getElem?_cons_zero, List.getElem?_cons_succ, List.set_cons_zero, List.set_cons_succ, List.length_cons, List.length_nil, Nat.zero_add, va_rf, nI_add, pk_mul, Int.toNat_natCast, pm_ix_nI, Option.toList_none, Option.toList_some, List.nil_append, List.cons_append, pq_ial, pq_lal, pq_aal0, pq_aal1, pq_ias, F_S, K_S, d_S_ofByteAndLong_4, d_S_ofByteAndLong_5]; exact rfl) ?_
  refine mm_V X (m_S_putByte (by decide)) b_S_putByte l_S_33 (by decide) sk_4 rfl rfl rfl (Nat.le_of_ble_eq_true rfl) d_S_ofByteAndLong_6 (by decide) (by decide) (fun v w1 hq => ?_)
  obtain ⟨rfl, rfl⟩ := hq
  refine pm_v_ok (cx_X X X_S) 3 _ _ _ _ (by simp -implicitDefEqProofs only [pv_0, pv_s, pd_iconst, pd_bipush, pd_sipush, pd_lconst_0, pd_lconst_1, pd_ldc, pd_ldc2, pd_iload_0, pd_iload_1, pd_iload_2, pd_iload_3, pd_iload, pd_lload_0, pd_lload_1, pd_lload_2, pd_lload_3, pd_lload, pd_aload_0, pd_aload_1, pd_aload_2, pd_aload_3, pd_aload, pd_istore_0, pd_istore_1, pd_istore_2, pd_istore_3, pd_istore, pd_lstore_0, pd_lstore_1, pd_lstore_2, pd_lstore_3, pd_lstore, pd_astore_0, pd_astore_1, pd_astore_2, pd_astore_3, pd_astore, pd_iinc, pd_iadd, pd_isub, pd_imul, pd_iand, pd_ior, pd_ixor, pd_ishl, pd_ishr, pd_iushr, pd_idiv, pd_irem, pd_ineg, pd_ladd, pd_lsub, pd_lmul, pd_land, pd_lor, pd_lxor, pd_lshl, pd_lushr, pd_lcmp, pd_i2l, pd_l2i, pd_dup_int, pd_pop_int, pd_dup_ref, pd_pop_ref, pd_dup_x1_ir, pd_dup_x1_ii, pd_dup2_ir, pd_dup2_ii, pd_goto, pd_if_eq, pd_if_ne, pd_if_lt, pd_if_ge, pd_if_gt, pd_if_le, pd_icmp_eq, pd_icmp_ne, pd_icmp_lt, pd_icmp_ge, pd_icmp_gt, pd_icmp_le, pd_iaload, pd_baload, pd_laload, pd_aaload, pd_iastore, pd_bastore, pd_lastore, pd_alen, pd_getfield, pd_putfield, ph_las, ph_len0, ph_len1, ph_len2, ph_gf, ph_pfi, ph_pfl, ph_pfz0, ph_pfz1, ph_nz0, ph_nz1, pm_cm1, pm_c0, pm_c1, pm_c2, pm_c3, pm_c4, pm_c5, pm_b6, pm_b7, pm_b8, pm_b9, pm_b10, pm_b11, pm_b12, pm_b14, pm_b15, pm_b16, pm_b20, pm_b24, pm_b25, pm_b28, pm_b31, pm_b32, pm_b48, pm_b56, pm_b60, pm_b63, pm_b64, pm_b67, pm_b68, pm_b89, pm_b90, pm_b95, pm_b100, pm_b120, pm_b127, pm_h128, pm_h150, pm_h168, pm_h255, pm_h256, pm_h360, pm_h369, pm_h450, pm_h4096, pm_h8192, pm_h32767, pm_h4643, pm_h13363, pm_h20579, pm_h25843, pm_h29227, pm_h31145, pm_h32103, pm_h32525, pm_h32689, pm_h32745, pm_h32762, pm_h32766, pm_o, pm_ldi, pm_ldl, pm_lda, pm_sti, pm_stl, pm_sta, pm_lk, pm_f1, pm_f2, Value.category, lv_args, Option.bind_some, Option.map_some, if_true, if_false, ite_true, ite_false, Nat.reduceAdd, Nat.reduceSub, Nat.reduceMul, Nat.reduceDiv, Nat.reduceMod, Nat.reduceLT, Nat.reduceLeDiff, Nat.reduceEqDiff, reduceIte, reduceCtorEq, Int.reduceNatCast, Int.reduceNatCast', Int.reduceAdd, Int.reduceLE, Int.reduceLT, Int.reduceToNat, Int.reduceNeg, Int.reduceSub, pm_at_add, Nat.add_sub_cancel_left, va_up_g, Int.ofNat_eq_natCast, List.getElem?_cons_zero, List.getElem?_cons_succ, List.set_cons_zero, List.set_cons_succ, List.length_cons, List.length_nil, Nat.zero_add, va_rf, nI_add, pk_mul, Int.toNat_natCast, pm_ix_nI, Option.toList_none, Option.toList_some, List.nil_append, List.cons_append, pq_ial, pq_lal, pq_aal0, pq_aal1, pq_ias, F_S, K_S, d_S_ofByteAndLong_9, d_S_ofByteAndLong_10, d_S_ofByteAndLong_11]; exact rfl) ?_
  refine mm_V X (m_S_putBytes (by decide) (by decide)) b_S_putBytes l_S_55 (by decide) sk_4 rfl rfl rfl (Nat.le_of_ble_eq_true rfl) d_S_ofByteAndLong_13 (by decide) (by decide) (fun v w1 hq => ?_)
  obtain ⟨rfl, rfl⟩ := hq
  refine pm_v_ok (cx_X X X_S) 1 _ _ _ _ (by simp -implicitDefEqProofs only [pv_0, pv_s, pd_iconst, pd_bipush, pd_sipush, pd_lconst_0, pd_lconst_1, pd_ldc, pd_ldc2, pd_iload_0, pd_iload_1, pd_iload_2, pd_iload_3, pd_iload, pd_lload_0, pd_lload_1, pd_lload_2, pd_lload_3, pd_lload, pd_aload_0, pd_aload_1, pd_aload_2, pd_aload_3, pd_aload, pd_istore_0, pd_istore_1, pd_istore_2, pd_istore_3, pd_istore, pd_lstore_0, pd_lstore_1, pd_lstore_2, pd_lstore_3, pd_lstore, pd_astore_0, pd_astore_1, pd_astore_2, pd_astore_3, pd_astore, pd_iinc, pd_iadd, pd_isub, pd_imul, pd_iand, pd_ior, pd_ixor, pd_ishl, pd_ishr, pd_iushr, pd_idiv, pd_irem, pd_ineg, pd_ladd, pd_lsub, pd_lmul, pd_land, pd_lor, pd_lxor, pd_lshl, pd_lushr, pd_lcmp, pd_i2l, pd_l2i, pd_dup_int, pd_pop_int, pd_dup_ref, pd_pop_ref, pd_dup_x1_ir, pd_dup_x1_ii, pd_dup2_ir, pd_dup2_ii, pd_goto, pd_if_eq, pd_if_ne, pd_if_lt, pd_if_ge, pd_if_gt, pd_if_le, pd_icmp_eq, pd_icmp_ne, pd_icmp_lt, pd_icmp_ge, pd_icmp_gt, pd_icmp_le, pd_iaload, pd_baload, pd_laload, pd_aaload, pd_iastore, pd_bastore, pd_lastore, pd_alen, pd_getfield, pd_putfield, ph_las, ph_len0, ph_len1, ph_len2, ph_gf, ph_pfi, ph_pfl, ph_pfz0, ph_pfz1, ph_nz0, ph_nz1, pm_cm1, pm_c0, pm_c1, pm_c2, pm_c3, pm_c4, pm_c5, pm_b6, pm_b7, pm_b8, pm_b9, pm_b10, pm_b11, pm_b12, pm_b14, pm_b15, pm_b16, pm_b20, pm_b24, pm_b25, pm_b28, pm_b31, pm_b32, pm_b48, pm_b56, pm_b60, pm_b63, pm_b64, pm_b67, pm_b68, pm_b89, pm_b90, pm_b95, pm_b100, pm_b120, pm_b127, pm_h128, pm_h150, pm_h168, pm_h255, pm_h256, pm_h360, pm_h369, pm_h450, pm_h4096, pm_h8192, pm_h32767, pm_h4643, pm_h13363, pm_h20579, pm_h25843, pm_h29227, pm_h31145, pm_h32103, pm_h32525, pm_h32689, pm_h32745, pm_h32762, pm_h32766, pm_o, pm_ldi, pm_ldl, pm_lda, pm_sti, pm_stl, pm_sta, pm_lk, pm_f1, pm_f2, Value.category, lv_args, Option.bind_some, Option.map_some, if_true, if_false, ite_true, ite_false, Nat.reduceAdd, Nat.reduceSub, Nat.reduceMul, Nat.reduceDiv, Nat.reduceMod, Nat.reduceLT, Nat.reduceLeDiff, Nat.reduceEqDiff, reduceIte, reduceCtorEq, Int.reduceNatCast, Int.reduceNatCast', Int.reduceAdd, Int.reduceLE, Int.reduceLT, Int.reduceToNat, Int.reduceNeg, Int.reduceSub, pm_at_add, Nat.add_sub_cancel_left, va_up_g, Int.ofNat_eq_natCast, List.getElem?_cons_zero, List.getElem?_cons_succ, List.set_cons_zero, List.set_cons_succ, List.length_cons, List.length_nil, Nat.zero_add, va_rf, nI_add, pk_mul, Int.toNat_natCast, pm_ix_nI, Option.toList_none, Option.toList_some, List.nil_append, List.cons_append, pq_ial, pq_lal, pq_aal0, pq_aal1, pq_ias, F_S, K_S, d_S_ofByteAndLong_16]; exact rfl) ?_
  refine mm_V X (m_S_finish (by decide)) b_S_finish l_S_59 (by decide) sk_4 rfl rfl rfl (Nat.le_of_ble_eq_true rfl) d_S_ofByteAndLong_17 (by decide) (by decide) (fun v w1 hq => ?_)
  obtain ⟨rfl, g1, h1, rfl⟩ := hq
  have hE : eq_ (kf_ (bs_ (pb_ (fl_ f 0 25) 0 y.toInt64) (0 + 1) x 8) (0 + 1 + 8)) (sh_ (bl_ y x) 9) := by
    have h1 : eq_ (pb_ (fl_ f 0 25) 0 y.toInt64) (ab_ (bl_ y x) 1) := eq_pb (by decide) (fl_ab (f := f) (b := bl_ y x))
    have h2 := bs_ab (b := bl_ y x) (len := 1) (x := x) (k := 8) (fun i _ => ct_r) (by decide) h1
    exact eq_kf (by decide) h2
  exact mr_v X hr hk d_S_ofByteAndLong_20 (Nat.le_refl _) (Nat.le_refl _) ⟨rfl, _, _, _, rfl, hE⟩
def rl_ (r : Nat → Int32) (n : Nat) (x : Int64) : Nat → Int64 := ct_ (fun k => (r k).toInt64) n (lb_ x)
set_option maxHeartbeats 4000000 in
theorem m_S_ofRowAndLong (hk : k < 91) (h8 : 8 ≤ k) (hw : w k = .inl (tc 0, N, .inl r)) (hN : N < 140) : mm_ l y_S_ofRowAndLong c_S_ofRowAndLong 4 (some .long) (rm_ 3) D tc sz tk [.ref (sz + 4), .ref (sz + k), .long x] hz 91 (sk_ tc sz w f g h len) hz 91 (fun v w1 => v = some (.long (sh_ (rl_ r N x) (N + 8) 0)) ∧ ∃ f1 g1 h1 : Nat → Int64, w1 = sk_ tc sz w f1 g1 h1 (N + 9) ∧ eq_ f1 (sh_ (rl_ r N x) (N + 8))) := by
  refine mm_of (by decide) (Nat.le_of_ble_eq_true rfl) ?_
  intro p e s m args below meth c X hr hlk hnm
  refine pm_v_ok (cx_X X X_S) 1 _ _ _ _ (by simp -implicitDefEqProofs only [pv_0, pv_s, pd_iconst, pd_bipush, pd_sipush, pd_lconst_0, pd_lconst_1, pd_ldc, pd_ldc2, pd_iload_0, pd_iload_1, pd_iload_2, pd_iload_3, pd_iload, pd_lload_0, pd_lload_1, pd_lload_2, pd_lload_3, pd_lload, pd_aload_0, pd_aload_1, pd_aload_2, pd_aload_3, pd_aload, pd_istore_0, pd_istore_1, pd_istore_2, pd_istore_3, pd_istore, pd_lstore_0, pd_lstore_1, pd_lstore_2, pd_lstore_3, pd_lstore, pd_astore_0, pd_astore_1, pd_astore_2, pd_astore_3, pd_astore, pd_iinc, pd_iadd, pd_isub, pd_imul, pd_iand, pd_ior, pd_ixor, pd_ishl, pd_ishr, pd_iushr, pd_idiv, pd_irem, pd_ineg, pd_ladd, pd_lsub, pd_lmul, pd_land, pd_lor, pd_lxor, pd_lshl, pd_lushr, pd_lcmp, pd_i2l, pd_l2i, pd_dup_int, pd_pop_int, pd_dup_ref, pd_pop_ref, pd_dup_x1_ir, pd_dup_x1_ii, pd_dup2_ir, pd_dup2_ii, pd_goto, pd_if_eq, pd_if_ne, pd_if_lt, pd_if_ge, pd_if_gt, pd_if_le, pd_icmp_eq, pd_icmp_ne, pd_icmp_lt, pd_icmp_ge, pd_icmp_gt, pd_icmp_le, pd_iaload, pd_baload, pd_laload, pd_aaload, pd_iastore, pd_bastore, pd_lastore, pd_alen, pd_getfield, pd_putfield, ph_las, ph_len0, ph_len1, ph_len2, ph_gf, ph_pfi, ph_pfl, ph_pfz0, ph_pfz1, ph_nz0, ph_nz1, pm_cm1, pm_c0, pm_c1, pm_c2, pm_c3, pm_c4, pm_c5, pm_b6, pm_b7, pm_b8, pm_b9, pm_b10, pm_b11, pm_b12, pm_b14, pm_b15, pm_b16, pm_b20, pm_b24, pm_b25, pm_b28, pm_b31, pm_b32, pm_b48, pm_b56, pm_b60, pm_b63, pm_b64, pm_b67, pm_b68, pm_b89, pm_b90, pm_b95, pm_b100, pm_b120, pm_b127, pm_h128, pm_h150, pm_h168, pm_h255, pm_h256, pm_h360, pm_h369, pm_h450, pm_h4096, pm_h8192, pm_h32767, pm_h4643, pm_h13363, pm_h20579, pm_h25843, pm_h29227, pm_h31145, pm_h32103, pm_h32525, pm_h32689, pm_h32745, pm_h32762, pm_h32766, pm_o, pm_ldi, pm_ldl, pm_lda, pm_sti, pm_stl, pm_sta, pm_lk, pm_f1, pm_f2, Value.category, lv_args, Option.bind_some, Option.map_some, if_true, if_false, ite_true, ite_false, Nat.reduceAdd, Nat.reduceSub, Nat.reduceMul, Nat.reduceDiv, Nat.reduceMod, Nat.reduceLT, Nat.reduceLeDiff, Nat.reduceEqDiff, reduceIte, reduceCtorEq, Int.reduceNatCast, Int.reduceNatCast', Int.reduceAdd, Int.reduceLE, Int.reduceLT, Int.reduceToNat, Int.reduceNeg, Int.reduceSub, pm_at_add, Nat.add_sub_cancel_left, va_up_g, Int.ofNat_eq_natCast, List.getElem?_cons_zero, List.getElem?_cons_succ, List.set_cons_zero, List.set_cons_succ, List.length_cons, List.length_nil, Nat.zero_add, va_rf, nI_add, pk_mul, Int.toNat_natCast, pm_ix_nI, Option.toList_none, Option.toList_some, List.nil_append, List.cons_append, pq_ial, pq_lal, pq_aal0, pq_aal1, pq_ias, F_S, K_S, d_S_ofRowAndLong_0]; exact rfl) ?_
  refine mm_V X (m_S_begin) b_S_begin l_S_52 (by decide) sk_4 rfl rfl rfl (Nat.le_of_ble_eq_true rfl) d_S_ofRowAndLong_1 (by decide) (by decide) (fun v w1 hq => ?_)
  obtain ⟨rfl, rfl⟩ := hq
  refine pm_v_ok (cx_X X X_S) 2 _ _ _ _ (by simp -implicitDefEqProofs only [pv_0, pv_s, pd_iconst, pd_bipush, pd_sipush, pd_lconst_0, pd_lconst_1, pd_ldc, pd_ldc2, pd_iload_0, pd_iload_1, pd_iload_2, pd_iload_3, pd_iload, pd_lload_0, pd_lload_1, pd_lload_2, pd_lload_3, pd_lload, pd_aload_0, pd_aload_1, pd_aload_2, pd_aload_3, pd_aload, pd_istore_0, pd_istore_1, pd_istore_2, pd_istore_3, pd_istore, pd_lstore_0, pd_lstore_1, pd_lstore_2, pd_lstore_3, pd_lstore, pd_astore_0, pd_astore_1, pd_astore_2, pd_astore_3, pd_astore, pd_iinc, pd_iadd, pd_isub, pd_imul, pd_iand, pd_ior, pd_ixor, pd_ishl, pd_ishr, pd_iushr, pd_idiv, pd_irem, pd_ineg, pd_ladd, pd_lsub, pd_lmul, pd_land, pd_lor, pd_lxor, pd_lshl, pd_lushr, pd_lcmp, pd_i2l, pd_l2i, pd_dup_int, pd_pop_int, pd_dup_ref, pd_pop_ref, pd_dup_x1_ir, pd_dup_x1_ii, pd_dup2_ir, pd_dup2_ii, pd_goto, pd_if_eq, pd_if_ne, pd_if_lt, pd_if_ge, pd_if_gt, pd_if_le, pd_icmp_eq, pd_icmp_ne, pd_icmp_lt, pd_icmp_ge, pd_icmp_gt, pd_icmp_le, pd_iaload, pd_baload, pd_laload, pd_aaload, pd_iastore, pd_bastore, pd_lastore, pd_alen, pd_getfield, pd_putfield, ph_las, ph_len0, ph_len1, ph_len2, ph_gf, ph_pfi, ph_pfl, ph_pfz0, ph_pfz1, ph_nz0, ph_nz1, pm_cm1, pm_c0, pm_c1, pm_c2, pm_c3, pm_c4, pm_c5, pm_b6, pm_b7, pm_b8, pm_b9, pm_b10, pm_b11, pm_b12, pm_b14, pm_b15, pm_b16, pm_b20, pm_b24, pm_b25, pm_b28, pm_b31, pm_b32, pm_b48, pm_b56, pm_b60, pm_b63, pm_b64, pm_b67, pm_b68, pm_b89, pm_b90, pm_b95, pm_b100, pm_b120, pm_b127, pm_h128, pm_h150, pm_h168, pm_h255, pm_h256, pm_h360, pm_h369, pm_h450, pm_h4096, pm_h8192, pm_h32767, pm_h4643, pm_h13363, pm_h20579, pm_h25843, pm_h29227, pm_h31145, pm_h32103, pm_h32525, pm_h32689, pm_h32745, pm_h32762, pm_h32766, pm_o, pm_ldi, pm_ldl, pm_lda, pm_sti, pm_stl, pm_sta, pm_lk, pm_f1, pm_f2, Value.category, lv_args, Option.bind_some, Option.map_some, if_true, if_false, ite_true, ite_false, Nat.reduceAdd, Nat.reduceSub, Nat.reduceMul, Nat.reduceDiv, Nat.reduceMod, Nat.reduceLT, Nat.reduceLeDiff, Nat.reduceEqDiff, reduceIte, reduceCtorEq, Int.reduceNatCast, Int.reduceNatCast', Int.reduceAdd, Int.reduceLE, Int.reduceLT, Int.reduceToNat, Int.reduceNeg, Int.reduceSub, pm_at_add, Nat.add_sub_cancel_left, va_up_g, Int.ofNat_eq_natCast, List.getElem?_cons_zero, List.getElem?_cons_succ, List.set_cons_zero, List.set_cons_succ, List.length_cons, List.length_nil, Nat.zero_add, va_rf, nI_add, pk_mul, Int.toNat_natCast, pm_ix_nI, Option.toList_none, Option.toList_some, List.nil_append, List.cons_append, pq_ial, pq_lal, pq_aal0, pq_aal1, pq_ias, F_S, K_S, d_S_ofRowAndLong_4, d_S_ofRowAndLong_5]; exact rfl) ?_
  refine mm_V X (m_S_putRow hk h8 hw (by omega)) b_S_putRow l_S_66 (by decide) sk_4 rfl rfl rfl (Nat.le_of_ble_eq_true rfl) d_S_ofRowAndLong_6 (by decide) (by decide) (fun v w1 hq => ?_)
  obtain ⟨rfl, rfl⟩ := hq
  refine pm_v_ok (cx_X X X_S) 3 _ _ _ _ (by simp -implicitDefEqProofs only [pv_0, pv_s, pd_iconst, pd_bipush, pd_sipush, pd_lconst_0, pd_lconst_1, pd_ldc, pd_ldc2, pd_iload_0, pd_iload_1, pd_iload_2, pd_iload_3, pd_iload, pd_lload_0, pd_lload_1, pd_lload_2, pd_lload_3, pd_lload, pd_aload_0, pd_aload_1, pd_aload_2, pd_aload_3, pd_aload, pd_istore_0, pd_istore_1, pd_istore_2, pd_istore_3, pd_istore, pd_lstore_0, pd_lstore_1, pd_lstore_2, pd_lstore_3, pd_lstore, pd_astore_0, pd_astore_1, pd_astore_2, pd_astore_3, pd_astore, pd_iinc, pd_iadd, pd_isub, pd_imul, pd_iand, pd_ior, pd_ixor, pd_ishl, pd_ishr, pd_iushr, pd_idiv, pd_irem, pd_ineg, pd_ladd, pd_lsub, pd_lmul, pd_land, pd_lor, pd_lxor, pd_lshl, pd_lushr, pd_lcmp, pd_i2l, pd_l2i, pd_dup_int, pd_pop_int, pd_dup_ref, pd_pop_ref, pd_dup_x1_ir, pd_dup_x1_ii, pd_dup2_ir, pd_dup2_ii, pd_goto, pd_if_eq, pd_if_ne, pd_if_lt, pd_if_ge, pd_if_gt, pd_if_le, pd_icmp_eq, pd_icmp_ne, pd_icmp_lt, pd_icmp_ge, pd_icmp_gt, pd_icmp_le, pd_iaload, pd_baload, pd_laload, pd_aaload, pd_iastore, pd_bastore, pd_lastore, pd_alen, pd_getfield, pd_putfield, ph_las, ph_len0, ph_len1, ph_len2, ph_gf, ph_pfi, ph_pfl, ph_pfz0, ph_pfz1, ph_nz0, ph_nz1, pm_cm1, pm_c0, pm_c1, pm_c2, pm_c3, pm_c4, pm_c5, pm_b6, pm_b7, pm_b8, pm_b9, pm_b10, pm_b11, pm_b12, pm_b14, pm_b15, pm_b16, pm_b20, pm_b24, pm_b25, pm_b28, pm_b31, pm_b32, pm_b48, pm_b56, pm_b60, pm_b63, pm_b64, pm_b67, pm_b68, pm_b89, pm_b90, pm_b95, pm_b100, pm_b120, pm_b127, pm_h128, pm_h150, pm_h168, pm_h255, pm_h256, pm_h360, pm_h369, pm_h450, pm_h4096, pm_h8192, pm_h32767, pm_h4643, pm_h13363, pm_h20579, pm_h25843, pm_h29227, pm_h31145, pm_h32103, pm_h32525, pm_h32689, pm_h32745, pm_h32762, pm_h32766, pm_o, pm_ldi, pm_ldl, pm_lda, pm_sti, pm_stl, pm_sta, pm_lk, pm_f1, pm_f2, Value.category, lv_args, Option.bind_some, Option.map_some, if_true, if_false, ite_true, ite_false, Nat.reduceAdd, Nat.reduceSub, Nat.reduceMul, Nat.reduceDiv, Nat.reduceMod, Nat.reduceLT, Nat.reduceLeDiff, Nat.reduceEqDiff, reduceIte, reduceCtorEq, Int.reduceNatCast, Int.reduceNatCast', Int.reduceAdd, Int.reduceLE, Int.reduceLT, Int.reduceToNat, Int.reduceNeg, Int.reduceSub, pm_at_add, Nat.add_sub_cancel_left, va_up_g, Int.ofNat_eq_natCast, List.getElem?_cons_zero, List.getElem?_cons_succ, List.set_cons_zero, List.set_cons_succ, List.length_cons, List.length_nil, Nat.zero_add, va_rf, nI_add, pk_mul, Int.toNat_natCast, pm_ix_nI, Option.toList_none, Option.toList_some, List.nil_append, List.cons_append, pq_ial, pq_lal, pq_aal0, pq_aal1, pq_ias, F_S, K_S, d_S_ofRowAndLong_9, d_S_ofRowAndLong_10, d_S_ofRowAndLong_11]; exact rfl) ?_
  refine mm_V X (m_S_putBytes (N := 8) (by decide) (by omega)) b_S_putBytes l_S_55 (by decide) sk_4 rfl rfl rfl (Nat.le_of_ble_eq_true rfl) d_S_ofRowAndLong_13 (by decide) (by decide) (fun v w1 hq => ?_)
  obtain ⟨rfl, rfl⟩ := hq
  refine pm_v_ok (cx_X X X_S) 1 _ _ _ _ (by simp -implicitDefEqProofs only [pv_0, pv_s, pd_iconst, pd_bipush, pd_sipush, pd_lconst_0, pd_lconst_1, pd_ldc, pd_ldc2, pd_iload_0, pd_iload_1, pd_iload_2, pd_iload_3, pd_iload, pd_lload_0, pd_lload_1, pd_lload_2, pd_lload_3, pd_lload, pd_aload_0, pd_aload_1, pd_aload_2, pd_aload_3, pd_aload, pd_istore_0, pd_istore_1, pd_istore_2, pd_istore_3, pd_istore, pd_lstore_0, pd_lstore_1, pd_lstore_2, pd_lstore_3, pd_lstore, pd_astore_0, pd_astore_1, pd_astore_2, pd_astore_3, pd_astore, pd_iinc, pd_iadd, pd_isub, pd_imul, pd_iand, pd_ior, pd_ixor, pd_ishl, pd_ishr, pd_iushr, pd_idiv, pd_irem, pd_ineg, pd_ladd, pd_lsub, pd_lmul, pd_land, pd_lor, pd_lxor, pd_lshl, pd_lushr, pd_lcmp, pd_i2l, pd_l2i, pd_dup_int, pd_pop_int, pd_dup_ref, pd_pop_ref, pd_dup_x1_ir, pd_dup_x1_ii, pd_dup2_ir, pd_dup2_ii, pd_goto, pd_if_eq, pd_if_ne, pd_if_lt, pd_if_ge, pd_if_gt, pd_if_le, pd_icmp_eq, pd_icmp_ne, pd_icmp_lt, pd_icmp_ge, pd_icmp_gt, pd_icmp_le, pd_iaload, pd_baload, pd_laload, pd_aaload, pd_iastore, pd_bastore, pd_lastore, pd_alen, pd_getfield, pd_putfield, ph_las, ph_len0, ph_len1, ph_len2, ph_gf, ph_pfi, ph_pfl, ph_pfz0, ph_pfz1, ph_nz0, ph_nz1, pm_cm1, pm_c0, pm_c1, pm_c2, pm_c3, pm_c4, pm_c5, pm_b6, pm_b7, pm_b8, pm_b9, pm_b10, pm_b11, pm_b12, pm_b14, pm_b15, pm_b16, pm_b20, pm_b24, pm_b25, pm_b28, pm_b31, pm_b32, pm_b48, pm_b56, pm_b60, pm_b63, pm_b64, pm_b67, pm_b68, pm_b89, pm_b90, pm_b95, pm_b100, pm_b120, pm_b127, pm_h128, pm_h150, pm_h168, pm_h255, pm_h256, pm_h360, pm_h369, pm_h450, pm_h4096, pm_h8192, pm_h32767, pm_h4643, pm_h13363, pm_h20579, pm_h25843, pm_h29227, pm_h31145, pm_h32103, pm_h32525, pm_h32689, pm_h32745, pm_h32762, pm_h32766, pm_o, pm_ldi, pm_ldl, pm_lda, pm_sti, pm_stl, pm_sta, pm_lk, pm_f1, pm_f2, Value.category, lv_args, Option.bind_some, Option.map_some, if_true, if_false, ite_true, ite_false, Nat.reduceAdd, Nat.reduceSub, Nat.reduceMul, Nat.reduceDiv, Nat.reduceMod, Nat.reduceLT, Nat.reduceLeDiff, Nat.reduceEqDiff, reduceIte, reduceCtorEq, Int.reduceNatCast, Int.reduceNatCast', Int.reduceAdd, Int.reduceLE, Int.reduceLT, Int.reduceToNat, Int.reduceNeg, Int.reduceSub, pm_at_add, Nat.add_sub_cancel_left, va_up_g, Int.ofNat_eq_natCast, List.getElem?_cons_zero, List.getElem?_cons_succ, List.set_cons_zero, List.set_cons_succ, List.length_cons, List.length_nil, Nat.zero_add, va_rf, nI_add, pk_mul, Int.toNat_natCast, pm_ix_nI, Option.toList_none, Option.toList_some, List.nil_append, List.cons_append, pq_ial, pq_lal, pq_aal0, pq_aal1, pq_ias, F_S, K_S, d_S_ofRowAndLong_16]; exact rfl) ?_
  refine mm_V X (m_S_finish (by omega)) b_S_finish l_S_59 (by decide) sk_4 rfl rfl rfl (Nat.le_of_ble_eq_true rfl) d_S_ofRowAndLong_17 (by decide) (by decide) (fun v w1 hq => ?_)
  obtain ⟨rfl, g1, h1, rfl⟩ := hq
  have hE : eq_ (kf_ (bs_ (rs_ (fl_ f 0 25) 0 r N) N x 8) (N + 8)) (sh_ (rl_ r N x) (N + 8)) := by
    have h1 := rs_ab (b := rl_ r N x) (len := 0) (r := r) (k := N) (fun i hi => by rw [Nat.zero_add]; exact ct_l hi) (by omega) (fl_ab (f := f))
    have h2 := bs_ab (b := rl_ r N x) (len := 0 + N) (x := x) (k := 8) (fun i _ => by rw [Nat.zero_add]; exact ct_r) (by omega) h1
    have h3 := eq_kf (len := 0 + N + 8) (by omega) h2
    rw [Nat.zero_add] at h3
    exact h3
  refine pm_v_ok (cx_X X X_S) 2 _ _ _ _ (by simp -implicitDefEqProofs only [pv_0, pv_s, pd_iconst, pd_bipush, pd_sipush, pd_lconst_0, pd_lconst_1, pd_ldc, pd_ldc2, pd_iload_0, pd_iload_1, pd_iload_2, pd_iload_3, pd_iload, pd_lload_0, pd_lload_1, pd_lload_2, pd_lload_3, pd_lload, pd_aload_0, pd_aload_1, pd_aload_2, pd_aload_3, pd_aload, pd_istore_0, pd_istore_1, pd_istore_2, pd_istore_3, pd_istore, pd_lstore_0, pd_lstore_1, pd_lstore_2, pd_lstore_3, pd_lstore, pd_astore_0, pd_astore_1, pd_astore_2, pd_astore_3, pd_astore, pd_iinc, pd_iadd, pd_isub, pd_imul, pd_iand, pd_ior, pd_ixor, pd_ishl, pd_ishr, pd_iushr, pd_idiv, pd_irem, pd_ineg, pd_ladd, pd_lsub, pd_lmul, pd_land, pd_lor, pd_lxor, pd_lshl, pd_lushr, pd_lcmp, pd_i2l, pd_l2i, pd_dup_int, pd_pop_int, pd_dup_ref, pd_pop_ref, pd_dup_x1_ir, pd_dup_x1_ii, pd_dup2_ir, pd_dup2_ii, pd_goto, pd_if_eq, pd_if_ne, pd_if_lt, pd_if_ge, pd_if_gt, pd_if_le, pd_icmp_eq, pd_icmp_ne, pd_icmp_lt, pd_icmp_ge, pd_icmp_gt, pd_icmp_le, pd_iaload, pd_baload, pd_laload, pd_aaload, pd_iastore, pd_bastore, pd_lastore, pd_alen, pd_getfield, pd_putfield, ph_las, ph_len0, ph_len1, ph_len2, ph_gf, ph_pfi, ph_pfl, ph_pfz0, ph_pfz1, ph_nz0, ph_nz1, pm_cm1, pm_c0, pm_c1, pm_c2, pm_c3, pm_c4, pm_c5, pm_b6, pm_b7, pm_b8, pm_b9, pm_b10, pm_b11, pm_b12, pm_b14, pm_b15, pm_b16, pm_b20, pm_b24, pm_b25, pm_b28, pm_b31, pm_b32, pm_b48, pm_b56, pm_b60, pm_b63, pm_b64, pm_b67, pm_b68, pm_b89, pm_b90, pm_b95, pm_b100, pm_b120, pm_b127, pm_h128, pm_h150, pm_h168, pm_h255, pm_h256, pm_h360, pm_h369, pm_h450, pm_h4096, pm_h8192, pm_h32767, pm_h4643, pm_h13363, pm_h20579, pm_h25843, pm_h29227, pm_h31145, pm_h32103, pm_h32525, pm_h32689, pm_h32745, pm_h32762, pm_h32766, pm_o, pm_ldi, pm_ldl, pm_lda, pm_sti, pm_stl, pm_sta, pm_lk, pm_f1, pm_f2, Value.category, lv_args, Option.bind_some, Option.map_some, if_true, if_false, ite_true, ite_false, Nat.reduceAdd, Nat.reduceSub, Nat.reduceMul, Nat.reduceDiv, Nat.reduceMod, Nat.reduceLT, Nat.reduceLeDiff, Nat.reduceEqDiff, reduceIte, reduceCtorEq, Int.reduceNatCast, Int.reduceNatCast', Int.reduceAdd, Int.reduceLE, Int.reduceLT, Int.reduceToNat, Int.reduceNeg, Int.reduceSub, pm_at_add, Nat.add_sub_cancel_left, va_up_g, Int.ofNat_eq_natCast, List.getElem?_cons_zero, List.getElem?_cons_succ, List.set_cons_zero, List.set_cons_succ, List.length_cons, List.length_nil, Nat.zero_add, va_rf, nI_add, pk_mul, Int.toNat_natCast, pm_ix_nI, Option.toList_none, Option.toList_some, List.nil_append, List.cons_append, pq_ial, pq_lal, pq_aal0, pq_aal1, pq_ias, F_S, K_S, d_S_ofRowAndLong_20, d_S_ofRowAndLong_21]; exact rfl) ?_
  refine mm_V X (m_S_longAt (by decide)) b_S_longAt l_S_62 (by decide) sk_4 rfl rfl rfl (Nat.le_of_ble_eq_true rfl) d_S_ofRowAndLong_22 (by decide) (by decide) (fun v w1 hq => ?_)
  obtain ⟨rfl, rfl⟩ := hq
  exact mr_l X hr hlk d_S_ofRowAndLong_25 (Nat.le_refl _) (Nat.le_refl _) ⟨by rw [← hE 0 (by decide)], _, _, _, rfl, hE⟩
end M5
end
section
section M6
variable {p : Program} {l : Launch} {e : Env} {R : Room} {s : State} {m : MethodId} {args : Array Value} {below : List Frame} {meth : Method} {c : Code} {Q : State → Prop} {D : va_G} {tc : Nat → ClassId} {sz : Nat} {tk : Nat → Nat} {hz : Option Nat} {w : Nat → va_E}
variable {f g h f1 : Nat → Int64} {len N i j k a q Rw Cl : Nat} {x : Int64} {r e0 : Nat → Int32} {y : Int32}
def mo_ (sz q Rw Cl : Nat) : va_E := .inr (2, [.int (nI Rw), .int (nI Cl), .ref (sz + (q + 1))])
def ma_ (tc : Nat → ClassId) (N : Nat) (r : Nat → Int32) : va_E := .inl (tc 0, N, .inl r)
def mt_ (tc : Nat → ClassId) (sz : Nat) (w : Nat → va_E) (q Rw Cl : Nat) (r : Nat → Int32) : Prop := q + 1 < 91 ∧ w q = mo_ sz q Rw Cl ∧ w (q + 1) = ma_ tc (Rw * Cl) r
theorem mt_0 (h : mt_ tc sz w q Rw Cl r) : pm_at sz 91 w (sz + q) = some (.inr (2, [.int (nI Rw), .int (nI Cl), .ref (sz + (q + 1))])) := by
  rw [pm_at_add (by have := h.1; omega), h.2.1]
  rfl
theorem mt_1 (h : mt_ tc sz w q Rw Cl r) : pm_at sz 91 w (sz + (q + 1)) = some (.inl (tc 0, Rw * Cl, .inl r)) := by
  rw [pm_at_add h.1, h.2.2]
  rfl
set_option maxHeartbeats 4000000 in
theorem m_M_at (hm : mt_ tc sz w q Rw Cl r) (hN : Rw * Cl < 2 ^ 31) (hi : i * Cl + j < Rw * Cl) : mm_ l y_M_at c_M_at 3 (some .int) (rm_ 0) D tc sz tk [.ref (sz + q), .int (nI i), .int (nI j)] hz 91 (w) hz 91 (fun v w1 => v = some (.int (r (i * Cl + j))) ∧ w1 = w) := by
  refine mm_of (by decide) (Nat.le_of_ble_eq_true rfl) ?_
  intro p e s m args below meth c X hr hk hnm
  have a0 := mt_0 hm
  have a1 := mt_1 hm
  have e1 : pm_ix (nI (i * Cl + j)) (Rw * Cl) = some (i * Cl + j) := pm_ix_nI hi hN
  refine pm_v_ok (cx_X X X_M) 9 _ _ _ _ (by simp -implicitDefEqProofs only [pv_0, pv_s, pd_iconst, pd_bipush, pd_sipush, pd_lconst_0, pd_lconst_1, pd_ldc, pd_ldc2, pd_iload_0, pd_iload_1, pd_iload_2, pd_iload_3, pd_iload, pd_lload_0, pd_lload_1, pd_lload_2, pd_lload_3, pd_lload, pd_aload_0, pd_aload_1, pd_aload_2, pd_aload_3, pd_aload, pd_istore_0, pd_istore_1, pd_istore_2, pd_istore_3, pd_istore, pd_lstore_0, pd_lstore_1, pd_lstore_2, pd_lstore_3, pd_lstore, pd_astore_0, pd_astore_1, pd_astore_2, pd_astore_3, pd_astore, pd_iinc, pd_iadd, pd_isub, pd_imul, pd_iand, pd_ior, pd_ixor, pd_ishl, pd_ishr, pd_iushr, pd_idiv, pd_irem, pd_ineg, pd_ladd, pd_lsub, pd_lmul, pd_land, pd_lor, pd_lxor, pd_lshl, pd_lushr, pd_lcmp, pd_i2l, pd_l2i, pd_dup_int, pd_pop_int, pd_dup_ref, pd_pop_ref, pd_dup_x1_ir, pd_dup_x1_ii, pd_dup2_ir, pd_dup2_ii, pd_goto, pd_if_eq, pd_if_ne, pd_if_lt, pd_if_ge, pd_if_gt, pd_if_le, pd_icmp_eq, pd_icmp_ne, pd_icmp_lt, pd_icmp_ge, pd_icmp_gt, pd_icmp_le, pd_iaload, pd_baload, pd_laload, pd_aaload, pd_iastore, pd_bastore, pd_lastore, pd_alen, pd_getfield, pd_putfield, ph_las, ph_len0, ph_len1, ph_len2, ph_gf, ph_pfi, ph_pfl, ph_pfz0, ph_pfz1, ph_nz0, ph_nz1, pm_cm1, pm_c0, pm_c1, pm_c2, pm_c3, pm_c4, pm_c5, pm_b6, pm_b7, pm_b8, pm_b9, pm_b10, pm_b11, pm_b12, pm_b14, pm_b15, pm_b16, pm_b20, pm_b24, pm_b25, pm_b28, pm_b31, pm_b32, pm_b48, pm_b56, pm_b60, pm_b63, pm_b64, pm_b67, pm_b68, pm_b89, pm_b90, pm_b95, pm_b100, pm_b120, pm_b127, pm_h128, pm_h150, pm_h168, pm_h255, pm_h256, pm_h360, pm_h369, pm_h450, pm_h4096, pm_h8192, pm_h32767, pm_h4643, pm_h13363, pm_h20579, pm_h25843, pm_h29227, pm_h31145, pm_h32103, pm_h32525, pm_h32689, pm_h32745, pm_h32762, pm_h32766, pm_o, pm_ldi, pm_ldl, pm_lda, pm_sti, pm_stl, pm_sta, pm_lk, pm_f1, pm_f2, Value.category, lv_args, Option.bind_some, Option.map_some, if_true, if_false, ite_true, ite_false, Nat.reduceAdd, Nat.reduceSub, Nat.reduceMul, Nat.reduceDiv, Nat.reduceMod, Nat.reduceLT, Nat.reduceLeDiff, Nat.reduceEqDiff, reduceIte, reduceCtorEq, Int.reduceNatCast, Int.reduceNatCast', Int.reduceAdd, Int.reduceLE, Int.reduceLT, Int.reduceToNat, Int.reduceNeg, Int.reduceSub, Nat.add_sub_cancel_left, va_up_g, Int.ofNat_eq_natCast, List.getElem?_cons_zero, List.getElem?_cons_succ, List.set_cons_zero, List.set_cons_succ, List.length_cons, List.length_nil, Nat.zero_add, va_rf, nI_add, pk_mul, Int.toNat_natCast, pm_ix_nI, Option.toList_none, Option.toList_some, List.nil_append, List.cons_append, pq_ial, pq_lal, pq_aal0, pq_aal1, pq_ias, F_M, K_M, d_M_at_0, d_M_at_1, d_M_at_4, d_M_at_5, d_M_at_6, d_M_at_9, d_M_at_10, d_M_at_11, d_M_at_12, a0, a1, e1]; exact rfl) ?_
  exact mr_i X hr hk d_M_at_13 (Nat.le_refl _) (Nat.le_refl _) ⟨rfl, rfl⟩
set_option maxHeartbeats 4000000 in
theorem m_M_put (hm : mt_ tc sz w q Rw Cl r) (hN : Rw * Cl < 2 ^ 31) (hi : i * Cl + j < Rw * Cl) : mm_ l y_M_put c_M_put 4 none (rm_ 0) D tc sz tk [.ref (sz + q), .int (nI i), .int (nI j), .int y] hz 91 (w) hz 91 (fun v w1 => v = none ∧ w1 = va_up w (q + 1) (ma_ tc (Rw * Cl) (upd r (i * Cl + j) (y &&& nI 32767)))) := by
  refine mm_of (by decide) (Nat.le_of_ble_eq_true rfl) ?_
  intro p e s m args below meth c X hr hk hnm
  have a0 := mt_0 hm
  have a1 := mt_1 hm
  have e1 : pm_ix (nI (i * Cl + j)) (Rw * Cl) = some (i * Cl + j) := pm_ix_nI hi hN
  refine pm_v_ok (cx_X X X_M) 12 _ _ _ _ (by simp -implicitDefEqProofs only [pv_0, pv_s, pd_iconst, pd_bipush, pd_sipush, pd_lconst_0, pd_lconst_1, pd_ldc, pd_ldc2, pd_iload_0, pd_iload_1, pd_iload_2, pd_iload_3, pd_iload, pd_lload_0, pd_lload_1, pd_lload_2, pd_lload_3, pd_lload, pd_aload_0, pd_aload_1, pd_aload_2, pd_aload_3, pd_aload, pd_istore_0, pd_istore_1, pd_istore_2, pd_istore_3, pd_istore, pd_lstore_0, pd_lstore_1, pd_lstore_2, pd_lstore_3, pd_lstore, pd_astore_0, pd_astore_1, pd_astore_2, pd_astore_3, pd_astore, pd_iinc, pd_iadd, pd_isub, pd_imul, pd_iand, pd_ior, pd_ixor, pd_ishl, pd_ishr, pd_iushr, pd_idiv, pd_irem, pd_ineg, pd_ladd, pd_lsub, pd_lmul, pd_land, pd_lor, pd_lxor, pd_lshl, pd_lushr, pd_lcmp, pd_i2l, pd_l2i, pd_dup_int, pd_pop_int, pd_dup_ref, pd_pop_ref, pd_dup_x1_ir, pd_dup_x1_ii, pd_dup2_ir, pd_dup2_ii, pd_goto, pd_if_eq, pd_if_ne, pd_if_lt, pd_if_ge, pd_if_gt, pd_if_le, pd_icmp_eq, pd_icmp_ne, pd_icmp_lt, pd_icmp_ge, pd_icmp_gt, pd_icmp_le, pd_iaload, pd_baload, pd_laload, pd_aaload, pd_iastore, pd_bastore, pd_lastore, pd_alen, pd_getfield, pd_putfield, ph_las, ph_len0, ph_len1, ph_len2, ph_gf, ph_pfi, ph_pfl, ph_pfz0, ph_pfz1, ph_nz0, ph_nz1, pm_cm1, pm_c0, pm_c1, pm_c2, pm_c3, pm_c4, pm_c5, pm_b6, pm_b7, pm_b8, pm_b9, pm_b10, pm_b11, pm_b12, pm_b14, pm_b15, pm_b16, pm_b20, pm_b24, pm_b25, pm_b28, pm_b31, pm_b32, pm_b48, pm_b56, pm_b60, pm_b63, pm_b64, pm_b67, pm_b68, pm_b89, pm_b90, pm_b95, pm_b100, pm_b120, pm_b127, pm_h128, pm_h150, pm_h168, pm_h255, pm_h256, pm_h360, pm_h369, pm_h450, pm_h4096, pm_h8192, pm_h32767, pm_h4643, pm_h13363, pm_h20579, pm_h25843, pm_h29227, pm_h31145, pm_h32103, pm_h32525, pm_h32689, pm_h32745, pm_h32762, pm_h32766, pm_o, pm_ldi, pm_ldl, pm_lda, pm_sti, pm_stl, pm_sta, pm_lk, pm_f1, pm_f2, Value.category, lv_args, Option.bind_some, Option.map_some, if_true, if_false, ite_true, ite_false, Nat.reduceAdd, Nat.reduceSub, Nat.reduceMul, Nat.reduceDiv, Nat.reduceMod, Nat.reduceLT, Nat.reduceLeDiff, Nat.reduceEqDiff, reduceIte, reduceCtorEq, Int.reduceNatCast, Int.reduceNatCast', Int.reduceAdd, Int.reduceLE, Int.reduceLT, Int.reduceToNat, Int.reduceNeg, Int.reduceSub, Nat.add_sub_cancel_left, va_up_g, Int.ofNat_eq_natCast, List.getElem?_cons_zero, List.getElem?_cons_succ, List.set_cons_zero, List.set_cons_succ, List.length_cons, List.length_nil, Nat.zero_add, va_rf, nI_add, pk_mul, Int.toNat_natCast, pm_ix_nI, Option.toList_none, Option.toList_some, List.nil_append, List.cons_append, pq_ial, pq_lal, pq_aal0, pq_aal1, pq_ias, F_M, K_M, d_M_put_0, d_M_put_1, d_M_put_4, d_M_put_5, d_M_put_6, d_M_put_9, d_M_put_10, d_M_put_11, d_M_put_12, d_M_put_13, d_M_put_16, d_M_put_17, a0, a1, e1]; exact rfl) ?_
  exact mr_v X hr hk d_M_put_18 (Nat.le_refl _) (Nat.le_refl _) ⟨rfl, rfl⟩
def ha_ (x y : Int32) (Rw Cl : Nat) : Prop := ¬ x < 0 ∧ ¬ nI Rw ≤ x ∧ ¬ y < 0 ∧ ¬ nI Cl ≤ y
set_option maxHeartbeats 4000000 in
theorem m_M_has {b0 : Int32} (hm : mt_ tc sz w q Rw Cl r) : mm_ l y_M_has c_M_has 3 (some .boolean) (rm_ 0) D tc sz tk [.ref (sz + q), .int y, .int b0] hz 91 (w) hz 91 (fun v w1 => w1 = w ∧ ((ha_ y b0 Rw Cl ∧ v = some (.int (nI 1))) ∨ (¬ ha_ y b0 Rw Cl ∧ v = some (.int (nI 0))))) := by
  refine mm_of (by decide) (Nat.le_of_ble_eq_true rfl) ?_
  intro p e s m args below meth c X hr hk hnm
  have a0 := mt_0 hm
  have z0 : narrow .boolean (.int (nI 0)) = .int (nI 0) := by decide
  have z1 : narrow .boolean (.int (nI 1)) = .int (nI 1) := by decide
  by_cases h1 : y < 0
  · have e1 : (y < 0) = True := eq_true h1
    refine pm_v_ok (cx_X X X_M) 3 _ _ _ _ (by simp -implicitDefEqProofs only [pv_0, pv_s, pd_iconst, pd_bipush, pd_sipush, pd_lconst_0, pd_lconst_1, pd_ldc, pd_ldc2, pd_iload_0, pd_iload_1, pd_iload_2, pd_iload_3, pd_iload, pd_lload_0, pd_lload_1, pd_lload_2, pd_lload_3, pd_lload, pd_aload_0, pd_aload_1, pd_aload_2, pd_aload_3, pd_aload, pd_istore_0, pd_istore_1, pd_istore_2, pd_istore_3, pd_istore, pd_lstore_0, pd_lstore_1, pd_lstore_2, pd_lstore_3, pd_lstore, pd_astore_0, pd_astore_1, pd_astore_2, pd_astore_3, pd_astore, pd_iinc, pd_iadd, pd_isub, pd_imul, pd_iand, pd_ior, pd_ixor, pd_ishl, pd_ishr, pd_iushr, pd_idiv, pd_irem, pd_ineg, pd_ladd, pd_lsub, pd_lmul, pd_land, pd_lor, pd_lxor, pd_lshl, pd_lushr, pd_lcmp, pd_i2l, pd_l2i, pd_dup_int, pd_pop_int, pd_dup_ref, pd_pop_ref, pd_dup_x1_ir, pd_dup_x1_ii, pd_dup2_ir, pd_dup2_ii, pd_goto, pd_if_eq, pd_if_ne, pd_if_lt, pd_if_ge, pd_if_gt, pd_if_le, pd_icmp_eq, pd_icmp_ne, pd_icmp_lt, pd_icmp_ge, pd_icmp_gt, pd_icmp_le, pd_iaload, pd_baload, pd_laload, pd_aaload, pd_iastore, pd_bastore, pd_lastore, pd_alen, pd_getfield, pd_putfield, ph_las, ph_len0, ph_len1, ph_len2, ph_gf, ph_pfi, ph_pfl, ph_pfz0, ph_pfz1, ph_nz0, ph_nz1, pm_cm1, pm_c0, pm_c1, pm_c2, pm_c3, pm_c4, pm_c5, pm_b6, pm_b7, pm_b8, pm_b9, pm_b10, pm_b11, pm_b12, pm_b14, pm_b15, pm_b16, pm_b20, pm_b24, pm_b25, pm_b28, pm_b31, pm_b32, pm_b48, pm_b56, pm_b60, pm_b63, pm_b64, pm_b67, pm_b68, pm_b89, pm_b90, pm_b95, pm_b100, pm_b120, pm_b127, pm_h128, pm_h150, pm_h168, pm_h255, pm_h256, pm_h360, pm_h369, pm_h450, pm_h4096, pm_h8192, pm_h32767, pm_h4643, pm_h13363, pm_h20579, pm_h25843, pm_h29227, pm_h31145, pm_h32103, pm_h32525, pm_h32689, pm_h32745, pm_h32762, pm_h32766, pm_o, pm_ldi, pm_ldl, pm_lda, pm_sti, pm_stl, pm_sta, pm_lk, pm_f1, pm_f2, Value.category, lv_args, Option.bind_some, Option.map_some, if_true, if_false, ite_true, ite_false, Nat.reduceAdd, Nat.reduceSub, Nat.reduceMul, Nat.reduceDiv, Nat.reduceMod, Nat.reduceLT, Nat.reduceLeDiff, Nat.reduceEqDiff, reduceIte, reduceCtorEq, Int.reduceNatCast, Int.reduceNatCast', Int.reduceAdd, Int.reduceLE, Int.reduceLT, Int.reduceToNat, Int.reduceNeg, Int.reduceSub, Nat.add_sub_cancel_left, va_up_g, Int.ofNat_eq_natCast, List.getElem?_cons_zero, List.getElem?_cons_succ, List.set_cons_zero, List.set_cons_succ, List.length_cons, List.length_nil, Nat.zero_add, va_rf, nI_add, pk_mul, Int.toNat_natCast, pm_ix_nI, Option.toList_none, Option.toList_some, List.nil_append, List.cons_append, pq_ial, pq_lal, pq_aal0, pq_aal1, pq_ias, F_M, K_M, d_M_has_0, d_M_has_1, d_M_has_28, a0, e1]; exact rfl) ?_
    exact mr_z X hr hk d_M_has_29 z0 (Nat.le_refl _) (Nat.le_refl _) ⟨rfl, Or.inr ⟨fun h => h.1 h1, rfl⟩⟩
  have e1 : (y < 0) = False := eq_false h1
  by_cases h2 : nI Rw ≤ y
  · have e2 : (nI Rw ≤ y) = True := eq_true h2
    refine pm_v_ok (cx_X X X_M) 7 _ _ _ _ (by simp -implicitDefEqProofs only [pv_0, pv_s, pd_iconst, pd_bipush, pd_sipush, pd_lconst_0, pd_lconst_1, pd_ldc, pd_ldc2, pd_iload_0, pd_iload_1, pd_iload_2, pd_iload_3, pd_iload, pd_lload_0, pd_lload_1, pd_lload_2, pd_lload_3, pd_lload, pd_aload_0, pd_aload_1, pd_aload_2, pd_aload_3, pd_aload, pd_istore_0, pd_istore_1, pd_istore_2, pd_istore_3, pd_istore, pd_lstore_0, pd_lstore_1, pd_lstore_2, pd_lstore_3, pd_lstore, pd_astore_0, pd_astore_1, pd_astore_2, pd_astore_3, pd_astore, pd_iinc, pd_iadd, pd_isub, pd_imul, pd_iand, pd_ior, pd_ixor, pd_ishl, pd_ishr, pd_iushr, pd_idiv, pd_irem, pd_ineg, pd_ladd, pd_lsub, pd_lmul, pd_land, pd_lor, pd_lxor, pd_lshl, pd_lushr, pd_lcmp, pd_i2l, pd_l2i, pd_dup_int, pd_pop_int, pd_dup_ref, pd_pop_ref, pd_dup_x1_ir, pd_dup_x1_ii, pd_dup2_ir, pd_dup2_ii, pd_goto, pd_if_eq, pd_if_ne, pd_if_lt, pd_if_ge, pd_if_gt, pd_if_le, pd_icmp_eq, pd_icmp_ne, pd_icmp_lt, pd_icmp_ge, pd_icmp_gt, pd_icmp_le, pd_iaload, pd_baload, pd_laload, pd_aaload, pd_iastore, pd_bastore, pd_lastore, pd_alen, pd_getfield, pd_putfield, ph_las, ph_len0, ph_len1, ph_len2, ph_gf, ph_pfi, ph_pfl, ph_pfz0, ph_pfz1, ph_nz0, ph_nz1, pm_cm1, pm_c0, pm_c1, pm_c2, pm_c3, pm_c4, pm_c5, pm_b6, pm_b7, pm_b8, pm_b9, pm_b10, pm_b11, pm_b12, pm_b14, pm_b15, pm_b16, pm_b20, pm_b24, pm_b25, pm_b28, pm_b31, pm_b32, pm_b48, pm_b56, pm_b60, pm_b63, pm_b64, pm_b67, pm_b68, pm_b89, pm_b90, pm_b95, pm_b100, pm_b120, pm_b127, pm_h128, pm_h150, pm_h168, pm_h255, pm_h256, pm_h360, pm_h369, pm_h450, pm_h4096, pm_h8192, pm_h32767, pm_h4643, pm_h13363, pm_h20579, pm_h25843, pm_h29227, pm_h31145, pm_h32103, pm_h32525, pm_h32689, pm_h32745, pm_h32762, pm_h32766, pm_o, pm_ldi, pm_ldl, pm_lda, pm_sti, pm_stl, pm_sta, pm_lk, pm_f1, pm_f2, Value.category, lv_args, Option.bind_some, Option.map_some, if_true, if_false, ite_true, ite_false, Nat.reduceAdd, Nat.reduceSub, Nat.reduceMul, Nat.reduceDiv, Nat.reduceMod, Nat.reduceLT, Nat.reduceLeDiff, Nat.reduceEqDiff, reduceIte, reduceCtorEq, Int.reduceNatCast, Int.reduceNatCast', Int.reduceAdd, Int.reduceLE, Int.reduceLT, Int.reduceToNat, Int.reduceNeg, Int.reduceSub, Nat.add_sub_cancel_left, va_up_g, Int.ofNat_eq_natCast, List.getElem?_cons_zero, List.getElem?_cons_succ, List.set_cons_zero, List.set_cons_succ, List.length_cons, List.length_nil, Nat.zero_add, va_rf, nI_add, pk_mul, Int.toNat_natCast, pm_ix_nI, Option.toList_none, Option.toList_some, List.nil_append, List.cons_append, pq_ial, pq_lal, pq_aal0, pq_aal1, pq_ias, F_M, K_M, d_M_has_0, d_M_has_1, d_M_has_4, d_M_has_5, d_M_has_6, d_M_has_9, d_M_has_28, a0, e1, e2]; exact rfl) ?_
    exact mr_z X hr hk d_M_has_29 z0 (Nat.le_refl _) (Nat.le_refl _) ⟨rfl, Or.inr ⟨fun h => h.2.1 h2, rfl⟩⟩
  have e2 : (nI Rw ≤ y) = False := eq_false h2
  by_cases h3 : b0 < 0
  · have e3 : (b0 < 0) = True := eq_true h3
    refine pm_v_ok (cx_X X X_M) 9 _ _ _ _ (by simp -implicitDefEqProofs only [pv_0, pv_s, pd_iconst, pd_bipush, pd_sipush, pd_lconst_0, pd_lconst_1, pd_ldc, pd_ldc2, pd_iload_0, pd_iload_1, pd_iload_2, pd_iload_3, pd_iload, pd_lload_0, pd_lload_1, pd_lload_2, pd_lload_3, pd_lload, pd_aload_0, pd_aload_1, pd_aload_2, pd_aload_3, pd_aload, pd_istore_0, pd_istore_1, pd_istore_2, pd_istore_3, pd_istore, pd_lstore_0, pd_lstore_1, pd_lstore_2, pd_lstore_3, pd_lstore, pd_astore_0, pd_astore_1, pd_astore_2, pd_astore_3, pd_astore, pd_iinc, pd_iadd, pd_isub, pd_imul, pd_iand, pd_ior, pd_ixor, pd_ishl, pd_ishr, pd_iushr, pd_idiv, pd_irem, pd_ineg, pd_ladd, pd_lsub, pd_lmul, pd_land, pd_lor, pd_lxor, pd_lshl, pd_lushr, pd_lcmp, pd_i2l, pd_l2i, pd_dup_int, pd_pop_int, pd_dup_ref, pd_pop_ref, pd_dup_x1_ir, pd_dup_x1_ii, pd_dup2_ir, pd_dup2_ii, pd_goto, pd_if_eq, pd_if_ne, pd_if_lt, pd_if_ge, pd_if_gt, pd_if_le, pd_icmp_eq, pd_icmp_ne, pd_icmp_lt, pd_icmp_ge, pd_icmp_gt, pd_icmp_le, pd_iaload, pd_baload, pd_laload, pd_aaload, pd_iastore, pd_bastore, pd_lastore, pd_alen, pd_getfield, pd_putfield, ph_las, ph_len0, ph_len1, ph_len2, ph_gf, ph_pfi, ph_pfl, ph_pfz0, ph_pfz1, ph_nz0, ph_nz1, pm_cm1, pm_c0, pm_c1, pm_c2, pm_c3, pm_c4, pm_c5, pm_b6, pm_b7, pm_b8, pm_b9, pm_b10, pm_b11, pm_b12, pm_b14, pm_b15, pm_b16, pm_b20, pm_b24, pm_b25, pm_b28, pm_b31, pm_b32, pm_b48, pm_b56, pm_b60, pm_b63, pm_b64, pm_b67, pm_b68, pm_b89, pm_b90, pm_b95, pm_b100, pm_b120, pm_b127, pm_h128, pm_h150, pm_h168, pm_h255, pm_h256, pm_h360, pm_h369, pm_h450, pm_h4096, pm_h8192, pm_h32767, pm_h4643, pm_h13363, pm_h20579, pm_h25843, pm_h29227, pm_h31145, pm_h32103, pm_h32525, pm_h32689, pm_h32745, pm_h32762, pm_h32766, pm_o, pm_ldi, pm_ldl, pm_lda, pm_sti, pm_stl, pm_sta, pm_lk, pm_f1, pm_f2, Value.category, lv_args, Option.bind_some, Option.map_some, if_true, if_false, ite_true, ite_false, Nat.reduceAdd, Nat.reduceSub, Nat.reduceMul, Nat.reduceDiv, Nat.reduceMod, Nat.reduceLT, Nat.reduceLeDiff, Nat.reduceEqDiff, reduceIte, reduceCtorEq, Int.reduceNatCast, Int.reduceNatCast', Int.reduceAdd, Int.reduceLE, Int.reduceLT, Int.reduceToNat, Int.reduceNeg, Int.reduceSub, Nat.add_sub_cancel_left, va_up_g, Int.ofNat_eq_natCast, List.getElem?_cons_zero, List.getElem?_cons_succ, List.set_cons_zero, List.set_cons_succ, List.length_cons, List.length_nil, Nat.zero_add, va_rf, nI_add, pk_mul, Int.toNat_natCast, pm_ix_nI, Option.toList_none, Option.toList_some, List.nil_append, List.cons_append, pq_ial, pq_lal, pq_aal0, pq_aal1, pq_ias, F_M, K_M, d_M_has_0, d_M_has_1, d_M_has_4, d_M_has_5, d_M_has_6, d_M_has_9, d_M_has_12, d_M_has_13, d_M_has_28, a0, e1, e2, e3]; exact rfl) ?_
    exact mr_z X hr hk d_M_has_29 z0 (Nat.le_refl _) (Nat.le_refl _) ⟨rfl, Or.inr ⟨fun h => h.2.2.1 h3, rfl⟩⟩
  have e3 : (b0 < 0) = False := eq_false h3
  by_cases h4 : nI Cl ≤ b0
  · have e4 : (nI Cl ≤ b0) = True := eq_true h4
    refine pm_v_ok (cx_X X X_M) 13 _ _ _ _ (by simp -implicitDefEqProofs only [pv_0, pv_s, pd_iconst, pd_bipush, pd_sipush, pd_lconst_0, pd_lconst_1, pd_ldc, pd_ldc2, pd_iload_0, pd_iload_1, pd_iload_2, pd_iload_3, pd_iload, pd_lload_0, pd_lload_1, pd_lload_2, pd_lload_3, pd_lload, pd_aload_0, pd_aload_1, pd_aload_2, pd_aload_3, pd_aload, pd_istore_0, pd_istore_1, pd_istore_2, pd_istore_3, pd_istore, pd_lstore_0, pd_lstore_1, pd_lstore_2, pd_lstore_3, pd_lstore, pd_astore_0, pd_astore_1, pd_astore_2, pd_astore_3, pd_astore, pd_iinc, pd_iadd, pd_isub, pd_imul, pd_iand, pd_ior, pd_ixor, pd_ishl, pd_ishr, pd_iushr, pd_idiv, pd_irem, pd_ineg, pd_ladd, pd_lsub, pd_lmul, pd_land, pd_lor, pd_lxor, pd_lshl, pd_lushr, pd_lcmp, pd_i2l, pd_l2i, pd_dup_int, pd_pop_int, pd_dup_ref, pd_pop_ref, pd_dup_x1_ir, pd_dup_x1_ii, pd_dup2_ir, pd_dup2_ii, pd_goto, pd_if_eq, pd_if_ne, pd_if_lt, pd_if_ge, pd_if_gt, pd_if_le, pd_icmp_eq, pd_icmp_ne, pd_icmp_lt, pd_icmp_ge, pd_icmp_gt, pd_icmp_le, pd_iaload, pd_baload, pd_laload, pd_aaload, pd_iastore, pd_bastore, pd_lastore, pd_alen, pd_getfield, pd_putfield, ph_las, ph_len0, ph_len1, ph_len2, ph_gf, ph_pfi, ph_pfl, ph_pfz0, ph_pfz1, ph_nz0, ph_nz1, pm_cm1, pm_c0, pm_c1, pm_c2, pm_c3, pm_c4, pm_c5, pm_b6, pm_b7, pm_b8, pm_b9, pm_b10, pm_b11, pm_b12, pm_b14, pm_b15, pm_b16, pm_b20, pm_b24, pm_b25, pm_b28, pm_b31, pm_b32, pm_b48, pm_b56, pm_b60, pm_b63, pm_b64, pm_b67, pm_b68, pm_b89, pm_b90, pm_b95, pm_b100, pm_b120, pm_b127, pm_h128, pm_h150, pm_h168, pm_h255, pm_h256, pm_h360, pm_h369, pm_h450, pm_h4096, pm_h8192, pm_h32767, pm_h4643, pm_h13363, pm_h20579, pm_h25843, pm_h29227, pm_h31145, pm_h32103, pm_h32525, pm_h32689, pm_h32745, pm_h32762, pm_h32766, pm_o, pm_ldi, pm_ldl, pm_lda, pm_sti, pm_stl, pm_sta, pm_lk, pm_f1, pm_f2, Value.category, lv_args, Option.bind_some, Option.map_some, if_true, if_false, ite_true, ite_false, Nat.reduceAdd, Nat.reduceSub, Nat.reduceMul, Nat.reduceDiv, Nat.reduceMod, Nat.reduceLT, Nat.reduceLeDiff, Nat.reduceEqDiff, reduceIte, reduceCtorEq, Int.reduceNatCast, Int.reduceNatCast', Int.reduceAdd, Int.reduceLE, Int.reduceLT, Int.reduceToNat, Int.reduceNeg, Int.reduceSub, Nat.add_sub_cancel_left, va_up_g, Int.ofNat_eq_natCast, List.getElem?_cons_zero, List.getElem?_cons_succ, List.set_cons_zero, List.set_cons_succ, List.length_cons, List.length_nil, Nat.zero_add, va_rf, nI_add, pk_mul, Int.toNat_natCast, pm_ix_nI, Option.toList_none, Option.toList_some, List.nil_append, List.cons_append, pq_ial, pq_lal, pq_aal0, pq_aal1, pq_ias, F_M, K_M, d_M_has_0, d_M_has_1, d_M_has_4, d_M_has_5, d_M_has_6, d_M_has_9, d_M_has_12, d_M_has_13, d_M_has_16, d_M_has_17, d_M_has_18, d_M_has_21, d_M_has_28, a0, e1, e2, e3, e4]; exact rfl) ?_
    exact mr_z X hr hk d_M_has_29 z0 (Nat.le_refl _) (Nat.le_refl _) ⟨rfl, Or.inr ⟨fun h => h.2.2.2 h4, rfl⟩⟩
  have e4 : (nI Cl ≤ b0) = False := eq_false h4
  refine pm_v_ok (cx_X X X_M) 14 _ _ _ _ (by simp -implicitDefEqProofs only [pv_0, pv_s, pd_iconst, pd_bipush, pd_sipush, pd_lconst_0, pd_lconst_1, pd_ldc, pd_ldc2, pd_iload_0, pd_iload_1, pd_iload_2, pd_iload_3, pd_iload, pd_lload_0, pd_lload_1, pd_lload_2, pd_lload_3, pd_lload, pd_aload_0, pd_aload_1, pd_aload_2, pd_aload_3, pd_aload, pd_istore_0, pd_istore_1, pd_istore_2, pd_istore_3, pd_istore, pd_lstore_0, pd_lstore_1, pd_lstore_2, pd_lstore_3, pd_lstore, pd_astore_0, pd_astore_1, pd_astore_2, pd_astore_3, pd_astore, pd_iinc, pd_iadd, pd_isub, pd_imul, pd_iand, pd_ior, pd_ixor, pd_ishl, pd_ishr, pd_iushr, pd_idiv, pd_irem, pd_ineg, pd_ladd, pd_lsub, pd_lmul, pd_land, pd_lor, pd_lxor, pd_lshl, pd_lushr, pd_lcmp, pd_i2l, pd_l2i, pd_dup_int, pd_pop_int, pd_dup_ref, pd_pop_ref, pd_dup_x1_ir, pd_dup_x1_ii, pd_dup2_ir, pd_dup2_ii, pd_goto, pd_if_eq, pd_if_ne, pd_if_lt, pd_if_ge, pd_if_gt, pd_if_le, pd_icmp_eq, pd_icmp_ne, pd_icmp_lt, pd_icmp_ge, pd_icmp_gt, pd_icmp_le, pd_iaload, pd_baload, pd_laload, pd_aaload, pd_iastore, pd_bastore, pd_lastore, pd_alen, pd_getfield, pd_putfield, ph_las, ph_len0, ph_len1, ph_len2, ph_gf, ph_pfi, ph_pfl, ph_pfz0, ph_pfz1, ph_nz0, ph_nz1, pm_cm1, pm_c0, pm_c1, pm_c2, pm_c3, pm_c4, pm_c5, pm_b6, pm_b7, pm_b8, pm_b9, pm_b10, pm_b11, pm_b12, pm_b14, pm_b15, pm_b16, pm_b20, pm_b24, pm_b25, pm_b28, pm_b31, pm_b32, pm_b48, pm_b56, pm_b60, pm_b63, pm_b64, pm_b67, pm_b68, pm_b89, pm_b90, pm_b95, pm_b100, pm_b120, pm_b127, pm_h128, pm_h150, pm_h168, pm_h255, pm_h256, pm_h360, pm_h369, pm_h450, pm_h4096, pm_h8192, pm_h32767, pm_h4643, pm_h13363, pm_h20579, pm_h25843, pm_h29227, pm_h31145, pm_h32103, pm_h32525, pm_h32689, pm_h32745, pm_h32762, pm_h32766, pm_o, pm_ldi, pm_ldl, pm_lda, pm_sti, pm_stl, pm_sta, pm_lk, pm_f1, pm_f2, Value.category, lv_args, Option.bind_some, Option.map_some, if_true, if_false, ite_true, ite_false, Nat.reduceAdd, Nat.reduceSub, Nat.reduceMul, Nat.reduceDiv, Nat.reduceMod, Nat.reduceLT, Nat.reduceLeDiff, Nat.reduceEqDiff, reduceIte, reduceCtorEq, Int.reduceNatCast, Int.reduceNatCast', Int.reduceAdd, Int.reduceLE, Int.reduceLT, Int.reduceToNat, Int.reduceNeg, Int.reduceSub, Nat.add_sub_cancel_left, va_up_g, Int.ofNat_eq_natCast, List.getElem?_cons_zero, List.getElem?_cons_succ, List.set_cons_zero, List.set_cons_succ, List.length_cons, List.length_nil, Nat.zero_add, va_rf, nI_add, pk_mul, Int.toNat_natCast, pm_ix_nI, Option.toList_none, Option.toList_some, List.nil_append, List.cons_append, pq_ial, pq_lal, pq_aal0, pq_aal1, pq_ias, F_M, K_M, d_M_has_0, d_M_has_1, d_M_has_4, d_M_has_5, d_M_has_6, d_M_has_9, d_M_has_12, d_M_has_13, d_M_has_16, d_M_has_17, d_M_has_18, d_M_has_21, d_M_has_24, d_M_has_25, a0, e1, e2, e3, e4]; exact rfl) ?_
  exact mr_z X hr hk d_M_has_29 z1 (Nat.le_refl _) (Nat.le_refl _) ⟨rfl, Or.inl ⟨⟨h1, h2, h3, h4⟩, rfl⟩⟩
def cn_ (y : Int32) : Nat → Nat
  | 0 => 0
  | k + 1 => if y / nI 2 ≤ sb_ k then cn_ y k else cn_ y k + 1
def sm_ (y : Int32) : Int32 := if jv_rem y (nI 2) = 0 then nI (cn_ y 12) else -nI (cn_ y 12)
set_option maxHeartbeats 4000000 in
theorem lp_sampleOf {n : Nat} (X : cx_ p s m args c c_M_sampleOf 3 R_M D tc sz tk) (he : pm_G p l e (rm_ 0) s m args below meth c Q D cl_ sz 3 hz n 0 0 (w) 32 [(2, .int (nI 12)), (1, .int (nI (cn_ y 12))), (0, .int y)] []) : ∀ i j : Nat, j + i = 12 → pm_G p l e (rm_ 0) s m args below meth c Q D cl_ sz 3 hz n 0 0 (w) 4 [(2, .int (nI j)), (1, .int (nI (cn_ y j))), (0, .int y)] [] := by
  have hSt := X.2.2.2
  intro i
  induction i with
  | zero =>
    intro j hj
    obtain rfl : j = 12 := by omega
    have h1 : (nI 12 ≤ nI 12) = True := eq_true (nI_le (Nat.le_refl _) (by decide))
    refine pm_v_ok (cx_X X X_M) 1 _ _ _ _ (by simp -implicitDefEqProofs only [pv_0, pv_s, pd_iconst, pd_bipush, pd_sipush, pd_lconst_0, pd_lconst_1, pd_ldc, pd_ldc2, pd_iload_0, pd_iload_1, pd_iload_2, pd_iload_3, pd_iload, pd_lload_0, pd_lload_1, pd_lload_2, pd_lload_3, pd_lload, pd_aload_0, pd_aload_1, pd_aload_2, pd_aload_3, pd_aload, pd_istore_0, pd_istore_1, pd_istore_2, pd_istore_3, pd_istore, pd_lstore_0, pd_lstore_1, pd_lstore_2, pd_lstore_3, pd_lstore, pd_astore_0, pd_astore_1, pd_astore_2, pd_astore_3, pd_astore, pd_iinc, pd_iadd, pd_isub, pd_imul, pd_iand, pd_ior, pd_ixor, pd_ishl, pd_ishr, pd_iushr, pd_idiv, pd_irem, pd_ineg, pd_ladd, pd_lsub, pd_lmul, pd_land, pd_lor, pd_lxor, pd_lshl, pd_lushr, pd_lcmp, pd_i2l, pd_l2i, pd_dup_int, pd_pop_int, pd_dup_ref, pd_pop_ref, pd_dup_x1_ir, pd_dup_x1_ii, pd_dup2_ir, pd_dup2_ii, pd_goto, pd_if_eq, pd_if_ne, pd_if_lt, pd_if_ge, pd_if_gt, pd_if_le, pd_icmp_eq, pd_icmp_ne, pd_icmp_lt, pd_icmp_ge, pd_icmp_gt, pd_icmp_le, pd_iaload, pd_baload, pd_laload, pd_aaload, pd_iastore, pd_bastore, pd_lastore, pd_alen, pd_getfield, pd_putfield, ph_las, ph_len0, ph_len1, ph_len2, ph_gf, ph_pfi, ph_pfl, ph_pfz0, ph_pfz1, ph_nz0, ph_nz1, pm_cm1, pm_c0, pm_c1, pm_c2, pm_c3, pm_c4, pm_c5, pm_b6, pm_b7, pm_b8, pm_b9, pm_b10, pm_b11, pm_b12, pm_b14, pm_b15, pm_b16, pm_b20, pm_b24, pm_b25, pm_b28, pm_b31, pm_b32, pm_b48, pm_b56, pm_b60, pm_b63, pm_b64, pm_b67, pm_b68, pm_b89, pm_b90, pm_b95, pm_b100, pm_b120, pm_b127, pm_h128, pm_h150, pm_h168, pm_h255, pm_h256, pm_h360, pm_h369, pm_h450, pm_h4096, pm_h8192, pm_h32767, pm_h4643, pm_h13363, pm_h20579, pm_h25843, pm_h29227, pm_h31145, pm_h32103, pm_h32525, pm_h32689, pm_h32745, pm_h32762, pm_h32766, pm_o, pm_ldi, pm_ldl, pm_lda, pm_sti, pm_stl, pm_sta, pm_lk, pm_f1, pm_f2, Value.category, lv_args, Option.bind_some, Option.map_some, if_true, if_false, ite_true, ite_false, Nat.reduceAdd, Nat.reduceSub, Nat.reduceMul, Nat.reduceDiv, Nat.reduceMod, Nat.reduceLT, Nat.reduceLeDiff, Nat.reduceEqDiff, reduceIte, reduceCtorEq, Int.reduceNatCast, Int.reduceNatCast', Int.reduceAdd, Int.reduceLE, Int.reduceLT, Int.reduceToNat, Int.reduceNeg, Int.reduceSub, pm_at_add, Nat.add_sub_cancel_left, va_up_g, Int.ofNat_eq_natCast, List.getElem?_cons_zero, List.getElem?_cons_succ, List.set_cons_zero, List.set_cons_succ, List.length_cons, List.length_nil, Nat.zero_add, va_rf, nI_add, pk_mul, Int.toNat_natCast, pm_ix_nI, Option.toList_none, Option.toList_some, List.nil_append, List.cons_append, pq_ial, pq_lal, pq_aal0, pq_aal1, pq_ias, F_M, K_M, d_M_sampleOf_4]; exact rfl) ?_
    refine mm_gN X hSt.2.1.1 (host := "LatticeWraps") (List.mem_of_getElem? (i := 19) (by decide +kernel)) d_M_sampleOf_5 ?_
    refine mm_tlen X hSt.2.1.2 d_M_sampleOf_8 ?_
    refine pm_v_ok (cx_X X X_M) 1 _ _ _ _ (by simp -implicitDefEqProofs only [pv_0, pv_s, pd_iconst, pd_bipush, pd_sipush, pd_lconst_0, pd_lconst_1, pd_ldc, pd_ldc2, pd_iload_0, pd_iload_1, pd_iload_2, pd_iload_3, pd_iload, pd_lload_0, pd_lload_1, pd_lload_2, pd_lload_3, pd_lload, pd_aload_0, pd_aload_1, pd_aload_2, pd_aload_3, pd_aload, pd_istore_0, pd_istore_1, pd_istore_2, pd_istore_3, pd_istore, pd_lstore_0, pd_lstore_1, pd_lstore_2, pd_lstore_3, pd_lstore, pd_astore_0, pd_astore_1, pd_astore_2, pd_astore_3, pd_astore, pd_iinc, pd_iadd, pd_isub, pd_imul, pd_iand, pd_ior, pd_ixor, pd_ishl, pd_ishr, pd_iushr, pd_idiv, pd_irem, pd_ineg, pd_ladd, pd_lsub, pd_lmul, pd_land, pd_lor, pd_lxor, pd_lshl, pd_lushr, pd_lcmp, pd_i2l, pd_l2i, pd_dup_int, pd_pop_int, pd_dup_ref, pd_pop_ref, pd_dup_x1_ir, pd_dup_x1_ii, pd_dup2_ir, pd_dup2_ii, pd_goto, pd_if_eq, pd_if_ne, pd_if_lt, pd_if_ge, pd_if_gt, pd_if_le, pd_icmp_eq, pd_icmp_ne, pd_icmp_lt, pd_icmp_ge, pd_icmp_gt, pd_icmp_le, pd_iaload, pd_baload, pd_laload, pd_aaload, pd_iastore, pd_bastore, pd_lastore, pd_alen, pd_getfield, pd_putfield, ph_las, ph_len0, ph_len1, ph_len2, ph_gf, ph_pfi, ph_pfl, ph_pfz0, ph_pfz1, ph_nz0, ph_nz1, pm_cm1, pm_c0, pm_c1, pm_c2, pm_c3, pm_c4, pm_c5, pm_b6, pm_b7, pm_b8, pm_b9, pm_b10, pm_b11, pm_b12, pm_b14, pm_b15, pm_b16, pm_b20, pm_b24, pm_b25, pm_b28, pm_b31, pm_b32, pm_b48, pm_b56, pm_b60, pm_b63, pm_b64, pm_b67, pm_b68, pm_b89, pm_b90, pm_b95, pm_b100, pm_b120, pm_b127, pm_h128, pm_h150, pm_h168, pm_h255, pm_h256, pm_h360, pm_h369, pm_h450, pm_h4096, pm_h8192, pm_h32767, pm_h4643, pm_h13363, pm_h20579, pm_h25843, pm_h29227, pm_h31145, pm_h32103, pm_h32525, pm_h32689, pm_h32745, pm_h32762, pm_h32766, pm_o, pm_ldi, pm_ldl, pm_lda, pm_sti, pm_stl, pm_sta, pm_lk, pm_f1, pm_f2, Value.category, lv_args, Option.bind_some, Option.map_some, if_true, if_false, ite_true, ite_false, Nat.reduceAdd, Nat.reduceSub, Nat.reduceMul, Nat.reduceDiv, Nat.reduceMod, Nat.reduceLT, Nat.reduceLeDiff, Nat.reduceEqDiff, reduceIte, reduceCtorEq, Int.reduceNatCast, Int.reduceNatCast', Int.reduceAdd, Int.reduceLE, Int.reduceLT, Int.reduceToNat, Int.reduceNeg, Int.reduceSub, pm_at_add, Nat.add_sub_cancel_left, va_up_g, Int.ofNat_eq_natCast, List.getElem?_cons_zero, List.getElem?_cons_succ, List.set_cons_zero, List.set_cons_succ, List.length_cons, List.length_nil, Nat.zero_add, va_rf, nI_add, pk_mul, Int.toNat_natCast, pm_ix_nI, Option.toList_none, Option.toList_some, List.nil_append, List.cons_append, pq_ial, pq_lal, pq_aal0, pq_aal1, pq_ias, F_M, K_M, d_M_sampleOf_9, h1]; exact rfl) ?_
    exact he
  | succ i ih =>
    intro j hj
    have h1 : (nI 12 ≤ nI j) = False := eq_false (nI_ge (by omega) (by decide))
    refine pm_v_ok (cx_X X X_M) 1 _ _ _ _ (by simp -implicitDefEqProofs only [pv_0, pv_s, pd_iconst, pd_bipush, pd_sipush, pd_lconst_0, pd_lconst_1, pd_ldc, pd_ldc2, pd_iload_0, pd_iload_1, pd_iload_2, pd_iload_3, pd_iload, pd_lload_0, pd_lload_1, pd_lload_2, pd_lload_3, pd_lload, pd_aload_0, pd_aload_1, pd_aload_2, pd_aload_3, pd_aload, pd_istore_0, pd_istore_1, pd_istore_2, pd_istore_3, pd_istore, pd_lstore_0, pd_lstore_1, pd_lstore_2, pd_lstore_3, pd_lstore, pd_astore_0, pd_astore_1, pd_astore_2, pd_astore_3, pd_astore, pd_iinc, pd_iadd, pd_isub, pd_imul, pd_iand, pd_ior, pd_ixor, pd_ishl, pd_ishr, pd_iushr, pd_idiv, pd_irem, pd_ineg, pd_ladd, pd_lsub, pd_lmul, pd_land, pd_lor, pd_lxor, pd_lshl, pd_lushr, pd_lcmp, pd_i2l, pd_l2i, pd_dup_int, pd_pop_int, pd_dup_ref, pd_pop_ref, pd_dup_x1_ir, pd_dup_x1_ii, pd_dup2_ir, pd_dup2_ii, pd_goto, pd_if_eq, pd_if_ne, pd_if_lt, pd_if_ge, pd_if_gt, pd_if_le, pd_icmp_eq, pd_icmp_ne, pd_icmp_lt, pd_icmp_ge, pd_icmp_gt, pd_icmp_le, pd_iaload, pd_baload, pd_laload, pd_aaload, pd_iastore, pd_bastore, pd_lastore, pd_alen, pd_getfield, pd_putfield, ph_las, ph_len0, ph_len1, ph_len2, ph_gf, ph_pfi, ph_pfl, ph_pfz0, ph_pfz1, ph_nz0, ph_nz1, pm_cm1, pm_c0, pm_c1, pm_c2, pm_c3, pm_c4, pm_c5, pm_b6, pm_b7, pm_b8, pm_b9, pm_b10, pm_b11, pm_b12, pm_b14, pm_b15, pm_b16, pm_b20, pm_b24, pm_b25, pm_b28, pm_b31, pm_b32, pm_b48, pm_b56, pm_b60, pm_b63, pm_b64, pm_b67, pm_b68, pm_b89, pm_b90, pm_b95, pm_b100, pm_b120, pm_b127, pm_h128, pm_h150, pm_h168, pm_h255, pm_h256, pm_h360, pm_h369, pm_h450, pm_h4096, pm_h8192, pm_h32767, pm_h4643, pm_h13363, pm_h20579, pm_h25843, pm_h29227, pm_h31145, pm_h32103, pm_h32525, pm_h32689, pm_h32745, pm_h32762, pm_h32766, pm_o, pm_ldi, pm_ldl, pm_lda, pm_sti, pm_stl, pm_sta, pm_lk, pm_f1, pm_f2, Value.category, lv_args, Option.bind_some, Option.map_some, if_true, if_false, ite_true, ite_false, Nat.reduceAdd, Nat.reduceSub, Nat.reduceMul, Nat.reduceDiv, Nat.reduceMod, Nat.reduceLT, Nat.reduceLeDiff, Nat.reduceEqDiff, reduceIte, reduceCtorEq, Int.reduceNatCast, Int.reduceNatCast', Int.reduceAdd, Int.reduceLE, Int.reduceLT, Int.reduceToNat, Int.reduceNeg, Int.reduceSub, pm_at_add, Nat.add_sub_cancel_left, va_up_g, Int.ofNat_eq_natCast, List.getElem?_cons_zero, List.getElem?_cons_succ, List.set_cons_zero, List.set_cons_succ, List.length_cons, List.length_nil, Nat.zero_add, va_rf, nI_add, pk_mul, Int.toNat_natCast, pm_ix_nI, Option.toList_none, Option.toList_some, List.nil_append, List.cons_append, pq_ial, pq_lal, pq_aal0, pq_aal1, pq_ias, F_M, K_M, d_M_sampleOf_4]; exact rfl) ?_
    refine mm_gN X hSt.2.1.1 (host := "LatticeWraps") (List.mem_of_getElem? (i := 19) (by decide +kernel)) d_M_sampleOf_5 ?_
    refine mm_tlen X hSt.2.1.2 d_M_sampleOf_8 ?_
    refine pm_v_ok (cx_X X X_M) 1 _ _ _ _ (by simp -implicitDefEqProofs only [pv_0, pv_s, pd_iconst, pd_bipush, pd_sipush, pd_lconst_0, pd_lconst_1, pd_ldc, pd_ldc2, pd_iload_0, pd_iload_1, pd_iload_2, pd_iload_3, pd_iload, pd_lload_0, pd_lload_1, pd_lload_2, pd_lload_3, pd_lload, pd_aload_0, pd_aload_1, pd_aload_2, pd_aload_3, pd_aload, pd_istore_0, pd_istore_1, pd_istore_2, pd_istore_3, pd_istore, pd_lstore_0, pd_lstore_1, pd_lstore_2, pd_lstore_3, pd_lstore, pd_astore_0, pd_astore_1, pd_astore_2, pd_astore_3, pd_astore, pd_iinc, pd_iadd, pd_isub, pd_imul, pd_iand, pd_ior, pd_ixor, pd_ishl, pd_ishr, pd_iushr, pd_idiv, pd_irem, pd_ineg, pd_ladd, pd_lsub, pd_lmul, pd_land, pd_lor, pd_lxor, pd_lshl, pd_lushr, pd_lcmp, pd_i2l, pd_l2i, pd_dup_int, pd_pop_int, pd_dup_ref, pd_pop_ref, pd_dup_x1_ir, pd_dup_x1_ii, pd_dup2_ir, pd_dup2_ii, pd_goto, pd_if_eq, pd_if_ne, pd_if_lt, pd_if_ge, pd_if_gt, pd_if_le, pd_icmp_eq, pd_icmp_ne, pd_icmp_lt, pd_icmp_ge, pd_icmp_gt, pd_icmp_le, pd_iaload, pd_baload, pd_laload, pd_aaload, pd_iastore, pd_bastore, pd_lastore, pd_alen, pd_getfield, pd_putfield, ph_las, ph_len0, ph_len1, ph_len2, ph_gf, ph_pfi, ph_pfl, ph_pfz0, ph_pfz1, ph_nz0, ph_nz1, pm_cm1, pm_c0, pm_c1, pm_c2, pm_c3, pm_c4, pm_c5, pm_b6, pm_b7, pm_b8, pm_b9, pm_b10, pm_b11, pm_b12, pm_b14, pm_b15, pm_b16, pm_b20, pm_b24, pm_b25, pm_b28, pm_b31, pm_b32, pm_b48, pm_b56, pm_b60, pm_b63, pm_b64, pm_b67, pm_b68, pm_b89, pm_b90, pm_b95, pm_b100, pm_b120, pm_b127, pm_h128, pm_h150, pm_h168, pm_h255, pm_h256, pm_h360, pm_h369, pm_h450, pm_h4096, pm_h8192, pm_h32767, pm_h4643, pm_h13363, pm_h20579, pm_h25843, pm_h29227, pm_h31145, pm_h32103, pm_h32525, pm_h32689, pm_h32745, pm_h32762, pm_h32766, pm_o, pm_ldi, pm_ldl, pm_lda, pm_sti, pm_stl, pm_sta, pm_lk, pm_f1, pm_f2, Value.category, lv_args, Option.bind_some, Option.map_some, if_true, if_false, ite_true, ite_false, Nat.reduceAdd, Nat.reduceSub, Nat.reduceMul, Nat.reduceDiv, Nat.reduceMod, Nat.reduceLT, Nat.reduceLeDiff, Nat.reduceEqDiff, reduceIte, reduceCtorEq, Int.reduceNatCast, Int.reduceNatCast', Int.reduceAdd, Int.reduceLE, Int.reduceLT, Int.reduceToNat, Int.reduceNeg, Int.reduceSub, pm_at_add, Nat.add_sub_cancel_left, va_up_g, Int.ofNat_eq_natCast, List.getElem?_cons_zero, List.getElem?_cons_succ, List.set_cons_zero, List.set_cons_succ, List.length_cons, List.length_nil, Nat.zero_add, va_rf, nI_add, pk_mul, Int.toNat_natCast, pm_ix_nI, Option.toList_none, Option.toList_some, List.nil_append, List.cons_append, pq_ial, pq_lal, pq_aal0, pq_aal1, pq_ias, F_M, K_M, d_M_sampleOf_9, h1]; exact rfl) ?_
    refine mm_gN X hSt.2.1.1 (host := "LatticeWraps") (List.mem_of_getElem? (i := 19) (by decide +kernel)) d_M_sampleOf_12 ?_
    refine pm_v_ok (cx_X X X_M) 1 _ _ _ _ (by simp -implicitDefEqProofs only [pv_0, pv_s, pd_iconst, pd_bipush, pd_sipush, pd_lconst_0, pd_lconst_1, pd_ldc, pd_ldc2, pd_iload_0, pd_iload_1, pd_iload_2, pd_iload_3, pd_iload, pd_lload_0, pd_lload_1, pd_lload_2, pd_lload_3, pd_lload, pd_aload_0, pd_aload_1, pd_aload_2, pd_aload_3, pd_aload, pd_istore_0, pd_istore_1, pd_istore_2, pd_istore_3, pd_istore, pd_lstore_0, pd_lstore_1, pd_lstore_2, pd_lstore_3, pd_lstore, pd_astore_0, pd_astore_1, pd_astore_2, pd_astore_3, pd_astore, pd_iinc, pd_iadd, pd_isub, pd_imul, pd_iand, pd_ior, pd_ixor, pd_ishl, pd_ishr, pd_iushr, pd_idiv, pd_irem, pd_ineg, pd_ladd, pd_lsub, pd_lmul, pd_land, pd_lor, pd_lxor, pd_lshl, pd_lushr, pd_lcmp, pd_i2l, pd_l2i, pd_dup_int, pd_pop_int, pd_dup_ref, pd_pop_ref, pd_dup_x1_ir, pd_dup_x1_ii, pd_dup2_ir, pd_dup2_ii, pd_goto, pd_if_eq, pd_if_ne, pd_if_lt, pd_if_ge, pd_if_gt, pd_if_le, pd_icmp_eq, pd_icmp_ne, pd_icmp_lt, pd_icmp_ge, pd_icmp_gt, pd_icmp_le, pd_iaload, pd_baload, pd_laload, pd_aaload, pd_iastore, pd_bastore, pd_lastore, pd_alen, pd_getfield, pd_putfield, ph_las, ph_len0, ph_len1, ph_len2, ph_gf, ph_pfi, ph_pfl, ph_pfz0, ph_pfz1, ph_nz0, ph_nz1, pm_cm1, pm_c0, pm_c1, pm_c2, pm_c3, pm_c4, pm_c5, pm_b6, pm_b7, pm_b8, pm_b9, pm_b10, pm_b11, pm_b12, pm_b14, pm_b15, pm_b16, pm_b20, pm_b24, pm_b25, pm_b28, pm_b31, pm_b32, pm_b48, pm_b56, pm_b60, pm_b63, pm_b64, pm_b67, pm_b68, pm_b89, pm_b90, pm_b95, pm_b100, pm_b120, pm_b127, pm_h128, pm_h150, pm_h168, pm_h255, pm_h256, pm_h360, pm_h369, pm_h450, pm_h4096, pm_h8192, pm_h32767, pm_h4643, pm_h13363, pm_h20579, pm_h25843, pm_h29227, pm_h31145, pm_h32103, pm_h32525, pm_h32689, pm_h32745, pm_h32762, pm_h32766, pm_o, pm_ldi, pm_ldl, pm_lda, pm_sti, pm_stl, pm_sta, pm_lk, pm_f1, pm_f2, Value.category, lv_args, Option.bind_some, Option.map_some, if_true, if_false, ite_true, ite_false, Nat.reduceAdd, Nat.reduceSub, Nat.reduceMul, Nat.reduceDiv, Nat.reduceMod, Nat.reduceLT, Nat.reduceLeDiff, Nat.reduceEqDiff, reduceIte, reduceCtorEq, Int.reduceNatCast, Int.reduceNatCast', Int.reduceAdd, Int.reduceLE, Int.reduceLT, Int.reduceToNat, Int.reduceNeg, Int.reduceSub, pm_at_add, Nat.add_sub_cancel_left, va_up_g, Int.ofNat_eq_natCast, List.getElem?_cons_zero, List.getElem?_cons_succ, List.set_cons_zero, List.set_cons_succ, List.length_cons, List.length_nil, Nat.zero_add, va_rf, nI_add, pk_mul, Int.toNat_natCast, pm_ix_nI, Option.toList_none, Option.toList_some, List.nil_append, List.cons_append, pq_ial, pq_lal, pq_aal0, pq_aal1, pq_ias, F_M, K_M, d_M_sampleOf_15]; exact rfl) ?_
    refine mm_ti X hSt.2.1.2 (by omega) (by decide) rfl d_M_sampleOf_16 ?_
    by_cases hc : y / nI 2 ≤ sb_ j
    · have e1 : (y / nI 2 ≤ sb_ j) = True := eq_true hc
      have e2 : cn_ y (j + 1) = cn_ y j := if_pos hc
      refine pm_v_ok (cx_X X X_M) 6 _ _ _ _ (by simp -implicitDefEqProofs only [pv_0, pv_s, pd_iconst, pd_bipush, pd_sipush, pd_lconst_0, pd_lconst_1, pd_ldc, pd_ldc2, pd_iload_0, pd_iload_1, pd_iload_2, pd_iload_3, pd_iload, pd_lload_0, pd_lload_1, pd_lload_2, pd_lload_3, pd_lload, pd_aload_0, pd_aload_1, pd_aload_2, pd_aload_3, pd_aload, pd_istore_0, pd_istore_1, pd_istore_2, pd_istore_3, pd_istore, pd_lstore_0, pd_lstore_1, pd_lstore_2, pd_lstore_3, pd_lstore, pd_astore_0, pd_astore_1, pd_astore_2, pd_astore_3, pd_astore, pd_iinc, pd_iadd, pd_isub, pd_imul, pd_iand, pd_ior, pd_ixor, pd_ishl, pd_ishr, pd_iushr, pd_idiv, pd_irem, pd_ineg, pd_ladd, pd_lsub, pd_lmul, pd_land, pd_lor, pd_lxor, pd_lshl, pd_lushr, pd_lcmp, pd_i2l, pd_l2i, pd_dup_int, pd_pop_int, pd_dup_ref, pd_pop_ref, pd_dup_x1_ir, pd_dup_x1_ii, pd_dup2_ir, pd_dup2_ii, pd_goto, pd_if_eq, pd_if_ne, pd_if_lt, pd_if_ge, pd_if_gt, pd_if_le, pd_icmp_eq, pd_icmp_ne, pd_icmp_lt, pd_icmp_ge, pd_icmp_gt, pd_icmp_le, pd_iaload, pd_baload, pd_laload, pd_aaload, pd_iastore, pd_bastore, pd_lastore, pd_alen, pd_getfield, pd_putfield, ph_las, ph_len0, ph_len1, ph_len2, ph_gf, ph_pfi, ph_pfl, ph_pfz0, ph_pfz1, ph_nz0, ph_nz1, pm_cm1, pm_c0, pm_c1, pm_c2, pm_c3, pm_c4, pm_c5, pm_b6, pm_b7, pm_b8, pm_b9, pm_b10, pm_b11, pm_b12, pm_b14, pm_b15, pm_b16, pm_b20, pm_b24, pm_b25, pm_b28, pm_b31, pm_b32, pm_b48, pm_b56, pm_b60, pm_b63, pm_b64, pm_b67, pm_b68, pm_b89, pm_b90, pm_b95, pm_b100, pm_b120, pm_b127, pm_h128, pm_h150, pm_h168, pm_h255, pm_h256, pm_h360, pm_h369, pm_h450, pm_h4096, pm_h8192, pm_h32767, pm_h4643, pm_h13363, pm_h20579, pm_h25843, pm_h29227, pm_h31145, pm_h32103, pm_h32525, pm_h32689, pm_h32745, pm_h32762, pm_h32766, pm_o, pm_ldi, pm_ldl, pm_lda, pm_sti, pm_stl, pm_sta, pm_lk, pm_f1, pm_f2, Value.category, lv_args, Option.bind_some, Option.map_some, if_true, if_false, ite_true, ite_false, Nat.reduceAdd, Nat.reduceSub, Nat.reduceMul, Nat.reduceDiv, Nat.reduceMod, Nat.reduceLT, Nat.reduceLeDiff, Nat.reduceEqDiff, reduceIte, reduceCtorEq, Int.reduceNatCast, Int.reduceNatCast', Int.reduceAdd, Int.reduceLE, Int.reduceLT, Int.reduceToNat, Int.reduceNeg, Int.reduceSub, pm_at_add, Nat.add_sub_cancel_left, va_up_g, Int.ofNat_eq_natCast, List.getElem?_cons_zero, List.getElem?_cons_succ, List.set_cons_zero, List.set_cons_succ, List.length_cons, List.length_nil, Nat.zero_add, va_rf, nI_add, pk_mul, Int.toNat_natCast, pm_ix_nI, Option.toList_none, Option.toList_some, List.nil_append, List.cons_append, pq_ial, pq_lal, pq_aal0, pq_aal1, pq_ias, F_M, K_M, d_M_sampleOf_17, d_M_sampleOf_18, d_M_sampleOf_19, d_M_sampleOf_20, d_M_sampleOf_26, d_M_sampleOf_29, e1, nz_2]; exact rfl) ?_
      exact pm_G.sub (by simp [e2]) (ih (j + 1) (by omega))
    · have e1 : (y / nI 2 ≤ sb_ j) = False := eq_false hc
      have e2 : cn_ y (j + 1) = cn_ y j + 1 := if_neg hc
      refine pm_v_ok (cx_X X X_M) 7 _ _ _ _ (by simp -implicitDefEqProofs only [pv_0, pv_s, pd_iconst, pd_bipush, pd_sipush, pd_lconst_0, pd_lconst_1, pd_ldc, pd_ldc2, pd_iload_0, pd_iload_1, pd_iload_2, pd_iload_3, pd_iload, pd_lload_0, pd_lload_1, pd_lload_2, pd_lload_3, pd_lload, pd_aload_0, pd_aload_1, pd_aload_2, pd_aload_3, pd_aload, pd_istore_0, pd_istore_1, pd_istore_2, pd_istore_3, pd_istore, pd_lstore_0, pd_lstore_1, pd_lstore_2, pd_lstore_3, pd_lstore, pd_astore_0, pd_astore_1, pd_astore_2, pd_astore_3, pd_astore, pd_iinc, pd_iadd, pd_isub, pd_imul, pd_iand, pd_ior, pd_ixor, pd_ishl, pd_ishr, pd_iushr, pd_idiv, pd_irem, pd_ineg, pd_ladd, pd_lsub, pd_lmul, pd_land, pd_lor, pd_lxor, pd_lshl, pd_lushr, pd_lcmp, pd_i2l, pd_l2i, pd_dup_int, pd_pop_int, pd_dup_ref, pd_pop_ref, pd_dup_x1_ir, pd_dup_x1_ii, pd_dup2_ir, pd_dup2_ii, pd_goto, pd_if_eq, pd_if_ne, pd_if_lt, pd_if_ge, pd_if_gt, pd_if_le, pd_icmp_eq, pd_icmp_ne, pd_icmp_lt, pd_icmp_ge, pd_icmp_gt, pd_icmp_le, pd_iaload, pd_baload, pd_laload, pd_aaload, pd_iastore, pd_bastore, pd_lastore, pd_alen, pd_getfield, pd_putfield, ph_las, ph_len0, ph_len1, ph_len2, ph_gf, ph_pfi, ph_pfl, ph_pfz0, ph_pfz1, ph_nz0, ph_nz1, pm_cm1, pm_c0, pm_c1, pm_c2, pm_c3, pm_c4, pm_c5, pm_b6, pm_b7, pm_b8, pm_b9, pm_b10, pm_b11, pm_b12, pm_b14, pm_b15, pm_b16, pm_b20, pm_b24, pm_b25, pm_b28, pm_b31, pm_b32, pm_b48, pm_b56, pm_b60, pm_b63, pm_b64, pm_b67, pm_b68, pm_b89, pm_b90, pm_b95, pm_b100, pm_b120, pm_b127, pm_h128, pm_h150, pm_h168, pm_h255, pm_h256, pm_h360, pm_h369, pm_h450, pm_h4096, pm_h8192, pm_h32767, pm_h4643, pm_h13363, pm_h20579, pm_h25843, pm_h29227, pm_h31145, pm_h32103, pm_h32525, pm_h32689, pm_h32745, pm_h32762, pm_h32766, pm_o, pm_ldi, pm_ldl, pm_lda, pm_sti, pm_stl, pm_sta, pm_lk, pm_f1, pm_f2, Value.category, lv_args, Option.bind_some, Option.map_some, if_true, if_false, ite_true, ite_false, Nat.reduceAdd, Nat.reduceSub, Nat.reduceMul, Nat.reduceDiv, Nat.reduceMod, Nat.reduceLT, Nat.reduceLeDiff, Nat.reduceEqDiff, reduceIte, reduceCtorEq, Int.reduceNatCast, Int.reduceNatCast', Int.reduceAdd, Int.reduceLE, Int.reduceLT, Int.reduceToNat, Int.reduceNeg, Int.reduceSub, pm_at_add, Nat.add_sub_cancel_left, va_up_g, Int.ofNat_eq_natCast, List.getElem?_cons_zero, List.getElem?_cons_succ, List.set_cons_zero, List.set_cons_succ, List.length_cons, List.length_nil, Nat.zero_add, va_rf, nI_add, pk_mul, Int.toNat_natCast, pm_ix_nI, Option.toList_none, Option.toList_some, List.nil_append, List.cons_append, pq_ial, pq_lal, pq_aal0, pq_aal1, pq_ias, F_M, K_M, d_M_sampleOf_17, d_M_sampleOf_18, d_M_sampleOf_19, d_M_sampleOf_20, d_M_sampleOf_23, d_M_sampleOf_26, d_M_sampleOf_29, e1, nz_2]; exact rfl) ?_
      exact pm_G.sub (by simp [e2]) (ih (j + 1) (by omega))
set_option maxHeartbeats 4000000 in
theorem m_M_sampleOf {n : Nat} : mm_ l y_M_sampleOf c_M_sampleOf 3 (some .int) (rm_ 0) D tc sz tk [.int y] hz n (w) hz n (fun v w1 => v = some (.int (sm_ y)) ∧ w1 = w) := by
  refine mm_of (by decide) (Nat.le_of_ble_eq_true rfl) ?_
  intro p e s m args below meth c X hr hk hnm
  refine pm_v_ok (cx_X X X_M) 4 _ _ _ _ (by simp -implicitDefEqProofs only [pv_0, pv_s, pd_iconst, pd_bipush, pd_sipush, pd_lconst_0, pd_lconst_1, pd_ldc, pd_ldc2, pd_iload_0, pd_iload_1, pd_iload_2, pd_iload_3, pd_iload, pd_lload_0, pd_lload_1, pd_lload_2, pd_lload_3, pd_lload, pd_aload_0, pd_aload_1, pd_aload_2, pd_aload_3, pd_aload, pd_istore_0, pd_istore_1, pd_istore_2, pd_istore_3, pd_istore, pd_lstore_0, pd_lstore_1, pd_lstore_2, pd_lstore_3, pd_lstore, pd_astore_0, pd_astore_1, pd_astore_2, pd_astore_3, pd_astore, pd_iinc, pd_iadd, pd_isub, pd_imul, pd_iand, pd_ior, pd_ixor, pd_ishl, pd_ishr, pd_iushr, pd_idiv, pd_irem, pd_ineg, pd_ladd, pd_lsub, pd_lmul, pd_land, pd_lor, pd_lxor, pd_lshl, pd_lushr, pd_lcmp, pd_i2l, pd_l2i, pd_dup_int, pd_pop_int, pd_dup_ref, pd_pop_ref, pd_dup_x1_ir, pd_dup_x1_ii, pd_dup2_ir, pd_dup2_ii, pd_goto, pd_if_eq, pd_if_ne, pd_if_lt, pd_if_ge, pd_if_gt, pd_if_le, pd_icmp_eq, pd_icmp_ne, pd_icmp_lt, pd_icmp_ge, pd_icmp_gt, pd_icmp_le, pd_iaload, pd_baload, pd_laload, pd_aaload, pd_iastore, pd_bastore, pd_lastore, pd_alen, pd_getfield, pd_putfield, ph_las, ph_len0, ph_len1, ph_len2, ph_gf, ph_pfi, ph_pfl, ph_pfz0, ph_pfz1, ph_nz0, ph_nz1, pm_cm1, pm_c0, pm_c1, pm_c2, pm_c3, pm_c4, pm_c5, pm_b6, pm_b7, pm_b8, pm_b9, pm_b10, pm_b11, pm_b12, pm_b14, pm_b15, pm_b16, pm_b20, pm_b24, pm_b25, pm_b28, pm_b31, pm_b32, pm_b48, pm_b56, pm_b60, pm_b63, pm_b64, pm_b67, pm_b68, pm_b89, pm_b90, pm_b95, pm_b100, pm_b120, pm_b127, pm_h128, pm_h150, pm_h168, pm_h255, pm_h256, pm_h360, pm_h369, pm_h450, pm_h4096, pm_h8192, pm_h32767, pm_h4643, pm_h13363, pm_h20579, pm_h25843, pm_h29227, pm_h31145, pm_h32103, pm_h32525, pm_h32689, pm_h32745, pm_h32762, pm_h32766, pm_o, pm_ldi, pm_ldl, pm_lda, pm_sti, pm_stl, pm_sta, pm_lk, pm_f1, pm_f2, Value.category, lv_args, Option.bind_some, Option.map_some, if_true, if_false, ite_true, ite_false, Nat.reduceAdd, Nat.reduceSub, Nat.reduceMul, Nat.reduceDiv, Nat.reduceMod, Nat.reduceLT, Nat.reduceLeDiff, Nat.reduceEqDiff, reduceIte, reduceCtorEq, Int.reduceNatCast, Int.reduceNatCast', Int.reduceAdd, Int.reduceLE, Int.reduceLT, Int.reduceToNat, Int.reduceNeg, Int.reduceSub, pm_at_add, Nat.add_sub_cancel_left, va_up_g, Int.ofNat_eq_natCast, List.getElem?_cons_zero, List.getElem?_cons_succ, List.set_cons_zero, List.set_cons_succ, List.length_cons, List.length_nil, Nat.zero_add, va_rf, nI_add, pk_mul, Int.toNat_natCast, pm_ix_nI, Option.toList_none, Option.toList_some, List.nil_append, List.cons_append, pq_ial, pq_lal, pq_aal0, pq_aal1, pq_ias, F_M, K_M, d_M_sampleOf_0, d_M_sampleOf_1, d_M_sampleOf_2, d_M_sampleOf_3]; exact rfl) ?_
  refine pm_G.sub (by simp [cn_]) (lp_sampleOf (y := y) (w := w) X ?_ 12 0 rfl)
  by_cases hc : jv_rem y (nI 2) = 0
  · have e1 : (jv_rem y (nI 2) = 0) = True := eq_true hc
    refine pm_v_ok (cx_X X X_M) 6 _ _ _ _ (by simp -implicitDefEqProofs only [pv_0, pv_s, pd_iconst, pd_bipush, pd_sipush, pd_lconst_0, pd_lconst_1, pd_ldc, pd_ldc2, pd_iload_0, pd_iload_1, pd_iload_2, pd_iload_3, pd_iload, pd_lload_0, pd_lload_1, pd_lload_2, pd_lload_3, pd_lload, pd_aload_0, pd_aload_1, pd_aload_2, pd_aload_3, pd_aload, pd_istore_0, pd_istore_1, pd_istore_2, pd_istore_3, pd_istore, pd_lstore_0, pd_lstore_1, pd_lstore_2, pd_lstore_3, pd_lstore, pd_astore_0, pd_astore_1, pd_astore_2, pd_astore_3, pd_astore, pd_iinc, pd_iadd, pd_isub, pd_imul, pd_iand, pd_ior, pd_ixor, pd_ishl, pd_ishr, pd_iushr, pd_idiv, pd_irem, pd_ineg, pd_ladd, pd_lsub, pd_lmul, pd_land, pd_lor, pd_lxor, pd_lshl, pd_lushr, pd_lcmp, pd_i2l, pd_l2i, pd_dup_int, pd_pop_int, pd_dup_ref, pd_pop_ref, pd_dup_x1_ir, pd_dup_x1_ii, pd_dup2_ir, pd_dup2_ii, pd_goto, pd_if_eq, pd_if_ne, pd_if_lt, pd_if_ge, pd_if_gt, pd_if_le, pd_icmp_eq, pd_icmp_ne, pd_icmp_lt, pd_icmp_ge, pd_icmp_gt, pd_icmp_le, pd_iaload, pd_baload, pd_laload, pd_aaload, pd_iastore, pd_bastore, pd_lastore, pd_alen, pd_getfield, pd_putfield, ph_las, ph_len0, ph_len1, ph_len2, ph_gf, ph_pfi, ph_pfl, ph_pfz0, ph_pfz1, ph_nz0, ph_nz1, pm_cm1, pm_c0, pm_c1, pm_c2, pm_c3, pm_c4, pm_c5, pm_b6, pm_b7, pm_b8, pm_b9, pm_b10, pm_b11, pm_b12, pm_b14, pm_b15, pm_b16, pm_b20, pm_b24, pm_b25, pm_b28, pm_b31, pm_b32, pm_b48, pm_b56, pm_b60, pm_b63, pm_b64, pm_b67, pm_b68, pm_b89, pm_b90, pm_b95, pm_b100, pm_b120, pm_b127, pm_h128, pm_h150, pm_h168, pm_h255, pm_h256, pm_h360, pm_h369, pm_h450, pm_h4096, pm_h8192, pm_h32767, pm_h4643, pm_h13363, pm_h20579, pm_h25843, pm_h29227, pm_h31145, pm_h32103, pm_h32525, pm_h32689, pm_h32745, pm_h32762, pm_h32766, pm_o, pm_ldi, pm_ldl, pm_lda, pm_sti, pm_stl, pm_sta, pm_lk, pm_f1, pm_f2, Value.category, lv_args, Option.bind_some, Option.map_some, if_true, if_false, ite_true, ite_false, Nat.reduceAdd, Nat.reduceSub, Nat.reduceMul, Nat.reduceDiv, Nat.reduceMod, Nat.reduceLT, Nat.reduceLeDiff, Nat.reduceEqDiff, reduceIte, reduceCtorEq, Int.reduceNatCast, Int.reduceNatCast', Int.reduceAdd, Int.reduceLE, Int.reduceLT, Int.reduceToNat, Int.reduceNeg, Int.reduceSub, pm_at_add, Nat.add_sub_cancel_left, va_up_g, Int.ofNat_eq_natCast, List.getElem?_cons_zero, List.getElem?_cons_succ, List.set_cons_zero, List.set_cons_succ, List.length_cons, List.length_nil, Nat.zero_add, va_rf, nI_add, pk_mul, Int.toNat_natCast, pm_ix_nI, Option.toList_none, Option.toList_some, List.nil_append, List.cons_append, pq_ial, pq_lal, pq_aal0, pq_aal1, pq_ias, F_M, K_M, d_M_sampleOf_32, d_M_sampleOf_33, d_M_sampleOf_34, d_M_sampleOf_35, d_M_sampleOf_38, d_M_sampleOf_39, e1, nz_2, not_true_eq_false]; exact rfl) ?_
    exact mr_i X hr hk d_M_sampleOf_44 (Nat.le_refl _) (Nat.le_refl _) ⟨by rw [sm_, if_pos hc], rfl⟩
  · have e1 : (jv_rem y (nI 2) = 0) = False := eq_false hc
    refine pm_v_ok (cx_X X X_M) 6 _ _ _ _ (by simp -implicitDefEqProofs only [pv_0, pv_s, pd_iconst, pd_bipush, pd_sipush, pd_lconst_0, pd_lconst_1, pd_ldc, pd_ldc2, pd_iload_0, pd_iload_1, pd_iload_2, pd_iload_3, pd_iload, pd_lload_0, pd_lload_1, pd_lload_2, pd_lload_3, pd_lload, pd_aload_0, pd_aload_1, pd_aload_2, pd_aload_3, pd_aload, pd_istore_0, pd_istore_1, pd_istore_2, pd_istore_3, pd_istore, pd_lstore_0, pd_lstore_1, pd_lstore_2, pd_lstore_3, pd_lstore, pd_astore_0, pd_astore_1, pd_astore_2, pd_astore_3, pd_astore, pd_iinc, pd_iadd, pd_isub, pd_imul, pd_iand, pd_ior, pd_ixor, pd_ishl, pd_ishr, pd_iushr, pd_idiv, pd_irem, pd_ineg, pd_ladd, pd_lsub, pd_lmul, pd_land, pd_lor, pd_lxor, pd_lshl, pd_lushr, pd_lcmp, pd_i2l, pd_l2i, pd_dup_int, pd_pop_int, pd_dup_ref, pd_pop_ref, pd_dup_x1_ir, pd_dup_x1_ii, pd_dup2_ir, pd_dup2_ii, pd_goto, pd_if_eq, pd_if_ne, pd_if_lt, pd_if_ge, pd_if_gt, pd_if_le, pd_icmp_eq, pd_icmp_ne, pd_icmp_lt, pd_icmp_ge, pd_icmp_gt, pd_icmp_le, pd_iaload, pd_baload, pd_laload, pd_aaload, pd_iastore, pd_bastore, pd_lastore, pd_alen, pd_getfield, pd_putfield, ph_las, ph_len0, ph_len1, ph_len2, ph_gf, ph_pfi, ph_pfl, ph_pfz0, ph_pfz1, ph_nz0, ph_nz1, pm_cm1, pm_c0, pm_c1, pm_c2, pm_c3, pm_c4, pm_c5, pm_b6, pm_b7, pm_b8, pm_b9, pm_b10, pm_b11, pm_b12, pm_b14, pm_b15, pm_b16, pm_b20, pm_b24, pm_b25, pm_b28, pm_b31, pm_b32, pm_b48, pm_b56, pm_b60, pm_b63, pm_b64, pm_b67, pm_b68, pm_b89, pm_b90, pm_b95, pm_b100, pm_b120, pm_b127, pm_h128, pm_h150, pm_h168, pm_h255, pm_h256, pm_h360, pm_h369, pm_h450, pm_h4096, pm_h8192, pm_h32767, pm_h4643, pm_h13363, pm_h20579, pm_h25843, pm_h29227, pm_h31145, pm_h32103, pm_h32525, pm_h32689, pm_h32745, pm_h32762, pm_h32766, pm_o, pm_ldi, pm_ldl, pm_lda, pm_sti, pm_stl, pm_sta, pm_lk, pm_f1, pm_f2, Value.category, lv_args, Option.bind_some, Option.map_some, if_true, if_false, ite_true, ite_false, Nat.reduceAdd, Nat.reduceSub, Nat.reduceMul, Nat.reduceDiv, Nat.reduceMod, Nat.reduceLT, Nat.reduceLeDiff, Nat.reduceEqDiff, reduceIte, reduceCtorEq, Int.reduceNatCast, Int.reduceNatCast', Int.reduceAdd, Int.reduceLE, Int.reduceLT, Int.reduceToNat, Int.reduceNeg, Int.reduceSub, pm_at_add, Nat.add_sub_cancel_left, va_up_g, Int.ofNat_eq_natCast, List.getElem?_cons_zero, List.getElem?_cons_succ, List.set_cons_zero, List.set_cons_succ, List.length_cons, List.length_nil, Nat.zero_add, va_rf, nI_add, pk_mul, Int.toNat_natCast, pm_ix_nI, Option.toList_none, Option.toList_some, List.nil_append, List.cons_append, pq_ial, pq_lal, pq_aal0, pq_aal1, pq_ias, F_M, K_M, d_M_sampleOf_32, d_M_sampleOf_33, d_M_sampleOf_34, d_M_sampleOf_35, d_M_sampleOf_42, d_M_sampleOf_43, e1, nz_2, not_false_eq_true]; exact rfl) ?_
    exact mr_i X hr hk d_M_sampleOf_44 (Nat.le_refl _) (Nat.le_refl _) ⟨by rw [sm_, if_neg hc], rfl⟩
def ts_ (f : Nat → Int64) (a : Nat) (r : Nat → Int32) (k : Nat) : Nat → Int32 := fun j => if j < k then sm_ (pr_ f (a + j)) &&& nI 32767 else r j
theorem ts_0 : ts_ f a r 0 = r := by
  funext j
  simp [ts_]
theorem ts_s : upd (ts_ f a r k) k (sm_ (pr_ f (a + k)) &&& nI 32767) = ts_ f a r (k + 1) := by
  funext j
  by_cases hj : j = k
  · subst hj
    simp [upd, ts_]
  · by_cases h2 : j < k
    · simp [upd, ts_, hj, h2, Nat.lt_succ_of_lt h2]
    · have h3 : ¬ j < k + 1 := by omega
      simp [upd, ts_, hj, h2, h3]
set_option maxHeartbeats 4000000 in
theorem lp_takeSamples (h8 : 8 ≤ q) (hq : q + 1 < 91) (hw : w q = mo_ sz q Rw Cl) (hN : Rw * Cl = N) (hl : a + N ≤ 100) (X : cx_ p s m args c c_M_takeSamples 4 R_M D tc sz tk) (he : pm_G p l e (rm_ 1) s m args below meth c Q D cl_ sz 4 hz 91 0 0 (sk_ tc sz (va_up w (q + 1) (ma_ tc N (ts_ f a r N))) f g h len) 37 [(3, .int (nI N)), (0, .ref (sz + q)), (1, .ref (sz + 4)), (2, .int (nI a))] []) : ∀ i j : Nat, j + i = N → pm_G p l e (rm_ 1) s m args below meth c Q D cl_ sz 4 hz 91 0 0 (sk_ tc sz (va_up w (q + 1) (ma_ tc N (ts_ f a r j))) f g h len) 2 [(3, .int (nI j)), (0, .ref (sz + q)), (1, .ref (sz + 4)), (2, .int (nI a))] [] := by
  intro i
  induction i with
  | zero =>
    intro j hj
    obtain rfl : j = N := by omega
    have h1 : (nI j ≤ nI j) = True := eq_true (nI_le (Nat.le_refl _) (by omega))
    have a0 : pm_at sz 91 (sk_ tc sz (va_up w (q + 1) (ma_ tc j (ts_ f a r j))) f g h len) (sz + q) = some (.inr (2, [.int (nI Rw), .int (nI Cl), .ref (sz + (q + 1))])) := by
      rw [pm_at_add (by omega), sk_o (by omega) (by omega) (by omega) (by omega), va_up_g, if_neg (by omega), hw]
      rfl
    have a1 : pm_at sz 91 (sk_ tc sz (va_up w (q + 1) (ma_ tc j (ts_ f a r j))) f g h len) (sz + (q + 1)) = some (.inl (tc 0, j, .inl (ts_ f a r j))) := by
      rw [pm_at_add hq, sk_o (by omega) (by omega) (by omega) (by omega), va_up_g, if_pos rfl]
      rfl
    refine pm_v_ok (cx_X X X_M) 5 _ _ _ _ (by simp -implicitDefEqProofs only [pv_0, pv_s, pd_iconst, pd_bipush, pd_sipush, pd_lconst_0, pd_lconst_1, pd_ldc, pd_ldc2, pd_iload_0, pd_iload_1, pd_iload_2, pd_iload_3, pd_iload, pd_lload_0, pd_lload_1, pd_lload_2, pd_lload_3, pd_lload, pd_aload_0, pd_aload_1, pd_aload_2, pd_aload_3, pd_aload, pd_istore_0, pd_istore_1, pd_istore_2, pd_istore_3, pd_istore, pd_lstore_0, pd_lstore_1, pd_lstore_2, pd_lstore_3, pd_lstore, pd_astore_0, pd_astore_1, pd_astore_2, pd_astore_3, pd_astore, pd_iinc, pd_iadd, pd_isub, pd_imul, pd_iand, pd_ior, pd_ixor, pd_ishl, pd_ishr, pd_iushr, pd_idiv, pd_irem, pd_ineg, pd_ladd, pd_lsub, pd_lmul, pd_land, pd_lor, pd_lxor, pd_lshl, pd_lushr, pd_lcmp, pd_i2l, pd_l2i, pd_dup_int, pd_pop_int, pd_dup_ref, pd_pop_ref, pd_dup_x1_ir, pd_dup_x1_ii, pd_dup2_ir, pd_dup2_ii, pd_goto, pd_if_eq, pd_if_ne, pd_if_lt, pd_if_ge, pd_if_gt, pd_if_le, pd_icmp_eq, pd_icmp_ne, pd_icmp_lt, pd_icmp_ge, pd_icmp_gt, pd_icmp_le, pd_iaload, pd_baload, pd_laload, pd_aaload, pd_iastore, pd_bastore, pd_lastore, pd_alen, pd_getfield, pd_putfield, ph_las, ph_len0, ph_len1, ph_len2, ph_gf, ph_pfi, ph_pfl, ph_pfz0, ph_pfz1, ph_nz0, ph_nz1, pm_cm1, pm_c0, pm_c1, pm_c2, pm_c3, pm_c4, pm_c5, pm_b6, pm_b7, pm_b8, pm_b9, pm_b10, pm_b11, pm_b12, pm_b14, pm_b15, pm_b16, pm_b20, pm_b24, pm_b25, pm_b28, pm_b31, pm_b32, pm_b48, pm_b56, pm_b60, pm_b63, pm_b64, pm_b67, pm_b68, pm_b89, pm_b90, pm_b95, pm_b100, pm_b120, pm_b127, pm_h128, pm_h150, pm_h168, pm_h255, pm_h256, pm_h360, pm_h369, pm_h450, pm_h4096, pm_h8192, pm_h32767, pm_h4643, pm_h13363, pm_h20579, pm_h25843, pm_h29227, pm_h31145, pm_h32103, pm_h32525, pm_h32689, pm_h32745, pm_h32762, pm_h32766, pm_o, pm_ldi, pm_ldl, pm_lda, pm_sti, pm_stl, pm_sta, pm_lk, pm_f1, pm_f2, Value.category, lv_args, Option.bind_some, Option.map_some, if_true, if_false, ite_true, ite_false, Nat.reduceAdd, Nat.reduceSub, Nat.reduceMul, Nat.reduceDiv, Nat.reduceMod, Nat.reduceLT, Nat.reduceLeDiff, Nat.reduceEqDiff, reduceIte, reduceCtorEq, Int.reduceNatCast, Int.reduceNatCast', Int.reduceAdd, Int.reduceLE, Int.reduceLT, Int.reduceToNat, Int.reduceNeg, Int.reduceSub, Nat.add_sub_cancel_left, va_up_g, Int.ofNat_eq_natCast, List.getElem?_cons_zero, List.getElem?_cons_succ, List.set_cons_zero, List.set_cons_succ, List.length_cons, List.length_nil, Nat.zero_add, va_rf, nI_add, pk_mul, Int.toNat_natCast, pm_ix_nI, Option.toList_none, Option.toList_some, List.nil_append, List.cons_append, pq_ial, pq_lal, pq_aal0, pq_aal1, pq_ias, F_M, K_M, d_M_takeSamples_2, d_M_takeSamples_3, d_M_takeSamples_4, d_M_takeSamples_7, d_M_takeSamples_8, h1, a0, a1]; exact rfl) ?_
    exact he
  | succ i ih =>
    intro j hj
    have h1 : (nI N ≤ nI j) = False := eq_false (nI_ge (by omega) (by omega))
    have e1 : pm_ix (nI j) N = some j := pm_ix_nI (by omega) (by omega)
    have a0 : pm_at sz 91 (sk_ tc sz (va_up w (q + 1) (ma_ tc N (ts_ f a r j))) f g h len) (sz + q) = some (.inr (2, [.int (nI Rw), .int (nI Cl), .ref (sz + (q + 1))])) := by
      rw [pm_at_add (by omega), sk_o (by omega) (by omega) (by omega) (by omega), va_up_g, if_neg (by omega), hw]
      rfl
    have a1 : pm_at sz 91 (sk_ tc sz (va_up w (q + 1) (ma_ tc N (ts_ f a r j))) f g h len) (sz + (q + 1)) = some (.inl (tc 0, N, .inl (ts_ f a r j))) := by
      rw [pm_at_add hq, sk_o (by omega) (by omega) (by omega) (by omega), va_up_g, if_pos rfl]
      rfl
    refine pm_v_ok (cx_X X X_M) 12 _ _ _ _ (by simp -implicitDefEqProofs only [pv_0, pv_s, pd_iconst, pd_bipush, pd_sipush, pd_lconst_0, pd_lconst_1, pd_ldc, pd_ldc2, pd_iload_0, pd_iload_1, pd_iload_2, pd_iload_3, pd_iload, pd_lload_0, pd_lload_1, pd_lload_2, pd_lload_3, pd_lload, pd_aload_0, pd_aload_1, pd_aload_2, pd_aload_3, pd_aload, pd_istore_0, pd_istore_1, pd_istore_2, pd_istore_3, pd_istore, pd_lstore_0, pd_lstore_1, pd_lstore_2, pd_lstore_3, pd_lstore, pd_astore_0, pd_astore_1, pd_astore_2, pd_astore_3, pd_astore, pd_iinc, pd_iadd, pd_isub, pd_imul, pd_iand, pd_ior, pd_ixor, pd_ishl, pd_ishr, pd_iushr, pd_idiv, pd_irem, pd_ineg, pd_ladd, pd_lsub, pd_lmul, pd_land, pd_lor, pd_lxor, pd_lshl, pd_lushr, pd_lcmp, pd_i2l, pd_l2i, pd_dup_int, pd_pop_int, pd_dup_ref, pd_pop_ref, pd_dup_x1_ir, pd_dup_x1_ii, pd_dup2_ir, pd_dup2_ii, pd_goto, pd_if_eq, pd_if_ne, pd_if_lt, pd_if_ge, pd_if_gt, pd_if_le, pd_icmp_eq, pd_icmp_ne, pd_icmp_lt, pd_icmp_ge, pd_icmp_gt, pd_icmp_le, pd_iaload, pd_baload, pd_laload, pd_aaload, pd_iastore, pd_bastore, pd_lastore, pd_alen, pd_getfield, pd_putfield, ph_las, ph_len0, ph_len1, ph_len2, ph_gf, ph_pfi, ph_pfl, ph_pfz0, ph_pfz1, ph_nz0, ph_nz1, pm_cm1, pm_c0, pm_c1, pm_c2, pm_c3, pm_c4, pm_c5, pm_b6, pm_b7, pm_b8, pm_b9, pm_b10, pm_b11, pm_b12, pm_b14, pm_b15, pm_b16, pm_b20, pm_b24, pm_b25, pm_b28, pm_b31, pm_b32, pm_b48, pm_b56, pm_b60, pm_b63, pm_b64, pm_b67, pm_b68, pm_b89, pm_b90, pm_b95, pm_b100, pm_b120, pm_b127, pm_h128, pm_h150, pm_h168, pm_h255, pm_h256, pm_h360, pm_h369, pm_h450, pm_h4096, pm_h8192, pm_h32767, pm_h4643, pm_h13363, pm_h20579, pm_h25843, pm_h29227, pm_h31145, pm_h32103, pm_h32525, pm_h32689, pm_h32745, pm_h32762, pm_h32766, pm_o, pm_ldi, pm_ldl, pm_lda, pm_sti, pm_stl, pm_sta, pm_lk, pm_f1, pm_f2, Value.category, lv_args, Option.bind_some, Option.map_some, if_true, if_false, ite_true, ite_false, Nat.reduceAdd, Nat.reduceSub, Nat.reduceMul, Nat.reduceDiv, Nat.reduceMod, Nat.reduceLT, Nat.reduceLeDiff, Nat.reduceEqDiff, reduceIte, reduceCtorEq, Int.reduceNatCast, Int.reduceNatCast', Int.reduceAdd, Int.reduceLE, Int.reduceLT, Int.reduceToNat, Int.reduceNeg, Int.reduceSub, Nat.add_sub_cancel_left, va_up_g, Int.ofNat_eq_natCast, List.getElem?_cons_zero, List.getElem?_cons_succ, List.set_cons_zero, List.set_cons_succ, List.length_cons, List.length_nil, Nat.zero_add, va_rf, nI_add, pk_mul, Int.toNat_natCast, pm_ix_nI, Option.toList_none, Option.toList_some, List.nil_append, List.cons_append, pq_ial, pq_lal, pq_aal0, pq_aal1, pq_ias, F_M, K_M, d_M_takeSamples_2, d_M_takeSamples_3, d_M_takeSamples_4, d_M_takeSamples_7, d_M_takeSamples_8, d_M_takeSamples_11, d_M_takeSamples_12, d_M_takeSamples_15, d_M_takeSamples_16, d_M_takeSamples_17, d_M_takeSamples_18, d_M_takeSamples_19, h1, a0, a1]; exact rfl) ?_
    refine mm_V X (m_S_pairAt (j := a + j) (by omega)) b_S_pairAt l_M_22 (by decide) sk_4 rfl rfl rfl (Nat.le_of_ble_eq_true rfl) d_M_takeSamples_20 (by decide) (by decide) (fun v w1 hq => ?_)
    obtain ⟨rfl, rfl⟩ := hq
    refine pm_G.st rfl ?_
    refine mm_S X (m_M_sampleOf (y := pr_ f (a + j))) b_M_sampleOf l_M_28 rfl rfl (Nat.le_of_ble_eq_true rfl) d_M_takeSamples_23 (by decide) (by decide) (fun v w1 hq => ?_)
    obtain ⟨rfl, rfl⟩ := hq
    have e2 : va_up (sk_ tc sz (va_up w (q + 1) (ma_ tc N (ts_ f a r j))) f g h len) (sz + (q + 1) - sz) (.inl (tc 0, N, .inl (upd (ts_ f a r j) j (sm_ (pr_ f (a + j)) &&& nI 32767)))) = sk_ tc sz (va_up w (q + 1) (ma_ tc N (ts_ f a r (j + 1)))) f g h len := by
      rw [Nat.add_sub_cancel_left, sk_up (by omega) (by omega) (by omega) (by omega), ts_s, va_up_2]
      rfl
    refine pm_v_ok (cx_X X X_M) 5 _ _ _ _ (by simp -implicitDefEqProofs only [pv_0, pv_s, pd_iconst, pd_bipush, pd_sipush, pd_lconst_0, pd_lconst_1, pd_ldc, pd_ldc2, pd_iload_0, pd_iload_1, pd_iload_2, pd_iload_3, pd_iload, pd_lload_0, pd_lload_1, pd_lload_2, pd_lload_3, pd_lload, pd_aload_0, pd_aload_1, pd_aload_2, pd_aload_3, pd_aload, pd_istore_0, pd_istore_1, pd_istore_2, pd_istore_3, pd_istore, pd_lstore_0, pd_lstore_1, pd_lstore_2, pd_lstore_3, pd_lstore, pd_astore_0, pd_astore_1, pd_astore_2, pd_astore_3, pd_astore, pd_iinc, pd_iadd, pd_isub, pd_imul, pd_iand, pd_ior, pd_ixor, pd_ishl, pd_ishr, pd_iushr, pd_idiv, pd_irem, pd_ineg, pd_ladd, pd_lsub, pd_lmul, pd_land, pd_lor, pd_lxor, pd_lshl, pd_lushr, pd_lcmp, pd_i2l, pd_l2i, pd_dup_int, pd_pop_int, pd_dup_ref, pd_pop_ref, pd_dup_x1_ir, pd_dup_x1_ii, pd_dup2_ir, pd_dup2_ii, pd_goto, pd_if_eq, pd_if_ne, pd_if_lt, pd_if_ge, pd_if_gt, pd_if_le, pd_icmp_eq, pd_icmp_ne, pd_icmp_lt, pd_icmp_ge, pd_icmp_gt, pd_icmp_le, pd_iaload, pd_baload, pd_laload, pd_aaload, pd_iastore, pd_bastore, pd_lastore, pd_alen, pd_getfield, pd_putfield, ph_las, ph_len0, ph_len1, ph_len2, ph_gf, ph_pfi, ph_pfl, ph_pfz0, ph_pfz1, ph_nz0, ph_nz1, pm_cm1, pm_c0, pm_c1, pm_c2, pm_c3, pm_c4, pm_c5, pm_b6, pm_b7, pm_b8, pm_b9, pm_b10, pm_b11, pm_b12, pm_b14, pm_b15, pm_b16, pm_b20, pm_b24, pm_b25, pm_b28, pm_b31, pm_b32, pm_b48, pm_b56, pm_b60, pm_b63, pm_b64, pm_b67, pm_b68, pm_b89, pm_b90, pm_b95, pm_b100, pm_b120, pm_b127, pm_h128, pm_h150, pm_h168, pm_h255, pm_h256, pm_h360, pm_h369, pm_h450, pm_h4096, pm_h8192, pm_h32767, pm_h4643, pm_h13363, pm_h20579, pm_h25843, pm_h29227, pm_h31145, pm_h32103, pm_h32525, pm_h32689, pm_h32745, pm_h32762, pm_h32766, pm_o, pm_ldi, pm_ldl, pm_lda, pm_sti, pm_stl, pm_sta, pm_lk, pm_f1, pm_f2, Value.category, lv_args, Option.bind_some, Option.map_some, if_true, if_false, ite_true, ite_false, Nat.reduceAdd, Nat.reduceSub, Nat.reduceMul, Nat.reduceDiv, Nat.reduceMod, Nat.reduceLT, Nat.reduceLeDiff, Nat.reduceEqDiff, reduceIte, reduceCtorEq, Int.reduceNatCast, Int.reduceNatCast', Int.reduceAdd, Int.reduceLE, Int.reduceLT, Int.reduceToNat, Int.reduceNeg, Int.reduceSub, va_up_g, Int.ofNat_eq_natCast, List.getElem?_cons_zero, List.getElem?_cons_succ, List.set_cons_zero, List.set_cons_succ, List.length_cons, List.length_nil, Nat.zero_add, va_rf, nI_add, pk_mul, Int.toNat_natCast, pm_ix_nI, Option.toList_none, Option.toList_some, List.nil_append, List.cons_append, pq_ial, pq_lal, pq_aal0, pq_aal1, pq_ias, F_M, K_M, d_M_takeSamples_26, d_M_takeSamples_29, d_M_takeSamples_30, d_M_takeSamples_31, d_M_takeSamples_34, a0, a1, e1, e2]; exact rfl) ?_
    exact ih (j + 1) (by omega)
set_option maxHeartbeats 4000000 in
theorem m_M_takeSamples (h8 : 8 ≤ q) (hm : mt_ tc sz w q Rw Cl r) (hN : Rw * Cl = N) (hl : a + N ≤ 100) : mm_ l y_M_takeSamples c_M_takeSamples 4 none (rm_ 1) D tc sz tk [.ref (sz + q), .ref (sz + 4), .int (nI a)] hz 91 (sk_ tc sz w f g h len) hz 91 (fun v w1 => v = none ∧ w1 = sk_ tc sz (va_up w (q + 1) (ma_ tc N (ts_ f a r N))) f g h len) := by
  refine mm_of (by decide) (Nat.le_of_ble_eq_true rfl) ?_
  intro p e s m args below meth c X hr hk hnm
  obtain ⟨hq, hw, hw1⟩ := hm
  refine pm_v_ok (cx_X X X_M) 2 _ _ _ _ (by simp -implicitDefEqProofs only [pv_0, pv_s, pd_iconst, pd_bipush, pd_sipush, pd_lconst_0, pd_lconst_1, pd_ldc, pd_ldc2, pd_iload_0, pd_iload_1, pd_iload_2, pd_iload_3, pd_iload, pd_lload_0, pd_lload_1, pd_lload_2, pd_lload_3, pd_lload, pd_aload_0, pd_aload_1, pd_aload_2, pd_aload_3, pd_aload, pd_istore_0, pd_istore_1, pd_istore_2, pd_istore_3, pd_istore, pd_lstore_0, pd_lstore_1, pd_lstore_2, pd_lstore_3, pd_lstore, pd_astore_0, pd_astore_1, pd_astore_2, pd_astore_3, pd_astore, pd_iinc, pd_iadd, pd_isub, pd_imul, pd_iand, pd_ior, pd_ixor, pd_ishl, pd_ishr, pd_iushr, pd_idiv, pd_irem, pd_ineg, pd_ladd, pd_lsub, pd_lmul, pd_land, pd_lor, pd_lxor, pd_lshl, pd_lushr, pd_lcmp, pd_i2l, pd_l2i, pd_dup_int, pd_pop_int, pd_dup_ref, pd_pop_ref, pd_dup_x1_ir, pd_dup_x1_ii, pd_dup2_ir, pd_dup2_ii, pd_goto, pd_if_eq, pd_if_ne, pd_if_lt, pd_if_ge, pd_if_gt, pd_if_le, pd_icmp_eq, pd_icmp_ne, pd_icmp_lt, pd_icmp_ge, pd_icmp_gt, pd_icmp_le, pd_iaload, pd_baload, pd_laload, pd_aaload, pd_iastore, pd_bastore, pd_lastore, pd_alen, pd_getfield, pd_putfield, ph_las, ph_len0, ph_len1, ph_len2, ph_gf, ph_pfi, ph_pfl, ph_pfz0, ph_pfz1, ph_nz0, ph_nz1, pm_cm1, pm_c0, pm_c1, pm_c2, pm_c3, pm_c4, pm_c5, pm_b6, pm_b7, pm_b8, pm_b9, pm_b10, pm_b11, pm_b12, pm_b14, pm_b15, pm_b16, pm_b20, pm_b24, pm_b25, pm_b28, pm_b31, pm_b32, pm_b48, pm_b56, pm_b60, pm_b63, pm_b64, pm_b67, pm_b68, pm_b89, pm_b90, pm_b95, pm_b100, pm_b120, pm_b127, pm_h128, pm_h150, pm_h168, pm_h255, pm_h256, pm_h360, pm_h369, pm_h450, pm_h4096, pm_h8192, pm_h32767, pm_h4643, pm_h13363, pm_h20579, pm_h25843, pm_h29227, pm_h31145, pm_h32103, pm_h32525, pm_h32689, pm_h32745, pm_h32762, pm_h32766, pm_o, pm_ldi, pm_ldl, pm_lda, pm_sti, pm_stl, pm_sta, pm_lk, pm_f1, pm_f2, Value.category, lv_args, Option.bind_some, Option.map_some, if_true, if_false, ite_true, ite_false, Nat.reduceAdd, Nat.reduceSub, Nat.reduceMul, Nat.reduceDiv, Nat.reduceMod, Nat.reduceLT, Nat.reduceLeDiff, Nat.reduceEqDiff, reduceIte, reduceCtorEq, Int.reduceNatCast, Int.reduceNatCast', Int.reduceAdd, Int.reduceLE, Int.reduceLT, Int.reduceToNat, Int.reduceNeg, Int.reduceSub, pm_at_add, Nat.add_sub_cancel_left, va_up_g, Int.ofNat_eq_natCast, List.getElem?_cons_zero, List.getElem?_cons_succ, List.set_cons_zero, List.set_cons_succ, List.length_cons, List.length_nil, Nat.zero_add, va_rf, nI_add, pk_mul, Int.toNat_natCast, pm_ix_nI, Option.toList_none, Option.toList_some, List.nil_append, List.cons_append, pq_ial, pq_lal, pq_aal0, pq_aal1, pq_ias, F_M, K_M, d_M_takeSamples_0, d_M_takeSamples_1]; exact rfl) ?_
  have e0 : w = va_up w (q + 1) (ma_ tc N (ts_ f a r 0)) := by
    funext k
    by_cases hk : k = q + 1
    · subst hk
      rw [va_up_g, if_pos rfl, hw1, ts_0, hN]
    · rw [va_up_g, if_neg hk]
  refine pm_G.wd (w' := sk_ tc sz (va_up w (q + 1) (ma_ tc N (ts_ f a r 0))) f g h len) (by rw [← e0]) (pm_G.sub (by simp) (lp_takeSamples (f := f) (g := g) (h := h) (len := len) (w := w) (r := r) h8 hq hw hN hl X ?_ N 0 (by omega)))
  exact mr_v X hr hk d_M_takeSamples_37 (Nat.le_refl _) (Nat.le_refl _) ⟨rfl, rfl⟩
end M6
end
section
section M7
variable {p : Program} {l : Launch} {e : Env} {R : Room} {s : State} {m : MethodId} {args : Array Value} {below : List Frame} {meth : Method} {c : Code} {Q : State → Prop} {D : va_G} {tc : Nat → ClassId} {sz : Nat} {tk : Nat → Nat} {hz : Option Nat} {w : Nat → va_E}
variable {len N i j k a q q1 q2 q3 Rw Cl Kk : Nat} {r B L M : Nat → Int32} {y : Int32}
theorem ix_lt (hi : i < Rw) (hj : j < Cl) : i * Cl + j < Rw * Cl := by
  have h1 : (i + 1) * Cl ≤ Rw * Cl := Nat.mul_le_mul_right _ hi
  have h2 : (i + 1) * Cl = i * Cl + Cl := Nat.succ_mul _ _
  omega
theorem ix_d (hj : j < Cl) : (i * Cl + j) / Cl = i := by
  rw [Nat.mul_comm, Nat.mul_add_div (by omega), Nat.div_eq_of_lt hj, Nat.add_zero]
theorem ix_m (hj : j < Cl) : (i * Cl + j) % Cl = j := by
  rw [Nat.mul_comm, Nat.mul_add_mod, Nat.mod_eq_of_lt hj]
theorem mt_up {z : va_E} (h : mt_ tc sz w q Rw Cl r) (h1 : q ≠ k) (h2 : q + 1 ≠ k) : mt_ tc sz (va_up w k z) q Rw Cl r := ⟨h.1, by rw [va_up_g, if_neg h1]; exact h.2.1, by rw [va_up_g, if_neg h2]; exact h.2.2⟩
theorem mt_se (hq : q + 1 < 91) (h : w q = mo_ sz q Rw Cl) : mt_ tc sz (va_up w (q + 1) (ma_ tc (Rw * Cl) r)) q Rw Cl r := ⟨hq, by rw [va_up_g, if_neg (by omega)]; exact h, by rw [va_up_g, if_pos rfl]⟩
def sp_ (L M : Nat → Int32) (Kk Cl i j : Nat) : Nat → Int32
  | 0 => nI 0
  | k + 1 => sp_ L M Kk Cl i j k + L (i * Kk + k) * M (k * Cl + j)
def te_ (B L M : Nat → Int32) (y : Int32) (Kk Cl t : Nat) : Int32 := (B t + y * sp_ L M Kk Cl (t / Cl) (t % Cl) Kk) &&& nI 32767
def tm_ (B L M r : Nat → Int32) (y : Int32) (Kk Cl n : Nat) : Nat → Int32 := fun t => if t < n then te_ B L M y Kk Cl t else r t
theorem tm_0 : tm_ B L M r y Kk Cl 0 = r := by
  funext j
  simp [tm_]
theorem tm_s (hj : j < Cl) : upd (tm_ B L M r y Kk Cl (i * Cl + j)) (i * Cl + j) ((B (i * Cl + j) + y * sp_ L M Kk Cl i j Kk) &&& nI 32767) = tm_ B L M r y Kk Cl (i * Cl + (j + 1)) := by
  funext t
  by_cases ht : t = i * Cl + j
  · subst ht
    have h1 : i * Cl + j < i * Cl + (j + 1) := by omega
    rw [tm_, if_pos h1, te_, ix_d hj, ix_m hj]
    simp [upd]
  · by_cases h2 : t < i * Cl + j
    · have h3 : t < i * Cl + (j + 1) := by omega
      simp [upd, tm_, ht, h2, h3]
    · have h3 : ¬ t < i * Cl + (j + 1) := by omega
      simp [upd, tm_, ht, h2, h3]
set_option maxHeartbeats 4000000 in
theorem lk_tsp (hR : Rw ≤ 8) (hC : Cl ≤ 8) (hK : Kk ≤ 8) (hq : q + 1 < 91) (hw : w q = mo_ sz q Rw Cl) (hB : mt_ tc sz w q1 Rw Cl B) (hL : mt_ tc sz w q2 Rw Kk L) (hM : mt_ tc sz w q3 Kk Cl M) (n1 : q1 ≠ q + 1) (n2 : q1 ≠ q) (n3 : q2 ≠ q + 1) (n4 : q2 ≠ q) (n5 : q3 ≠ q + 1) (n6 : q3 ≠ q) (hi : i < Rw) (hj : j < Cl) (X : cx_ p s m args c c_M_takeSumWithProduct 9 R_M D tc sz tk) (he : pm_G p l e (rm_ 1) s m args below meth c Q D cl_ sz 9 hz 91 0 0 (va_up w (q + 1) (ma_ tc (Rw * Cl) (tm_ B L M r y Kk Cl (i * Cl + j)))) 68 [(8, .int (nI Kk)), (7, .int (sp_ L M Kk Cl i j Kk)), (6, .int (nI j)), (5, .int (nI i)), (0, .ref (sz + q)), (1, .ref (sz + q1)), (2, .int y), (3, .ref (sz + q2)), (4, .ref (sz + q3))] []) : ∀ b k : Nat, k + b = Kk → pm_G p l e (rm_ 1) s m args below meth c Q D cl_ sz 9 hz 91 0 0 (va_up w (q + 1) (ma_ tc (Rw * Cl) (tm_ B L M r y Kk Cl (i * Cl + j)))) 30 [(8, .int (nI k)), (7, .int (sp_ L M Kk Cl i j k)), (6, .int (nI j)), (5, .int (nI i)), (0, .ref (sz + q)), (1, .ref (sz + q1)), (2, .int y), (3, .ref (sz + q2)), (4, .ref (sz + q3))] [] := by
  have m2 : mt_ tc sz (va_up w (q + 1) (ma_ tc (Rw * Cl) (tm_ B L M r y Kk Cl (i * Cl + j)))) q2 Rw Kk L := mt_up hL n3 (by omega)
  have m3 : mt_ tc sz (va_up w (q + 1) (ma_ tc (Rw * Cl) (tm_ B L M r y Kk Cl (i * Cl + j)))) q3 Kk Cl M := mt_up hM n5 (by omega)
  have a2 := mt_0 m2
  have b1 : Rw * Kk ≤ 8 * 8 := Nat.mul_le_mul hR hK
  have b2 : Kk * Cl ≤ 8 * 8 := Nat.mul_le_mul hK hC
  intro b
  induction b with
  | zero =>
    intro k hk
    obtain rfl : k = Kk := by omega
    have h1 : (nI k ≤ nI k) = True := eq_true (nI_le (Nat.le_refl _) (by omega))
    refine pm_v_ok (cx_X X X_M) 4 _ _ _ _ (by simp -implicitDefEqProofs only [pv_0, pv_s, pd_iconst, pd_bipush, pd_sipush, pd_lconst_0, pd_lconst_1, pd_ldc, pd_ldc2, pd_iload_0, pd_iload_1, pd_iload_2, pd_iload_3, pd_iload, pd_lload_0, pd_lload_1, pd_lload_2, pd_lload_3, pd_lload, pd_aload_0, pd_aload_1, pd_aload_2, pd_aload_3, pd_aload, pd_istore_0, pd_istore_1, pd_istore_2, pd_istore_3, pd_istore, pd_lstore_0, pd_lstore_1, pd_lstore_2, pd_lstore_3, pd_lstore, pd_astore_0, pd_astore_1, pd_astore_2, pd_astore_3, pd_astore, pd_iinc, pd_iadd, pd_isub, pd_imul, pd_iand, pd_ior, pd_ixor, pd_ishl, pd_ishr, pd_iushr, pd_idiv, pd_irem, pd_ineg, pd_ladd, pd_lsub, pd_lmul, pd_land, pd_lor, pd_lxor, pd_lshl, pd_lushr, pd_lcmp, pd_i2l, pd_l2i, pd_dup_int, pd_pop_int, pd_dup_ref, pd_pop_ref, pd_dup_x1_ir, pd_dup_x1_ii, pd_dup2_ir, pd_dup2_ii, pd_goto, pd_if_eq, pd_if_ne, pd_if_lt, pd_if_ge, pd_if_gt, pd_if_le, pd_icmp_eq, pd_icmp_ne, pd_icmp_lt, pd_icmp_ge, pd_icmp_gt, pd_icmp_le, pd_iaload, pd_baload, pd_laload, pd_aaload, pd_iastore, pd_bastore, pd_lastore, pd_alen, pd_getfield, pd_putfield, ph_las, ph_len0, ph_len1, ph_len2, ph_gf, ph_pfi, ph_pfl, ph_pfz0, ph_pfz1, ph_nz0, ph_nz1, pm_cm1, pm_c0, pm_c1, pm_c2, pm_c3, pm_c4, pm_c5, pm_b6, pm_b7, pm_b8, pm_b9, pm_b10, pm_b11, pm_b12, pm_b14, pm_b15, pm_b16, pm_b20, pm_b24, pm_b25, pm_b28, pm_b31, pm_b32, pm_b48, pm_b56, pm_b60, pm_b63, pm_b64, pm_b67, pm_b68, pm_b89, pm_b90, pm_b95, pm_b100, pm_b120, pm_b127, pm_h128, pm_h150, pm_h168, pm_h255, pm_h256, pm_h360, pm_h369, pm_h450, pm_h4096, pm_h8192, pm_h32767, pm_h4643, pm_h13363, pm_h20579, pm_h25843, pm_h29227, pm_h31145, pm_h32103, pm_h32525, pm_h32689, pm_h32745, pm_h32762, pm_h32766, pm_o, pm_ldi, pm_ldl, pm_lda, pm_sti, pm_stl, pm_sta, pm_lk, pm_f1, pm_f2, Value.category, lv_args, Option.bind_some, Option.map_some, if_true, if_false, ite_true, ite_false, Nat.reduceAdd, Nat.reduceSub, Nat.reduceMul, Nat.reduceDiv, Nat.reduceMod, Nat.reduceLT, Nat.reduceLeDiff, Nat.reduceEqDiff, reduceIte, reduceCtorEq, Int.reduceNatCast, Int.reduceNatCast', Int.reduceAdd, Int.reduceLE, Int.reduceLT, Int.reduceToNat, Int.reduceNeg, Int.reduceSub, Nat.add_sub_cancel_left, va_up_g, Int.ofNat_eq_natCast, List.getElem?_cons_zero, List.getElem?_cons_succ, List.set_cons_zero, List.set_cons_succ, List.length_cons, List.length_nil, Nat.zero_add, va_rf, nI_add, pk_mul, Int.toNat_natCast, pm_ix_nI, Option.toList_none, Option.toList_some, List.nil_append, List.cons_append, pq_ial, pq_lal, pq_aal0, pq_aal1, pq_ias, F_M, K_M, d_M_takeSumWithProduct_30, d_M_takeSumWithProduct_32, d_M_takeSumWithProduct_33, d_M_takeSumWithProduct_36, h1, a2]; exact rfl) ?_
    exact he
  | succ b ih =>
    intro k hk
    have h1 : (nI Kk ≤ nI k) = False := eq_false (nI_ge (by omega) (by omega))
    refine pm_v_ok (cx_X X X_M) 8 _ _ _ _ (by simp -implicitDefEqProofs only [pv_0, pv_s, pd_iconst, pd_bipush, pd_sipush, pd_lconst_0, pd_lconst_1, pd_ldc, pd_ldc2, pd_iload_0, pd_iload_1, pd_iload_2, pd_iload_3, pd_iload, pd_lload_0, pd_lload_1, pd_lload_2, pd_lload_3, pd_lload, pd_aload_0, pd_aload_1, pd_aload_2, pd_aload_3, pd_aload, pd_istore_0, pd_istore_1, pd_istore_2, pd_istore_3, pd_istore, pd_lstore_0, pd_lstore_1, pd_lstore_2, pd_lstore_3, pd_lstore, pd_astore_0, pd_astore_1, pd_astore_2, pd_astore_3, pd_astore, pd_iinc, pd_iadd, pd_isub, pd_imul, pd_iand, pd_ior, pd_ixor, pd_ishl, pd_ishr, pd_iushr, pd_idiv, pd_irem, pd_ineg, pd_ladd, pd_lsub, pd_lmul, pd_land, pd_lor, pd_lxor, pd_lshl, pd_lushr, pd_lcmp, pd_i2l, pd_l2i, pd_dup_int, pd_pop_int, pd_dup_ref, pd_pop_ref, pd_dup_x1_ir, pd_dup_x1_ii, pd_dup2_ir, pd_dup2_ii, pd_goto, pd_if_eq, pd_if_ne, pd_if_lt, pd_if_ge, pd_if_gt, pd_if_le, pd_icmp_eq, pd_icmp_ne, pd_icmp_lt, pd_icmp_ge, pd_icmp_gt, pd_icmp_le, pd_iaload, pd_baload, pd_laload, pd_aaload, pd_iastore, pd_bastore, pd_lastore, pd_alen, pd_getfield, pd_putfield, ph_las, ph_len0, ph_len1, ph_len2, ph_gf, ph_pfi, ph_pfl, ph_pfz0, ph_pfz1, ph_nz0, ph_nz1, pm_cm1, pm_c0, pm_c1, pm_c2, pm_c3, pm_c4, pm_c5, pm_b6, pm_b7, pm_b8, pm_b9, pm_b10, pm_b11, pm_b12, pm_b14, pm_b15, pm_b16, pm_b20, pm_b24, pm_b25, pm_b28, pm_b31, pm_b32, pm_b48, pm_b56, pm_b60, pm_b63, pm_b64, pm_b67, pm_b68, pm_b89, pm_b90, pm_b95, pm_b100, pm_b120, pm_b127, pm_h128, pm_h150, pm_h168, pm_h255, pm_h256, pm_h360, pm_h369, pm_h450, pm_h4096, pm_h8192, pm_h32767, pm_h4643, pm_h13363, pm_h20579, pm_h25843, pm_h29227, pm_h31145, pm_h32103, pm_h32525, pm_h32689, pm_h32745, pm_h32762, pm_h32766, pm_o, pm_ldi, pm_ldl, pm_lda, pm_sti, pm_stl, pm_sta, pm_lk, pm_f1, pm_f2, Value.category, lv_args, Option.bind_some, Option.map_some, if_true, if_false, ite_true, ite_false, Nat.reduceAdd, Nat.reduceSub, Nat.reduceMul, Nat.reduceDiv, Nat.reduceMod, Nat.reduceLT, Nat.reduceLeDiff, Nat.reduceEqDiff, reduceIte, reduceCtorEq, Int.reduceNatCast, Int.reduceNatCast', Int.reduceAdd, Int.reduceLE, Int.reduceLT, Int.reduceToNat, Int.reduceNeg, Int.reduceSub, Nat.add_sub_cancel_left, va_up_g, Int.ofNat_eq_natCast, List.getElem?_cons_zero, List.getElem?_cons_succ, List.set_cons_zero, List.set_cons_succ, List.length_cons, List.length_nil, Nat.zero_add, va_rf, nI_add, pk_mul, Int.toNat_natCast, pm_ix_nI, Option.toList_none, Option.toList_some, List.nil_append, List.cons_append, pq_ial, pq_lal, pq_aal0, pq_aal1, pq_ias, F_M, K_M, d_M_takeSumWithProduct_30, d_M_takeSumWithProduct_32, d_M_takeSumWithProduct_33, d_M_takeSumWithProduct_36, d_M_takeSumWithProduct_39, d_M_takeSumWithProduct_41, d_M_takeSumWithProduct_42, d_M_takeSumWithProduct_44, h1, a2]; exact rfl) ?_
    refine mm_V X (m_M_at m2 (by omega) (ix_lt hi (by omega))) b_M_at l_M_34 (by have := m2.1; omega) m2.2.1 rfl rfl rfl (Nat.le_of_ble_eq_true rfl) d_M_takeSumWithProduct_46 (by decide) (by decide) (fun v w1 hq => ?_)
    obtain ⟨rfl, rfl⟩ := hq
    refine pm_v_ok (cx_X X X_M) 3 _ _ _ _ (by simp -implicitDefEqProofs only [pv_0, pv_s, pd_iconst, pd_bipush, pd_sipush, pd_lconst_0, pd_lconst_1, pd_ldc, pd_ldc2, pd_iload_0, pd_iload_1, pd_iload_2, pd_iload_3, pd_iload, pd_lload_0, pd_lload_1, pd_lload_2, pd_lload_3, pd_lload, pd_aload_0, pd_aload_1, pd_aload_2, pd_aload_3, pd_aload, pd_istore_0, pd_istore_1, pd_istore_2, pd_istore_3, pd_istore, pd_lstore_0, pd_lstore_1, pd_lstore_2, pd_lstore_3, pd_lstore, pd_astore_0, pd_astore_1, pd_astore_2, pd_astore_3, pd_astore, pd_iinc, pd_iadd, pd_isub, pd_imul, pd_iand, pd_ior, pd_ixor, pd_ishl, pd_ishr, pd_iushr, pd_idiv, pd_irem, pd_ineg, pd_ladd, pd_lsub, pd_lmul, pd_land, pd_lor, pd_lxor, pd_lshl, pd_lushr, pd_lcmp, pd_i2l, pd_l2i, pd_dup_int, pd_pop_int, pd_dup_ref, pd_pop_ref, pd_dup_x1_ir, pd_dup_x1_ii, pd_dup2_ir, pd_dup2_ii, pd_goto, pd_if_eq, pd_if_ne, pd_if_lt, pd_if_ge, pd_if_gt, pd_if_le, pd_icmp_eq, pd_icmp_ne, pd_icmp_lt, pd_icmp_ge, pd_icmp_gt, pd_icmp_le, pd_iaload, pd_baload, pd_laload, pd_aaload, pd_iastore, pd_bastore, pd_lastore, pd_alen, pd_getfield, pd_putfield, ph_las, ph_len0, ph_len1, ph_len2, ph_gf, ph_pfi, ph_pfl, ph_pfz0, ph_pfz1, ph_nz0, ph_nz1, pm_cm1, pm_c0, pm_c1, pm_c2, pm_c3, pm_c4, pm_c5, pm_b6, pm_b7, pm_b8, pm_b9, pm_b10, pm_b11, pm_b12, pm_b14, pm_b15, pm_b16, pm_b20, pm_b24, pm_b25, pm_b28, pm_b31, pm_b32, pm_b48, pm_b56, pm_b60, pm_b63, pm_b64, pm_b67, pm_b68, pm_b89, pm_b90, pm_b95, pm_b100, pm_b120, pm_b127, pm_h128, pm_h150, pm_h168, pm_h255, pm_h256, pm_h360, pm_h369, pm_h450, pm_h4096, pm_h8192, pm_h32767, pm_h4643, pm_h13363, pm_h20579, pm_h25843, pm_h29227, pm_h31145, pm_h32103, pm_h32525, pm_h32689, pm_h32745, pm_h32762, pm_h32766, pm_o, pm_ldi, pm_ldl, pm_lda, pm_sti, pm_stl, pm_sta, pm_lk, pm_f1, pm_f2, Value.category, lv_args, Option.bind_some, Option.map_some, if_true, if_false, ite_true, ite_false, Nat.reduceAdd, Nat.reduceSub, Nat.reduceMul, Nat.reduceDiv, Nat.reduceMod, Nat.reduceLT, Nat.reduceLeDiff, Nat.reduceEqDiff, reduceIte, reduceCtorEq, Int.reduceNatCast, Int.reduceNatCast', Int.reduceAdd, Int.reduceLE, Int.reduceLT, Int.reduceToNat, Int.reduceNeg, Int.reduceSub, Nat.add_sub_cancel_left, va_up_g, Int.ofNat_eq_natCast, List.getElem?_cons_zero, List.getElem?_cons_succ, List.set_cons_zero, List.set_cons_succ, List.length_cons, List.length_nil, Nat.zero_add, va_rf, nI_add, pk_mul, Int.toNat_natCast, pm_ix_nI, Option.toList_none, Option.toList_some, List.nil_append, List.cons_append, pq_ial, pq_lal, pq_aal0, pq_aal1, pq_ias, F_M, K_M, d_M_takeSumWithProduct_49, d_M_takeSumWithProduct_51, d_M_takeSumWithProduct_53]; exact rfl) ?_
    refine mm_V X (m_M_at m3 (by omega) (ix_lt (by omega) hj)) b_M_at l_M_34 (by have := m3.1; omega) m3.2.1 rfl rfl rfl (Nat.le_of_ble_eq_true rfl) d_M_takeSumWithProduct_55 (by decide) (by decide) (fun v w1 hq => ?_)
    obtain ⟨rfl, rfl⟩ := hq
    have e1 : sp_ L M Kk Cl i j k + L (i * Kk + k) * M (k * Cl + j) = sp_ L M Kk Cl i j (k + 1) := rfl
    refine pm_v_ok (cx_X X X_M) 5 _ _ _ _ (by simp -implicitDefEqProofs only [pv_0, pv_s, pd_iconst, pd_bipush, pd_sipush, pd_lconst_0, pd_lconst_1, pd_ldc, pd_ldc2, pd_iload_0, pd_iload_1, pd_iload_2, pd_iload_3, pd_iload, pd_lload_0, pd_lload_1, pd_lload_2, pd_lload_3, pd_lload, pd_aload_0, pd_aload_1, pd_aload_2, pd_aload_3, pd_aload, pd_istore_0, pd_istore_1, pd_istore_2, pd_istore_3, pd_istore, pd_lstore_0, pd_lstore_1, pd_lstore_2, pd_lstore_3, pd_lstore, pd_astore_0, pd_astore_1, pd_astore_2, pd_astore_3, pd_astore, pd_iinc, pd_iadd, pd_isub, pd_imul, pd_iand, pd_ior, pd_ixor, pd_ishl, pd_ishr, pd_iushr, pd_idiv, pd_irem, pd_ineg, pd_ladd, pd_lsub, pd_lmul, pd_land, pd_lor, pd_lxor, pd_lshl, pd_lushr, pd_lcmp, pd_i2l, pd_l2i, pd_dup_int, pd_pop_int, pd_dup_ref, pd_pop_ref, pd_dup_x1_ir, pd_dup_x1_ii, pd_dup2_ir, pd_dup2_ii, pd_goto, pd_if_eq, pd_if_ne, pd_if_lt, pd_if_ge, pd_if_gt, pd_if_le, pd_icmp_eq, pd_icmp_ne, pd_icmp_lt, pd_icmp_ge, pd_icmp_gt, pd_icmp_le, pd_iaload, pd_baload, pd_laload, pd_aaload, pd_iastore, pd_bastore, pd_lastore, pd_alen, pd_getfield, pd_putfield, ph_las, ph_len0, ph_len1, ph_len2, ph_gf, ph_pfi, ph_pfl, ph_pfz0, ph_pfz1, ph_nz0, ph_nz1, pm_cm1, pm_c0, pm_c1, pm_c2, pm_c3, pm_c4, pm_c5, pm_b6, pm_b7, pm_b8, pm_b9, pm_b10, pm_b11, pm_b12, pm_b14, pm_b15, pm_b16, pm_b20, pm_b24, pm_b25, pm_b28, pm_b31, pm_b32, pm_b48, pm_b56, pm_b60, pm_b63, pm_b64, pm_b67, pm_b68, pm_b89, pm_b90, pm_b95, pm_b100, pm_b120, pm_b127, pm_h128, pm_h150, pm_h168, pm_h255, pm_h256, pm_h360, pm_h369, pm_h450, pm_h4096, pm_h8192, pm_h32767, pm_h4643, pm_h13363, pm_h20579, pm_h25843, pm_h29227, pm_h31145, pm_h32103, pm_h32525, pm_h32689, pm_h32745, pm_h32762, pm_h32766, pm_o, pm_ldi, pm_ldl, pm_lda, pm_sti, pm_stl, pm_sta, pm_lk, pm_f1, pm_f2, Value.category, lv_args, Option.bind_some, Option.map_some, if_true, if_false, ite_true, ite_false, Nat.reduceAdd, Nat.reduceSub, Nat.reduceMul, Nat.reduceDiv, Nat.reduceMod, Nat.reduceLT, Nat.reduceLeDiff, Nat.reduceEqDiff, reduceIte, reduceCtorEq, Int.reduceNatCast, Int.reduceNatCast', Int.reduceAdd, Int.reduceLE, Int.reduceLT, Int.reduceToNat, Int.reduceNeg, Int.reduceSub, Nat.add_sub_cancel_left, va_up_g, Int.ofNat_eq_natCast, List.getElem?_cons_zero, List.getElem?_cons_succ, List.set_cons_zero, List.set_cons_succ, List.length_cons, List.length_nil, Nat.zero_add, va_rf, nI_add, pk_mul, Int.toNat_natCast, pm_ix_nI, Option.toList_none, Option.toList_some, List.nil_append, List.cons_append, pq_ial, pq_lal, pq_aal0, pq_aal1, pq_ias, F_M, K_M, d_M_takeSumWithProduct_58, d_M_takeSumWithProduct_59, d_M_takeSumWithProduct_60, d_M_takeSumWithProduct_62, d_M_takeSumWithProduct_65, e1]; exact rfl) ?_
    exact pm_G.sub (by simp) (ih (k + 1) (by omega))
set_option maxHeartbeats 4000000 in
theorem lj_tsp (hR : Rw ≤ 8) (hC : Cl ≤ 8) (hK : Kk ≤ 8) (hq : q + 1 < 91) (hw : w q = mo_ sz q Rw Cl) (hB : mt_ tc sz w q1 Rw Cl B) (hL : mt_ tc sz w q2 Rw Kk L) (hM : mt_ tc sz w q3 Kk Cl M) (n1 : q1 ≠ q + 1) (n2 : q1 ≠ q) (n3 : q2 ≠ q + 1) (n4 : q2 ≠ q) (n5 : q3 ≠ q + 1) (n6 : q3 ≠ q) (hi : i < Rw) (X : cx_ p s m args c c_M_takeSumWithProduct 9 R_M D tc sz tk) (he : pm_G p l e (rm_ 1) s m args below meth c Q D cl_ sz 9 hz 91 0 0 (va_up w (q + 1) (ma_ tc (Rw * Cl) (tm_ B L M r y Kk Cl (i * Cl + Cl)))) 95 [(6, .int (nI Cl)), (5, .int (nI i)), (0, .ref (sz + q)), (1, .ref (sz + q1)), (2, .int y), (3, .ref (sz + q2)), (4, .ref (sz + q3))] []) : ∀ b j : Nat, j + b = Cl → pm_G p l e (rm_ 1) s m args below meth c Q D cl_ sz 9 hz 91 0 0 (va_up w (q + 1) (ma_ tc (Rw * Cl) (tm_ B L M r y Kk Cl (i * Cl + j)))) 15 [(6, .int (nI j)), (5, .int (nI i)), (0, .ref (sz + q)), (1, .ref (sz + q1)), (2, .int y), (3, .ref (sz + q2)), (4, .ref (sz + q3))] [] := by
  have b1 : Rw * Cl ≤ 8 * 8 := Nat.mul_le_mul hR hC
  intro b
  induction b with
  | zero =>
    intro j hj
    obtain rfl : j = Cl := by omega
    have h1 : (nI j ≤ nI j) = True := eq_true (nI_le (Nat.le_refl _) (by omega))
    have a0 := mt_0 (mt_se (tc := tc) (r := tm_ B L M r y Kk j (i * j + j)) hq hw)
    refine pm_v_ok (cx_X X X_M) 4 _ _ _ _ (by simp -implicitDefEqProofs only [pv_0, pv_s, pd_iconst, pd_bipush, pd_sipush, pd_lconst_0, pd_lconst_1, pd_ldc, pd_ldc2, pd_iload_0, pd_iload_1, pd_iload_2, pd_iload_3, pd_iload, pd_lload_0, pd_lload_1, pd_lload_2, pd_lload_3, pd_lload, pd_aload_0, pd_aload_1, pd_aload_2, pd_aload_3, pd_aload, pd_istore_0, pd_istore_1, pd_istore_2, pd_istore_3, pd_istore, pd_lstore_0, pd_lstore_1, pd_lstore_2, pd_lstore_3, pd_lstore, pd_astore_0, pd_astore_1, pd_astore_2, pd_astore_3, pd_astore, pd_iinc, pd_iadd, pd_isub, pd_imul, pd_iand, pd_ior, pd_ixor, pd_ishl, pd_ishr, pd_iushr, pd_idiv, pd_irem, pd_ineg, pd_ladd, pd_lsub, pd_lmul, pd_land, pd_lor, pd_lxor, pd_lshl, pd_lushr, pd_lcmp, pd_i2l, pd_l2i, pd_dup_int, pd_pop_int, pd_dup_ref, pd_pop_ref, pd_dup_x1_ir, pd_dup_x1_ii, pd_dup2_ir, pd_dup2_ii, pd_goto, pd_if_eq, pd_if_ne, pd_if_lt, pd_if_ge, pd_if_gt, pd_if_le, pd_icmp_eq, pd_icmp_ne, pd_icmp_lt, pd_icmp_ge, pd_icmp_gt, pd_icmp_le, pd_iaload, pd_baload, pd_laload, pd_aaload, pd_iastore, pd_bastore, pd_lastore, pd_alen, pd_getfield, pd_putfield, ph_las, ph_len0, ph_len1, ph_len2, ph_gf, ph_pfi, ph_pfl, ph_pfz0, ph_pfz1, ph_nz0, ph_nz1, pm_cm1, pm_c0, pm_c1, pm_c2, pm_c3, pm_c4, pm_c5, pm_b6, pm_b7, pm_b8, pm_b9, pm_b10, pm_b11, pm_b12, pm_b14, pm_b15, pm_b16, pm_b20, pm_b24, pm_b25, pm_b28, pm_b31, pm_b32, pm_b48, pm_b56, pm_b60, pm_b63, pm_b64, pm_b67, pm_b68, pm_b89, pm_b90, pm_b95, pm_b100, pm_b120, pm_b127, pm_h128, pm_h150, pm_h168, pm_h255, pm_h256, pm_h360, pm_h369, pm_h450, pm_h4096, pm_h8192, pm_h32767, pm_h4643, pm_h13363, pm_h20579, pm_h25843, pm_h29227, pm_h31145, pm_h32103, pm_h32525, pm_h32689, pm_h32745, pm_h32762, pm_h32766, pm_o, pm_ldi, pm_ldl, pm_lda, pm_sti, pm_stl, pm_sta, pm_lk, pm_f1, pm_f2, Value.category, lv_args, Option.bind_some, Option.map_some, if_true, if_false, ite_true, ite_false, Nat.reduceAdd, Nat.reduceSub, Nat.reduceMul, Nat.reduceDiv, Nat.reduceMod, Nat.reduceLT, Nat.reduceLeDiff, Nat.reduceEqDiff, reduceIte, reduceCtorEq, Int.reduceNatCast, Int.reduceNatCast', Int.reduceAdd, Int.reduceLE, Int.reduceLT, Int.reduceToNat, Int.reduceNeg, Int.reduceSub, Nat.add_sub_cancel_left, va_up_g, Int.ofNat_eq_natCast, List.getElem?_cons_zero, List.getElem?_cons_succ, List.set_cons_zero, List.set_cons_succ, List.length_cons, List.length_nil, Nat.zero_add, va_rf, nI_add, pk_mul, Int.toNat_natCast, pm_ix_nI, Option.toList_none, Option.toList_some, List.nil_append, List.cons_append, pq_ial, pq_lal, pq_aal0, pq_aal1, pq_ias, F_M, K_M, d_M_takeSumWithProduct_15, d_M_takeSumWithProduct_17, d_M_takeSumWithProduct_18, d_M_takeSumWithProduct_21, h1, a0]; exact rfl) ?_
    exact he
  | succ b ih =>
    intro j hj
    have h1 : (nI Cl ≤ nI j) = False := eq_false (nI_ge (by omega) (by omega))
    have m0 := mt_se (tc := tc) (r := tm_ B L M r y Kk Cl (i * Cl + j)) hq hw
    have a0 := mt_0 m0
    have m1 : mt_ tc sz (va_up w (q + 1) (ma_ tc (Rw * Cl) (tm_ B L M r y Kk Cl (i * Cl + j)))) q1 Rw Cl B := mt_up hB n1 (by omega)
    refine pm_v_ok (cx_X X X_M) 8 _ _ _ _ (by simp -implicitDefEqProofs only [pv_0, pv_s, pd_iconst, pd_bipush, pd_sipush, pd_lconst_0, pd_lconst_1, pd_ldc, pd_ldc2, pd_iload_0, pd_iload_1, pd_iload_2, pd_iload_3, pd_iload, pd_lload_0, pd_lload_1, pd_lload_2, pd_lload_3, pd_lload, pd_aload_0, pd_aload_1, pd_aload_2, pd_aload_3, pd_aload, pd_istore_0, pd_istore_1, pd_istore_2, pd_istore_3, pd_istore, pd_lstore_0, pd_lstore_1, pd_lstore_2, pd_lstore_3, pd_lstore, pd_astore_0, pd_astore_1, pd_astore_2, pd_astore_3, pd_astore, pd_iinc, pd_iadd, pd_isub, pd_imul, pd_iand, pd_ior, pd_ixor, pd_ishl, pd_ishr, pd_iushr, pd_idiv, pd_irem, pd_ineg, pd_ladd, pd_lsub, pd_lmul, pd_land, pd_lor, pd_lxor, pd_lshl, pd_lushr, pd_lcmp, pd_i2l, pd_l2i, pd_dup_int, pd_pop_int, pd_dup_ref, pd_pop_ref, pd_dup_x1_ir, pd_dup_x1_ii, pd_dup2_ir, pd_dup2_ii, pd_goto, pd_if_eq, pd_if_ne, pd_if_lt, pd_if_ge, pd_if_gt, pd_if_le, pd_icmp_eq, pd_icmp_ne, pd_icmp_lt, pd_icmp_ge, pd_icmp_gt, pd_icmp_le, pd_iaload, pd_baload, pd_laload, pd_aaload, pd_iastore, pd_bastore, pd_lastore, pd_alen, pd_getfield, pd_putfield, ph_las, ph_len0, ph_len1, ph_len2, ph_gf, ph_pfi, ph_pfl, ph_pfz0, ph_pfz1, ph_nz0, ph_nz1, pm_cm1, pm_c0, pm_c1, pm_c2, pm_c3, pm_c4, pm_c5, pm_b6, pm_b7, pm_b8, pm_b9, pm_b10, pm_b11, pm_b12, pm_b14, pm_b15, pm_b16, pm_b20, pm_b24, pm_b25, pm_b28, pm_b31, pm_b32, pm_b48, pm_b56, pm_b60, pm_b63, pm_b64, pm_b67, pm_b68, pm_b89, pm_b90, pm_b95, pm_b100, pm_b120, pm_b127, pm_h128, pm_h150, pm_h168, pm_h255, pm_h256, pm_h360, pm_h369, pm_h450, pm_h4096, pm_h8192, pm_h32767, pm_h4643, pm_h13363, pm_h20579, pm_h25843, pm_h29227, pm_h31145, pm_h32103, pm_h32525, pm_h32689, pm_h32745, pm_h32762, pm_h32766, pm_o, pm_ldi, pm_ldl, pm_lda, pm_sti, pm_stl, pm_sta, pm_lk, pm_f1, pm_f2, Value.category, lv_args, Option.bind_some, Option.map_some, if_true, if_false, ite_true, ite_false, Nat.reduceAdd, Nat.reduceSub, Nat.reduceMul, Nat.reduceDiv, Nat.reduceMod, Nat.reduceLT, Nat.reduceLeDiff, Nat.reduceEqDiff, reduceIte, reduceCtorEq, Int.reduceNatCast, Int.reduceNatCast', Int.reduceAdd, Int.reduceLE, Int.reduceLT, Int.reduceToNat, Int.reduceNeg, Int.reduceSub, Nat.add_sub_cancel_left, va_up_g, Int.ofNat_eq_natCast, List.getElem?_cons_zero, List.getElem?_cons_succ, List.set_cons_zero, List.set_cons_succ, List.length_cons, List.length_nil, Nat.zero_add, va_rf, nI_add, pk_mul, Int.toNat_natCast, pm_ix_nI, Option.toList_none, Option.toList_some, List.nil_append, List.cons_append, pq_ial, pq_lal, pq_aal0, pq_aal1, pq_ias, F_M, K_M, d_M_takeSumWithProduct_15, d_M_takeSumWithProduct_17, d_M_takeSumWithProduct_18, d_M_takeSumWithProduct_21, d_M_takeSumWithProduct_24, d_M_takeSumWithProduct_25, d_M_takeSumWithProduct_27, d_M_takeSumWithProduct_28, h1, a0]; exact rfl) ?_
    refine pm_G.sub (by simp [sp_]) (lk_tsp hR hC hK hq hw hB hL hM n1 n2 n3 n4 n5 n6 hi (by omega) X ?_ Kk 0 (by omega))
    refine pm_v_ok (cx_X X X_M) 6 _ _ _ _ (by simp -implicitDefEqProofs only [pv_0, pv_s, pd_iconst, pd_bipush, pd_sipush, pd_lconst_0, pd_lconst_1, pd_ldc, pd_ldc2, pd_iload_0, pd_iload_1, pd_iload_2, pd_iload_3, pd_iload, pd_lload_0, pd_lload_1, pd_lload_2, pd_lload_3, pd_lload, pd_aload_0, pd_aload_1, pd_aload_2, pd_aload_3, pd_aload, pd_istore_0, pd_istore_1, pd_istore_2, pd_istore_3, pd_istore, pd_lstore_0, pd_lstore_1, pd_lstore_2, pd_lstore_3, pd_lstore, pd_astore_0, pd_astore_1, pd_astore_2, pd_astore_3, pd_astore, pd_iinc, pd_iadd, pd_isub, pd_imul, pd_iand, pd_ior, pd_ixor, pd_ishl, pd_ishr, pd_iushr, pd_idiv, pd_irem, pd_ineg, pd_ladd, pd_lsub, pd_lmul, pd_land, pd_lor, pd_lxor, pd_lshl, pd_lushr, pd_lcmp, pd_i2l, pd_l2i, pd_dup_int, pd_pop_int, pd_dup_ref, pd_pop_ref, pd_dup_x1_ir, pd_dup_x1_ii, pd_dup2_ir, pd_dup2_ii, pd_goto, pd_if_eq, pd_if_ne, pd_if_lt, pd_if_ge, pd_if_gt, pd_if_le, pd_icmp_eq, pd_icmp_ne, pd_icmp_lt, pd_icmp_ge, pd_icmp_gt, pd_icmp_le, pd_iaload, pd_baload, pd_laload, pd_aaload, pd_iastore, pd_bastore, pd_lastore, pd_alen, pd_getfield, pd_putfield, ph_las, ph_len0, ph_len1, ph_len2, ph_gf, ph_pfi, ph_pfl, ph_pfz0, ph_pfz1, ph_nz0, ph_nz1, pm_cm1, pm_c0, pm_c1, pm_c2, pm_c3, pm_c4, pm_c5, pm_b6, pm_b7, pm_b8, pm_b9, pm_b10, pm_b11, pm_b12, pm_b14, pm_b15, pm_b16, pm_b20, pm_b24, pm_b25, pm_b28, pm_b31, pm_b32, pm_b48, pm_b56, pm_b60, pm_b63, pm_b64, pm_b67, pm_b68, pm_b89, pm_b90, pm_b95, pm_b100, pm_b120, pm_b127, pm_h128, pm_h150, pm_h168, pm_h255, pm_h256, pm_h360, pm_h369, pm_h450, pm_h4096, pm_h8192, pm_h32767, pm_h4643, pm_h13363, pm_h20579, pm_h25843, pm_h29227, pm_h31145, pm_h32103, pm_h32525, pm_h32689, pm_h32745, pm_h32762, pm_h32766, pm_o, pm_ldi, pm_ldl, pm_lda, pm_sti, pm_stl, pm_sta, pm_lk, pm_f1, pm_f2, Value.category, lv_args, Option.bind_some, Option.map_some, if_true, if_false, ite_true, ite_false, Nat.reduceAdd, Nat.reduceSub, Nat.reduceMul, Nat.reduceDiv, Nat.reduceMod, Nat.reduceLT, Nat.reduceLeDiff, Nat.reduceEqDiff, reduceIte, reduceCtorEq, Int.reduceNatCast, Int.reduceNatCast', Int.reduceAdd, Int.reduceLE, Int.reduceLT, Int.reduceToNat, Int.reduceNeg, Int.reduceSub, Nat.add_sub_cancel_left, va_up_g, Int.ofNat_eq_natCast, List.getElem?_cons_zero, List.getElem?_cons_succ, List.set_cons_zero, List.set_cons_succ, List.length_cons, List.length_nil, Nat.zero_add, va_rf, nI_add, pk_mul, Int.toNat_natCast, pm_ix_nI, Option.toList_none, Option.toList_some, List.nil_append, List.cons_append, pq_ial, pq_lal, pq_aal0, pq_aal1, pq_ias, F_M, K_M, d_M_takeSumWithProduct_68, d_M_takeSumWithProduct_69, d_M_takeSumWithProduct_71, d_M_takeSumWithProduct_73, d_M_takeSumWithProduct_74, d_M_takeSumWithProduct_76]; exact rfl) ?_
    refine mm_V X (m_M_at m1 (by omega) (ix_lt hi (by omega))) b_M_at l_M_34 (by have := m1.1; omega) m1.2.1 rfl rfl rfl (Nat.le_of_ble_eq_true rfl) d_M_takeSumWithProduct_78 (by decide) (by decide) (fun v w1 hq => ?_)
    obtain ⟨rfl, rfl⟩ := hq
    refine pm_v_ok (cx_X X X_M) 4 _ _ _ _ (by simp -implicitDefEqProofs only [pv_0, pv_s, pd_iconst, pd_bipush, pd_sipush, pd_lconst_0, pd_lconst_1, pd_ldc, pd_ldc2, pd_iload_0, pd_iload_1, pd_iload_2, pd_iload_3, pd_iload, pd_lload_0, pd_lload_1, pd_lload_2, pd_lload_3, pd_lload, pd_aload_0, pd_aload_1, pd_aload_2, pd_aload_3, pd_aload, pd_istore_0, pd_istore_1, pd_istore_2, pd_istore_3, pd_istore, pd_lstore_0, pd_lstore_1, pd_lstore_2, pd_lstore_3, pd_lstore, pd_astore_0, pd_astore_1, pd_astore_2, pd_astore_3, pd_astore, pd_iinc, pd_iadd, pd_isub, pd_imul, pd_iand, pd_ior, pd_ixor, pd_ishl, pd_ishr, pd_iushr, pd_idiv, pd_irem, pd_ineg, pd_ladd, pd_lsub, pd_lmul, pd_land, pd_lor, pd_lxor, pd_lshl, pd_lushr, pd_lcmp, pd_i2l, pd_l2i, pd_dup_int, pd_pop_int, pd_dup_ref, pd_pop_ref, pd_dup_x1_ir, pd_dup_x1_ii, pd_dup2_ir, pd_dup2_ii, pd_goto, pd_if_eq, pd_if_ne, pd_if_lt, pd_if_ge, pd_if_gt, pd_if_le, pd_icmp_eq, pd_icmp_ne, pd_icmp_lt, pd_icmp_ge, pd_icmp_gt, pd_icmp_le, pd_iaload, pd_baload, pd_laload, pd_aaload, pd_iastore, pd_bastore, pd_lastore, pd_alen, pd_getfield, pd_putfield, ph_las, ph_len0, ph_len1, ph_len2, ph_gf, ph_pfi, ph_pfl, ph_pfz0, ph_pfz1, ph_nz0, ph_nz1, pm_cm1, pm_c0, pm_c1, pm_c2, pm_c3, pm_c4, pm_c5, pm_b6, pm_b7, pm_b8, pm_b9, pm_b10, pm_b11, pm_b12, pm_b14, pm_b15, pm_b16, pm_b20, pm_b24, pm_b25, pm_b28, pm_b31, pm_b32, pm_b48, pm_b56, pm_b60, pm_b63, pm_b64, pm_b67, pm_b68, pm_b89, pm_b90, pm_b95, pm_b100, pm_b120, pm_b127, pm_h128, pm_h150, pm_h168, pm_h255, pm_h256, pm_h360, pm_h369, pm_h450, pm_h4096, pm_h8192, pm_h32767, pm_h4643, pm_h13363, pm_h20579, pm_h25843, pm_h29227, pm_h31145, pm_h32103, pm_h32525, pm_h32689, pm_h32745, pm_h32762, pm_h32766, pm_o, pm_ldi, pm_ldl, pm_lda, pm_sti, pm_stl, pm_sta, pm_lk, pm_f1, pm_f2, Value.category, lv_args, Option.bind_some, Option.map_some, if_true, if_false, ite_true, ite_false, Nat.reduceAdd, Nat.reduceSub, Nat.reduceMul, Nat.reduceDiv, Nat.reduceMod, Nat.reduceLT, Nat.reduceLeDiff, Nat.reduceEqDiff, reduceIte, reduceCtorEq, Int.reduceNatCast, Int.reduceNatCast', Int.reduceAdd, Int.reduceLE, Int.reduceLT, Int.reduceToNat, Int.reduceNeg, Int.reduceSub, Nat.add_sub_cancel_left, va_up_g, Int.ofNat_eq_natCast, List.getElem?_cons_zero, List.getElem?_cons_succ, List.set_cons_zero, List.set_cons_succ, List.length_cons, List.length_nil, Nat.zero_add, va_rf, nI_add, pk_mul, Int.toNat_natCast, pm_ix_nI, Option.toList_none, Option.toList_some, List.nil_append, List.cons_append, pq_ial, pq_lal, pq_aal0, pq_aal1, pq_ias, F_M, K_M, d_M_takeSumWithProduct_81, d_M_takeSumWithProduct_82, d_M_takeSumWithProduct_84, d_M_takeSumWithProduct_85]; exact rfl) ?_
    refine mm_V X (m_M_put m0 (by omega) (ix_lt hi (by omega))) b_M_put l_M_38 (by omega) m0.2.1 rfl rfl rfl (Nat.le_of_ble_eq_true rfl) d_M_takeSumWithProduct_86 (by decide) (by decide) (fun v w1 hq => ?_)
    obtain ⟨rfl, rfl⟩ := hq
    refine pm_G.wd (w' := va_up w (q + 1) (ma_ tc (Rw * Cl) (tm_ B L M r y Kk Cl (i * Cl + (j + 1))))) (by rw [tm_s (by omega), va_up_2]) ?_
    refine pm_v_ok (cx_X X X_M) 2 _ _ _ _ (by simp -implicitDefEqProofs only [pv_0, pv_s, pd_iconst, pd_bipush, pd_sipush, pd_lconst_0, pd_lconst_1, pd_ldc, pd_ldc2, pd_iload_0, pd_iload_1, pd_iload_2, pd_iload_3, pd_iload, pd_lload_0, pd_lload_1, pd_lload_2, pd_lload_3, pd_lload, pd_aload_0, pd_aload_1, pd_aload_2, pd_aload_3, pd_aload, pd_istore_0, pd_istore_1, pd_istore_2, pd_istore_3, pd_istore, pd_lstore_0, pd_lstore_1, pd_lstore_2, pd_lstore_3, pd_lstore, pd_astore_0, pd_astore_1, pd_astore_2, pd_astore_3, pd_astore, pd_iinc, pd_iadd, pd_isub, pd_imul, pd_iand, pd_ior, pd_ixor, pd_ishl, pd_ishr, pd_iushr, pd_idiv, pd_irem, pd_ineg, pd_ladd, pd_lsub, pd_lmul, pd_land, pd_lor, pd_lxor, pd_lshl, pd_lushr, pd_lcmp, pd_i2l, pd_l2i, pd_dup_int, pd_pop_int, pd_dup_ref, pd_pop_ref, pd_dup_x1_ir, pd_dup_x1_ii, pd_dup2_ir, pd_dup2_ii, pd_goto, pd_if_eq, pd_if_ne, pd_if_lt, pd_if_ge, pd_if_gt, pd_if_le, pd_icmp_eq, pd_icmp_ne, pd_icmp_lt, pd_icmp_ge, pd_icmp_gt, pd_icmp_le, pd_iaload, pd_baload, pd_laload, pd_aaload, pd_iastore, pd_bastore, pd_lastore, pd_alen, pd_getfield, pd_putfield, ph_las, ph_len0, ph_len1, ph_len2, ph_gf, ph_pfi, ph_pfl, ph_pfz0, ph_pfz1, ph_nz0, ph_nz1, pm_cm1, pm_c0, pm_c1, pm_c2, pm_c3, pm_c4, pm_c5, pm_b6, pm_b7, pm_b8, pm_b9, pm_b10, pm_b11, pm_b12, pm_b14, pm_b15, pm_b16, pm_b20, pm_b24, pm_b25, pm_b28, pm_b31, pm_b32, pm_b48, pm_b56, pm_b60, pm_b63, pm_b64, pm_b67, pm_b68, pm_b89, pm_b90, pm_b95, pm_b100, pm_b120, pm_b127, pm_h128, pm_h150, pm_h168, pm_h255, pm_h256, pm_h360, pm_h369, pm_h450, pm_h4096, pm_h8192, pm_h32767, pm_h4643, pm_h13363, pm_h20579, pm_h25843, pm_h29227, pm_h31145, pm_h32103, pm_h32525, pm_h32689, pm_h32745, pm_h32762, pm_h32766, pm_o, pm_ldi, pm_ldl, pm_lda, pm_sti, pm_stl, pm_sta, pm_lk, pm_f1, pm_f2, Value.category, lv_args, Option.bind_some, Option.map_some, if_true, if_false, ite_true, ite_false, Nat.reduceAdd, Nat.reduceSub, Nat.reduceMul, Nat.reduceDiv, Nat.reduceMod, Nat.reduceLT, Nat.reduceLeDiff, Nat.reduceEqDiff, reduceIte, reduceCtorEq, Int.reduceNatCast, Int.reduceNatCast', Int.reduceAdd, Int.reduceLE, Int.reduceLT, Int.reduceToNat, Int.reduceNeg, Int.reduceSub, Nat.add_sub_cancel_left, va_up_g, Int.ofNat_eq_natCast, List.getElem?_cons_zero, List.getElem?_cons_succ, List.set_cons_zero, List.set_cons_succ, List.length_cons, List.length_nil, Nat.zero_add, va_rf, nI_add, pk_mul, Int.toNat_natCast, pm_ix_nI, Option.toList_none, Option.toList_some, List.nil_append, List.cons_append, pq_ial, pq_lal, pq_aal0, pq_aal1, pq_ias, F_M, K_M, d_M_takeSumWithProduct_89, d_M_takeSumWithProduct_92]; exact rfl) ?_
    exact pm_G.sub (by simp) (ih (j + 1) (by omega))
set_option maxHeartbeats 4000000 in
theorem li_tsp (hR : Rw ≤ 8) (hC : Cl ≤ 8) (hK : Kk ≤ 8) (hq : q + 1 < 91) (hw : w q = mo_ sz q Rw Cl) (hB : mt_ tc sz w q1 Rw Cl B) (hL : mt_ tc sz w q2 Rw Kk L) (hM : mt_ tc sz w q3 Kk Cl M) (n1 : q1 ≠ q + 1) (n2 : q1 ≠ q) (n3 : q2 ≠ q + 1) (n4 : q2 ≠ q) (n5 : q3 ≠ q + 1) (n6 : q3 ≠ q) (X : cx_ p s m args c c_M_takeSumWithProduct 9 R_M D tc sz tk) (he : pm_G p l e (rm_ 1) s m args below meth c Q D cl_ sz 9 hz 91 0 0 (va_up w (q + 1) (ma_ tc (Rw * Cl) (tm_ B L M r y Kk Cl (Rw * Cl)))) 101 [(5, .int (nI Rw)), (0, .ref (sz + q)), (1, .ref (sz + q1)), (2, .int y), (3, .ref (sz + q2)), (4, .ref (sz + q3))] []) : ∀ b i : Nat, i + b = Rw → pm_G p l e (rm_ 1) s m args below meth c Q D cl_ sz 9 hz 91 0 0 (va_up w (q + 1) (ma_ tc (Rw * Cl) (tm_ B L M r y Kk Cl (i * Cl)))) 3 [(5, .int (nI i)), (0, .ref (sz + q)), (1, .ref (sz + q1)), (2, .int y), (3, .ref (sz + q2)), (4, .ref (sz + q3))] [] := by
  intro b
  induction b with
  | zero =>
    intro i hi
    obtain rfl : i = Rw := by omega
    have h1 : (nI i ≤ nI i) = True := eq_true (nI_le (Nat.le_refl _) (by omega))
    have a0 := mt_0 (mt_se (tc := tc) (r := tm_ B L M r y Kk Cl (i * Cl)) hq hw)
    refine pm_v_ok (cx_X X X_M) 4 _ _ _ _ (by simp -implicitDefEqProofs only [pv_0, pv_s, pd_iconst, pd_bipush, pd_sipush, pd_lconst_0, pd_lconst_1, pd_ldc, pd_ldc2, pd_iload_0, pd_iload_1, pd_iload_2, pd_iload_3, pd_iload, pd_lload_0, pd_lload_1, pd_lload_2, pd_lload_3, pd_lload, pd_aload_0, pd_aload_1, pd_aload_2, pd_aload_3, pd_aload, pd_istore_0, pd_istore_1, pd_istore_2, pd_istore_3, pd_istore, pd_lstore_0, pd_lstore_1, pd_lstore_2, pd_lstore_3, pd_lstore, pd_astore_0, pd_astore_1, pd_astore_2, pd_astore_3, pd_astore, pd_iinc, pd_iadd, pd_isub, pd_imul, pd_iand, pd_ior, pd_ixor, pd_ishl, pd_ishr, pd_iushr, pd_idiv, pd_irem, pd_ineg, pd_ladd, pd_lsub, pd_lmul, pd_land, pd_lor, pd_lxor, pd_lshl, pd_lushr, pd_lcmp, pd_i2l, pd_l2i, pd_dup_int, pd_pop_int, pd_dup_ref, pd_pop_ref, pd_dup_x1_ir, pd_dup_x1_ii, pd_dup2_ir, pd_dup2_ii, pd_goto, pd_if_eq, pd_if_ne, pd_if_lt, pd_if_ge, pd_if_gt, pd_if_le, pd_icmp_eq, pd_icmp_ne, pd_icmp_lt, pd_icmp_ge, pd_icmp_gt, pd_icmp_le, pd_iaload, pd_baload, pd_laload, pd_aaload, pd_iastore, pd_bastore, pd_lastore, pd_alen, pd_getfield, pd_putfield, ph_las, ph_len0, ph_len1, ph_len2, ph_gf, ph_pfi, ph_pfl, ph_pfz0, ph_pfz1, ph_nz0, ph_nz1, pm_cm1, pm_c0, pm_c1, pm_c2, pm_c3, pm_c4, pm_c5, pm_b6, pm_b7, pm_b8, pm_b9, pm_b10, pm_b11, pm_b12, pm_b14, pm_b15, pm_b16, pm_b20, pm_b24, pm_b25, pm_b28, pm_b31, pm_b32, pm_b48, pm_b56, pm_b60, pm_b63, pm_b64, pm_b67, pm_b68, pm_b89, pm_b90, pm_b95, pm_b100, pm_b120, pm_b127, pm_h128, pm_h150, pm_h168, pm_h255, pm_h256, pm_h360, pm_h369, pm_h450, pm_h4096, pm_h8192, pm_h32767, pm_h4643, pm_h13363, pm_h20579, pm_h25843, pm_h29227, pm_h31145, pm_h32103, pm_h32525, pm_h32689, pm_h32745, pm_h32762, pm_h32766, pm_o, pm_ldi, pm_ldl, pm_lda, pm_sti, pm_stl, pm_sta, pm_lk, pm_f1, pm_f2, Value.category, lv_args, Option.bind_some, Option.map_some, if_true, if_false, ite_true, ite_false, Nat.reduceAdd, Nat.reduceSub, Nat.reduceMul, Nat.reduceDiv, Nat.reduceMod, Nat.reduceLT, Nat.reduceLeDiff, Nat.reduceEqDiff, reduceIte, reduceCtorEq, Int.reduceNatCast, Int.reduceNatCast', Int.reduceAdd, Int.reduceLE, Int.reduceLT, Int.reduceToNat, Int.reduceNeg, Int.reduceSub, Nat.add_sub_cancel_left, va_up_g, Int.ofNat_eq_natCast, List.getElem?_cons_zero, List.getElem?_cons_succ, List.set_cons_zero, List.set_cons_succ, List.length_cons, List.length_nil, Nat.zero_add, va_rf, nI_add, pk_mul, Int.toNat_natCast, pm_ix_nI, Option.toList_none, Option.toList_some, List.nil_append, List.cons_append, pq_ial, pq_lal, pq_aal0, pq_aal1, pq_ias, F_M, K_M, d_M_takeSumWithProduct_3, d_M_takeSumWithProduct_5, d_M_takeSumWithProduct_6, d_M_takeSumWithProduct_9, h1, a0]; exact rfl) ?_
    exact he
  | succ b ih =>
    intro i hi
    have h1 : (nI Rw ≤ nI i) = False := eq_false (nI_ge (by omega) (by omega))
    have a0 := mt_0 (mt_se (tc := tc) (r := tm_ B L M r y Kk Cl (i * Cl)) hq hw)
    refine pm_v_ok (cx_X X X_M) 6 _ _ _ _ (by simp -implicitDefEqProofs only [pv_0, pv_s, pd_iconst, pd_bipush, pd_sipush, pd_lconst_0, pd_lconst_1, pd_ldc, pd_ldc2, pd_iload_0, pd_iload_1, pd_iload_2, pd_iload_3, pd_iload, pd_lload_0, pd_lload_1, pd_lload_2, pd_lload_3, pd_lload, pd_aload_0, pd_aload_1, pd_aload_2, pd_aload_3, pd_aload, pd_istore_0, pd_istore_1, pd_istore_2, pd_istore_3, pd_istore, pd_lstore_0, pd_lstore_1, pd_lstore_2, pd_lstore_3, pd_lstore, pd_astore_0, pd_astore_1, pd_astore_2, pd_astore_3, pd_astore, pd_iinc, pd_iadd, pd_isub, pd_imul, pd_iand, pd_ior, pd_ixor, pd_ishl, pd_ishr, pd_iushr, pd_idiv, pd_irem, pd_ineg, pd_ladd, pd_lsub, pd_lmul, pd_land, pd_lor, pd_lxor, pd_lshl, pd_lushr, pd_lcmp, pd_i2l, pd_l2i, pd_dup_int, pd_pop_int, pd_dup_ref, pd_pop_ref, pd_dup_x1_ir, pd_dup_x1_ii, pd_dup2_ir, pd_dup2_ii, pd_goto, pd_if_eq, pd_if_ne, pd_if_lt, pd_if_ge, pd_if_gt, pd_if_le, pd_icmp_eq, pd_icmp_ne, pd_icmp_lt, pd_icmp_ge, pd_icmp_gt, pd_icmp_le, pd_iaload, pd_baload, pd_laload, pd_aaload, pd_iastore, pd_bastore, pd_lastore, pd_alen, pd_getfield, pd_putfield, ph_las, ph_len0, ph_len1, ph_len2, ph_gf, ph_pfi, ph_pfl, ph_pfz0, ph_pfz1, ph_nz0, ph_nz1, pm_cm1, pm_c0, pm_c1, pm_c2, pm_c3, pm_c4, pm_c5, pm_b6, pm_b7, pm_b8, pm_b9, pm_b10, pm_b11, pm_b12, pm_b14, pm_b15, pm_b16, pm_b20, pm_b24, pm_b25, pm_b28, pm_b31, pm_b32, pm_b48, pm_b56, pm_b60, pm_b63, pm_b64, pm_b67, pm_b68, pm_b89, pm_b90, pm_b95, pm_b100, pm_b120, pm_b127, pm_h128, pm_h150, pm_h168, pm_h255, pm_h256, pm_h360, pm_h369, pm_h450, pm_h4096, pm_h8192, pm_h32767, pm_h4643, pm_h13363, pm_h20579, pm_h25843, pm_h29227, pm_h31145, pm_h32103, pm_h32525, pm_h32689, pm_h32745, pm_h32762, pm_h32766, pm_o, pm_ldi, pm_ldl, pm_lda, pm_sti, pm_stl, pm_sta, pm_lk, pm_f1, pm_f2, Value.category, lv_args, Option.bind_some, Option.map_some, if_true, if_false, ite_true, ite_false, Nat.reduceAdd, Nat.reduceSub, Nat.reduceMul, Nat.reduceDiv, Nat.reduceMod, Nat.reduceLT, Nat.reduceLeDiff, Nat.reduceEqDiff, reduceIte, reduceCtorEq, Int.reduceNatCast, Int.reduceNatCast', Int.reduceAdd, Int.reduceLE, Int.reduceLT, Int.reduceToNat, Int.reduceNeg, Int.reduceSub, Nat.add_sub_cancel_left, va_up_g, Int.ofNat_eq_natCast, List.getElem?_cons_zero, List.getElem?_cons_succ, List.set_cons_zero, List.set_cons_succ, List.length_cons, List.length_nil, Nat.zero_add, va_rf, nI_add, pk_mul, Int.toNat_natCast, pm_ix_nI, Option.toList_none, Option.toList_some, List.nil_append, List.cons_append, pq_ial, pq_lal, pq_aal0, pq_aal1, pq_ias, F_M, K_M, d_M_takeSumWithProduct_3, d_M_takeSumWithProduct_5, d_M_takeSumWithProduct_6, d_M_takeSumWithProduct_9, d_M_takeSumWithProduct_12, d_M_takeSumWithProduct_13, h1, a0]; exact rfl) ?_
    refine pm_G.sub (by simp) (lj_tsp hR hC hK hq hw hB hL hM n1 n2 n3 n4 n5 n6 (i := i) (by omega) X ?_ Cl 0 (by omega))
    refine pm_G.wd (w' := va_up w (q + 1) (ma_ tc (Rw * Cl) (tm_ B L M r y Kk Cl ((i + 1) * Cl)))) (by rw [Nat.succ_mul]) ?_
    refine pm_v_ok (cx_X X X_M) 2 _ _ _ _ (by simp -implicitDefEqProofs only [pv_0, pv_s, pd_iconst, pd_bipush, pd_sipush, pd_lconst_0, pd_lconst_1, pd_ldc, pd_ldc2, pd_iload_0, pd_iload_1, pd_iload_2, pd_iload_3, pd_iload, pd_lload_0, pd_lload_1, pd_lload_2, pd_lload_3, pd_lload, pd_aload_0, pd_aload_1, pd_aload_2, pd_aload_3, pd_aload, pd_istore_0, pd_istore_1, pd_istore_2, pd_istore_3, pd_istore, pd_lstore_0, pd_lstore_1, pd_lstore_2, pd_lstore_3, pd_lstore, pd_astore_0, pd_astore_1, pd_astore_2, pd_astore_3, pd_astore, pd_iinc, pd_iadd, pd_isub, pd_imul, pd_iand, pd_ior, pd_ixor, pd_ishl, pd_ishr, pd_iushr, pd_idiv, pd_irem, pd_ineg, pd_ladd, pd_lsub, pd_lmul, pd_land, pd_lor, pd_lxor, pd_lshl, pd_lushr, pd_lcmp, pd_i2l, pd_l2i, pd_dup_int, pd_pop_int, pd_dup_ref, pd_pop_ref, pd_dup_x1_ir, pd_dup_x1_ii, pd_dup2_ir, pd_dup2_ii, pd_goto, pd_if_eq, pd_if_ne, pd_if_lt, pd_if_ge, pd_if_gt, pd_if_le, pd_icmp_eq, pd_icmp_ne, pd_icmp_lt, pd_icmp_ge, pd_icmp_gt, pd_icmp_le, pd_iaload, pd_baload, pd_laload, pd_aaload, pd_iastore, pd_bastore, pd_lastore, pd_alen, pd_getfield, pd_putfield, ph_las, ph_len0, ph_len1, ph_len2, ph_gf, ph_pfi, ph_pfl, ph_pfz0, ph_pfz1, ph_nz0, ph_nz1, pm_cm1, pm_c0, pm_c1, pm_c2, pm_c3, pm_c4, pm_c5, pm_b6, pm_b7, pm_b8, pm_b9, pm_b10, pm_b11, pm_b12, pm_b14, pm_b15, pm_b16, pm_b20, pm_b24, pm_b25, pm_b28, pm_b31, pm_b32, pm_b48, pm_b56, pm_b60, pm_b63, pm_b64, pm_b67, pm_b68, pm_b89, pm_b90, pm_b95, pm_b100, pm_b120, pm_b127, pm_h128, pm_h150, pm_h168, pm_h255, pm_h256, pm_h360, pm_h369, pm_h450, pm_h4096, pm_h8192, pm_h32767, pm_h4643, pm_h13363, pm_h20579, pm_h25843, pm_h29227, pm_h31145, pm_h32103, pm_h32525, pm_h32689, pm_h32745, pm_h32762, pm_h32766, pm_o, pm_ldi, pm_ldl, pm_lda, pm_sti, pm_stl, pm_sta, pm_lk, pm_f1, pm_f2, Value.category, lv_args, Option.bind_some, Option.map_some, if_true, if_false, ite_true, ite_false, Nat.reduceAdd, Nat.reduceSub, Nat.reduceMul, Nat.reduceDiv, Nat.reduceMod, Nat.reduceLT, Nat.reduceLeDiff, Nat.reduceEqDiff, reduceIte, reduceCtorEq, Int.reduceNatCast, Int.reduceNatCast', Int.reduceAdd, Int.reduceLE, Int.reduceLT, Int.reduceToNat, Int.reduceNeg, Int.reduceSub, Nat.add_sub_cancel_left, va_up_g, Int.ofNat_eq_natCast, List.getElem?_cons_zero, List.getElem?_cons_succ, List.set_cons_zero, List.set_cons_succ, List.length_cons, List.length_nil, Nat.zero_add, va_rf, nI_add, pk_mul, Int.toNat_natCast, pm_ix_nI, Option.toList_none, Option.toList_some, List.nil_append, List.cons_append, pq_ial, pq_lal, pq_aal0, pq_aal1, pq_ias, F_M, K_M, d_M_takeSumWithProduct_95, d_M_takeSumWithProduct_98]; exact rfl) ?_
    exact pm_G.sub (by simp) (ih (i + 1) (by omega))
set_option maxHeartbeats 4000000 in
theorem m_M_tsp (hR : Rw ≤ 8) (hC : Cl ≤ 8) (hK : Kk ≤ 8) (hA : mt_ tc sz w q Rw Cl r) (hB : mt_ tc sz w q1 Rw Cl B) (hL : mt_ tc sz w q2 Rw Kk L) (hM : mt_ tc sz w q3 Kk Cl M) (n1 : q1 ≠ q + 1) (n2 : q1 ≠ q) (n3 : q2 ≠ q + 1) (n4 : q2 ≠ q) (n5 : q3 ≠ q + 1) (n6 : q3 ≠ q) : mm_ l y_M_takeSumWithProduct c_M_takeSumWithProduct 9 none (rm_ 1) D tc sz tk [.ref (sz + q), .ref (sz + q1), .int y, .ref (sz + q2), .ref (sz + q3)] hz 91 (w) hz 91 (fun v w1 => v = none ∧ w1 = va_up w (q + 1) (ma_ tc (Rw * Cl) (tm_ B L M r y Kk Cl (Rw * Cl)))) := by
  refine mm_of (by decide) (Nat.le_of_ble_eq_true rfl) ?_
  intro p e s m args below meth c X hr hk hnm
  obtain ⟨hq, hw, hw1⟩ := hA
  refine pm_v_ok (cx_X X X_M) 2 _ _ _ _ (by simp -implicitDefEqProofs only [pv_0, pv_s, pd_iconst, pd_bipush, pd_sipush, pd_lconst_0, pd_lconst_1, pd_ldc, pd_ldc2, pd_iload_0, pd_iload_1, pd_iload_2, pd_iload_3, pd_iload, pd_lload_0, pd_lload_1, pd_lload_2, pd_lload_3, pd_lload, pd_aload_0, pd_aload_1, pd_aload_2, pd_aload_3, pd_aload, pd_istore_0, pd_istore_1, pd_istore_2, pd_istore_3, pd_istore, pd_lstore_0, pd_lstore_1, pd_lstore_2, pd_lstore_3, pd_lstore, pd_astore_0, pd_astore_1, pd_astore_2, pd_astore_3, pd_astore, pd_iinc, pd_iadd, pd_isub, pd_imul, pd_iand, pd_ior, pd_ixor, pd_ishl, pd_ishr, pd_iushr, pd_idiv, pd_irem, pd_ineg, pd_ladd, pd_lsub, pd_lmul, pd_land, pd_lor, pd_lxor, pd_lshl, pd_lushr, pd_lcmp, pd_i2l, pd_l2i, pd_dup_int, pd_pop_int, pd_dup_ref, pd_pop_ref, pd_dup_x1_ir, pd_dup_x1_ii, pd_dup2_ir, pd_dup2_ii, pd_goto, pd_if_eq, pd_if_ne, pd_if_lt, pd_if_ge, pd_if_gt, pd_if_le, pd_icmp_eq, pd_icmp_ne, pd_icmp_lt, pd_icmp_ge, pd_icmp_gt, pd_icmp_le, pd_iaload, pd_baload, pd_laload, pd_aaload, pd_iastore, pd_bastore, pd_lastore, pd_alen, pd_getfield, pd_putfield, ph_las, ph_len0, ph_len1, ph_len2, ph_gf, ph_pfi, ph_pfl, ph_pfz0, ph_pfz1, ph_nz0, ph_nz1, pm_cm1, pm_c0, pm_c1, pm_c2, pm_c3, pm_c4, pm_c5, pm_b6, pm_b7, pm_b8, pm_b9, pm_b10, pm_b11, pm_b12, pm_b14, pm_b15, pm_b16, pm_b20, pm_b24, pm_b25, pm_b28, pm_b31, pm_b32, pm_b48, pm_b56, pm_b60, pm_b63, pm_b64, pm_b67, pm_b68, pm_b89, pm_b90, pm_b95, pm_b100, pm_b120, pm_b127, pm_h128, pm_h150, pm_h168, pm_h255, pm_h256, pm_h360, pm_h369, pm_h450, pm_h4096, pm_h8192, pm_h32767, pm_h4643, pm_h13363, pm_h20579, pm_h25843, pm_h29227, pm_h31145, pm_h32103, pm_h32525, pm_h32689, pm_h32745, pm_h32762, pm_h32766, pm_o, pm_ldi, pm_ldl, pm_lda, pm_sti, pm_stl, pm_sta, pm_lk, pm_f1, pm_f2, Value.category, lv_args, Option.bind_some, Option.map_some, if_true, if_false, ite_true, ite_false, Nat.reduceAdd, Nat.reduceSub, Nat.reduceMul, Nat.reduceDiv, Nat.reduceMod, Nat.reduceLT, Nat.reduceLeDiff, Nat.reduceEqDiff, reduceIte, reduceCtorEq, Int.reduceNatCast, Int.reduceNatCast', Int.reduceAdd, Int.reduceLE, Int.reduceLT, Int.reduceToNat, Int.reduceNeg, Int.reduceSub, pm_at_add, Nat.add_sub_cancel_left, va_up_g, Int.ofNat_eq_natCast, List.getElem?_cons_zero, List.getElem?_cons_succ, List.set_cons_zero, List.set_cons_succ, List.length_cons, List.length_nil, Nat.zero_add, va_rf, nI_add, pk_mul, Int.toNat_natCast, pm_ix_nI, Option.toList_none, Option.toList_some, List.nil_append, List.cons_append, pq_ial, pq_lal, pq_aal0, pq_aal1, pq_ias, F_M, K_M, d_M_takeSumWithProduct_0, d_M_takeSumWithProduct_1]; exact rfl) ?_
  have e0 : w = va_up w (q + 1) (ma_ tc (Rw * Cl) (tm_ B L M r y Kk Cl (0 * Cl))) := by
    funext k
    by_cases hk : k = q + 1
    · subst hk
      rw [va_up_g, if_pos rfl, hw1, Nat.zero_mul, tm_0]
    · rw [va_up_g, if_neg hk]
  refine pm_G.wd e0 (pm_G.sub (by simp) (li_tsp hR hC hK hq hw hB hL hM n1 n2 n3 n4 n5 n6 X ?_ Rw 0 (by omega)))
  exact mr_v X hr hk d_M_takeSumWithProduct_101 (Nat.le_refl _) (Nat.le_refl _) ⟨rfl, rfl⟩
end M7
end
