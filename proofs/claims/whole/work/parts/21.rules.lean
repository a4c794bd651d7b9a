section RU
def sb_ (j : Nat) : Int32 := ([4643, 13363, 20579, 25843, 29227, 31145, 32103, 32525, 32689, 32745, 32762, 32766] : List Int32).getD j 0
def go_ (j : Nat) : Nat := ([0, 10, 20, 5, 15, 16, 1, 11, 21, 6, 7, 17, 2, 12, 22, 23, 8, 18, 3, 13, 14, 24, 9, 19, 4] : List Nat).getD j 0
def tn_ (j : Nat) : Nat := ([0, 1, 62, 28, 27, 36, 44, 6, 55, 20, 3, 10, 43, 25, 39, 41, 45, 15, 21, 8, 18, 2, 61, 56, 14] : List Nat).getD j 0
def rb_ (j : Nat) : Int64 := ([0x0000000000000001, 0x0000000000008082, -9223372036854742902, -9223372034707259392, 0x000000000000808B, 0x0000000080000001, -9223372034707259263, -9223372036854743031, 0x000000000000008A, 0x0000000000000088, 0x0000000080008009, 0x000000008000000A, 0x000000008000808B, -9223372036854775669, -9223372036854742903, -9223372036854743037, -9223372036854743038, -9223372036854775680, 0x000000000000800A, -9223372034707292150, -9223372034707259263, -9223372036854742912, 0x0000000080000001, -9223372034707259384] : List Int64).getD j 0
def St_ (sz : Nat) (tk : Nat → Nat) (U : State) : Prop :=
  (∀ w ∈ nw_, va_Nw w U) ∧
  (va_Z R_L "SAMPLE_BOUNDS" "[I" (.ref (tk 0)) (fun q => sz ≤ q) U U.heap ∧ va_T .int (tk 0) 12 (fun j => .int (sb_ j)) (fun q => sz ≤ q) U U.heap) ∧
  (va_Z R_L "LANE_GOES_TO" "[I" (.ref (tk 1)) (fun q => sz ≤ q) U U.heap ∧ va_T .int (tk 1) 25 (fun j => .int (nI (go_ j))) (fun q => sz ≤ q) U U.heap) ∧
  (va_Z R_L "LANE_TURNS" "[I" (.ref (tk 2)) (fun q => sz ≤ q) U U.heap ∧ va_T .int (tk 2) 25 (fun j => .int (nI (tn_ j))) (fun q => sz ≤ q) U U.heap) ∧
  (va_Z R_L "ROUND_BITS" "[J" (.ref (tk 3)) (fun q => sz ≤ q) U U.heap ∧ va_T .long (tk 3) 24 (fun j => .long (rb_ j)) (fun q => sz ≤ q) U U.heap) ∧
  (vx_Zq Bundle.tN "UNASSIGNED_STACK" Bundle.steD (fun q => sz ≤ q) U U.heap ∧ vx_Zq Bundle.tN "SUPPRESSED_SENTINEL" Bundle.listD (fun q => sz ≤ q) U U.heap) ∧
  (vk_R R_L 139 "there is no such place" (tk 4) U ∧ vk_R R_L 144 "there is no such matrix" (tk 5) U ∧ vk_R R_L 146 "a long has 0 to 8 bytes" (tk 6) U ∧ vk_R R_L 150 "the place is empty" (tk 7) U ∧ vk_R R_L 155 "there is no such byte or entry" (tk 8) U) ∧
  (va_Nc "java/util/NoSuchElementException" "java/lang/IllegalArgumentException" U ∧ va_Nc "java/lang/IndexOutOfBoundsException" "java/lang/IllegalArgumentException" U ∧ va_Nc "java/lang/IndexOutOfBoundsException" "java/util/NoSuchElementException" U)
theorem nw_warm {s U : State} (hW : s.WarmedH U.vm) (h : ∀ w ∈ nw_, va_Nw w s) : ∀ w ∈ nw_, va_Nw w U := by
  intro w hw
  have h0 := h w hw
  simp only [nw_, List.mem_cons, List.not_mem_nil, or_false] at hw
  rcases hw with rfl | rfl | rfl | rfl | rfl | rfl | rfl | rfl | rfl | rfl | rfl | rfl | rfl | rfl | rfl | rfl | rfl | rfl | rfl | rfl | rfl | rfl | rfl | rfl | rfl | rfl | rfl | rfl | rfl <;> first | exact va_Nw.warmF hW h0 | exact va_Nw.warmM hW h0 | exact va_Nw.warmD hW h0 | exact va_Nw.warmC hW h0
theorem St_stb (sz : Nat) (tk : Nat → Nat) : pm_stb sz (St_ sz tk) := by
  intro U V hW hz hk h
  obtain ⟨h0, ⟨a1, a2⟩, ⟨b1, b2⟩, ⟨c1, c2⟩, ⟨d1, d2⟩, ⟨e1, e2⟩, ⟨f1, f2, f3, f4, f5⟩, n1, n2, n3⟩ := h
  have ha := hW.alike
  have hk' : ∀ a : Nat, a < U.heap.size → ¬ (fun q => sz ≤ q) a → V.heap[a]? = U.heap[a]? := hk
  exact ⟨nw_warm hW h0, ⟨(va_Z.moved ha a1).kept hk', (va_T.moved ha a2).kept hk'⟩, ⟨(va_Z.moved ha b1).kept hk', (va_T.moved ha b2).kept hk'⟩, ⟨(va_Z.moved ha c1).kept hk', (va_T.moved ha c2).kept hk'⟩, ⟨(va_Z.moved ha d1).kept hk', (va_T.moved ha d2).kept hk'⟩, ⟨(vx_Zq.moved ha e1).kept hk', (vx_Zq.moved ha e2).kept hk'⟩, ⟨f1.warm hW, f2.warm hW, f3.warm hW, f4.warm hW, f5.warm hW⟩, va_Nc.moved ha n1, va_Nc.moved ha n2, va_Nc.moved ha n3⟩
end RU
section RC
variable {p : Program} {l : Launch} {e : Env} {R : Room} {s : State} {m : MethodId} {args : Array Value} {below : List Frame} {meth : Method} {c : Code} {Q : State → Prop} {cells slots : Nat}
variable {cc : ByteArray} {own : String} {D : va_G} {tc : Nat → ClassId} {sz nL n pc : Nat} {hz : Option Nat} {w : Nat → va_E} {lv : List (Nat × Value)} {st : List Value} {tk : Nat → Nat}
def mm_ (l : Launch) (y : MethodName) (b : ByteArray) (maxL : Nat) (ret : Option FieldType) (rm : Room) (D : va_G) (tc : Nat → ClassId) (sz : Nat) (tk : Nat → Nat) (As : List Value) (hz : Option Nat) (n : Nat) (w : Nat → va_E) (hz' : Option Nat) (n' : Nat) (post : Option Value → (Nat → va_E) → Prop) : Prop :=
  pm_M l y (.code y b maxL ret :: gw_) rm D cl_ tc sz (St_ sz tk) As hz n w hz' n' post
def cx_ (p : Program) (s : State) (m : MethodId) (args : Array Value) (c : Code) (cc : ByteArray) (nL : Nat) (own : String) (D : va_G) (tc : Nat → ClassId) (sz : Nat) (tk : Nat → Nat) : Prop :=
  (∃ c0 : Cond, CallFix p m c cc nL s args (c0 :: gw_) own) ∧ va_K D cl_ (pm_T tc) s ∧ sz ≤ s.heap.size ∧ St_ sz tk s
theorem cx_X {F : pm_FT} {K : Nat → Option Value} (h : cx_ p s m args c cc nL own D tc sz tk) (hX : ∀ {c0 : Cond}, CallFix p m c cc nL s args (c0 :: gw_) own → va_K D cl_ (pm_T tc) s → (∀ w ∈ nw_, va_Nw w s) → pm_X p s m args c cc own D cl_ tc F K) : pm_X p s m args c cc own D cl_ tc F K := by
  obtain ⟨⟨c0, h1⟩, h2, h3, h4⟩ := h
  exact hX h1 h2 h4.1
theorem mm_of {y : MethodName} {b : ByteArray} {maxL : Nat} {ret : Option FieldType} {rm : Room} {As : List Value} {hz' : Option Nat} {n' : Nat} {post : Option Value → (Nat → va_E) → Prop} (hy : plainName y.cls = true) (hA : (lg_sl As).length ≤ maxL)
    (body : ∀ p e s m args below meth c, cx_ p s m args c b maxL y.cls D tc sz tk → meth.sig.returnType = ret → meth.locks = false → (s.methodNamed? y = some m ∧ s.vm.method? m = some meth) →
      pm_G p l e rm s m args below meth c (MQ below (pm_Q D cl_ sz hz' n' post) args s rm.cells rm.slots (fun q => sz ≤ q)) D cl_ sz maxL hz n 0 0 w 0 (lv_args 0 As) []) :
    mm_ l y b maxL ret rm D tc sz tk As hz n w hz' n' post :=
  pm_ofG hy rfl hA (fun p e s m args below meth c h1 h2 h3 h4 h5 h6 h7 => body p e s m args below meth c ⟨⟨_, h1⟩, h5, h6, h7⟩ h2 h3 h4)
theorem mm_V {y : MethodName} {b : ByteArray} {maxL : Nat} {ret : Option FieldType} {rm : Room} {As rest : List Value} {hz' : Option Nat} {n' k na index ci N : Nat} {fs : List Value} {C : String} {T : u_T} {post : Option Value → (Nat → va_E) → Prop}
    (X : cx_ p s m args c cc nL own D tc sz tk) (hM : mm_ l y b maxL ret rm D tc sz tk (.ref (sz + k) :: As) hz n w hz' n' post) (hc : cv_ C y b maxL ret na) (hlk : Cond.methodLink own index y ∈ gw_)
    (hk : k < n) (hw : w k = .inr (ci, fs)) (hcl : cl_[ci]? = some (C, T, N)) (hn : As.length = na) (hs0 : st = As.reverse ++ .ref (sz + k) :: rest) (hcat : (rest.map fun v => v.category).sum ≤ 8) (hd : decode cc pc = .ok (.invokevirtual index, 3))
    (hR : rm.frames + 1 ≤ R.frames ∧ 8 + (maxL + 11) + rm.locals ≤ R.locals) (hf : cells + rm.cells ≤ R.cells ∧ slots + rm.slots ≤ R.slots)
    (kk : ∀ (v : Option Value) (w' : Nat → va_E), post v w' → pm_G p l e R s m args below meth c Q D cl_ sz nL hz' n' (cells + rm.cells) (slots + rm.slots) w' (pc + 3) lv (v.toList ++ rest)) : pm_G p l e R s m args below meth c Q D cl_ sz nL hz n cells slots w pc lv st := by
  obtain ⟨⟨c0, S⟩, hK, hsz, hSt⟩ := X
  obtain ⟨q1, q2, q3, q4, q5, q6, q7⟩ := hc
  have hts : ∀ w ∈ gw_, w.before args s = true := fun w h => S.2.2.2.2 w (List.mem_cons_of_mem _ h)
  refine pm_call (a := (Value.ref (sz + k) :: As).toArray) (rest := rest) (fun H locs ls hls hP hS hh => ?_) kk
  have hg : (pm_L sz n w)[k]? = some (sz + k, .inr (ci, fs)) := by rw [pm_L_get hk, hw]
  exact va_runV (C := C) (b := sz + k) (As := As) S hM ⟨callB_of na S.2.2.2.2 (gi_ q4) rfl rfl rfl (hts _ q3) (hts _ hlk) ⟨q5, q6, q7⟩ hR, hts _ q1, hts _ q2⟩
    ⟨pm_blind (St_stb sz tk), va_recv hK hP hcl hg, pm_pre (St_stb sz tk) hK hsz hSt hP hS hh⟩ rfl hn hls hs0 (lv_room hcat) hd hf
theorem mm_S {y : MethodName} {b : ByteArray} {maxL : Nat} {ret : Option FieldType} {rm : Room} {As rest : List Value} {hz' : Option Nat} {n' na index : Nat} {post : Option Value → (Nat → va_E) → Prop}
    (X : cx_ p s m args c cc nL own D tc sz tk) (hM : mm_ l y b maxL ret rm D tc sz tk As hz n w hz' n' post) (hc : cs_ y b maxL ret na) (hlk : Cond.methodLink own index y ∈ gw_)
    (hn : As.length = na) (hs0 : st = As.reverse ++ rest) (hcat : (rest.map fun v => v.category).sum ≤ 8) (hd : decode cc pc = .ok (.invokestatic index, 3))
    (hR : rm.frames + 1 ≤ R.frames ∧ 8 + (maxL + 11) + rm.locals ≤ R.locals) (hf : cells + rm.cells ≤ R.cells ∧ slots + rm.slots ≤ R.slots)
    (kk : ∀ (v : Option Value) (w' : Nat → va_E), post v w' → pm_G p l e R s m args below meth c Q D cl_ sz nL hz' n' (cells + rm.cells) (slots + rm.slots) w' (pc + 3) lv (v.toList ++ rest)) : pm_G p l e R s m args below meth c Q D cl_ sz nL hz n cells slots w pc lv st := by
  obtain ⟨⟨c0, S⟩, hK, hsz, hSt⟩ := X
  obtain ⟨q1, q3, q4, q5, q6, q7⟩ := hc
  have hts : ∀ w ∈ gw_, w.before args s = true := fun w h => S.2.2.2.2 w (List.mem_cons_of_mem _ h)
  refine pm_call (a := As.toArray) (rest := rest) (fun H locs ls hls hP hS hh => ?_) kk
  exact va_runS (As := As) S hM ⟨callB_of na S.2.2.2.2 (gi_ q4) rfl rfl rfl (hts _ q3) (hts _ hlk) ⟨q5, q6, q7⟩ hR, hts _ q1⟩
    ⟨pm_blind (St_stb sz tk), pm_pre (St_stb sz tk) hK hsz hSt hP hS hh⟩ rfl hn hls hs0 (lv_room hcat) hd hf
theorem mm_gN {nm d : String} {v : Value} {index : Nat} {host : String} (X : cx_ p s m args c cc nL own D tc sz tk) (hZ : va_Z R_L nm d v (fun q => sz ≤ q) s s.heap) (hlk : Cond.fieldLinkNest own index R_L nm d host ∈ nw_) (hd : decode cc pc = .ok (.getstatic index, 3))
    (kk : pm_G p l e R s m args below meth c Q D cl_ sz nL hz n cells slots w (pc + 3) lv (v :: st)) : pm_G p l e R s m args below meth c Q D cl_ sz nL hz n cells slots w pc lv st := by
  obtain ⟨⟨c0, S⟩, hK, hsz, hSt⟩ := X
  intro H locs ls hl hP hS hh
  exact va_getsN S.1 S.2.1 hZ hS S.2.2.2.1 (va_Nw.use rfl (hSt.1 _ hlk)) (fun _ h => h) hd (kk H locs ls hl hP hS hh)
theorem mm_ti {t N k : Nat} {f : Nat → Value} {v : Value} (X : cx_ p s m args c cc nL own D tc sz tk) (hT : va_T .int t N f (fun q => sz ≤ q) s s.heap) (hk : k < N) (hN : N < 2 ^ 31) (hv : f k = v) (hd : decode cc pc = .ok (.iaload, 1))
    (kk : pm_G p l e R s m args below meth c Q D cl_ sz nL hz n cells slots w (pc + 1) lv (v :: st)) : pm_G p l e R s m args below meth c Q D cl_ sz nL hz n cells slots w pc lv (.int (nI k) :: .ref t :: st) := by
  obtain ⟨⟨c0, S⟩, hK, hsz, hSt⟩ := X
  intro H locs ls hl hP hS hh
  exact va_ti S.1 S.2.1 hT hS (nI_in hk hN) (by rw [nI_clamp (Nat.lt_trans hk hN)]; exact hv) hd (kk H locs ls hl hP hS hh)
theorem mm_tl {t N k : Nat} {f : Nat → Value} {v : Value} (X : cx_ p s m args c cc nL own D tc sz tk) (hT : va_T .long t N f (fun q => sz ≤ q) s s.heap) (hk : k < N) (hN : N < 2 ^ 31) (hv : f k = v) (hd : decode cc pc = .ok (.laload, 1))
    (kk : pm_G p l e R s m args below meth c Q D cl_ sz nL hz n cells slots w (pc + 1) lv (v :: st)) : pm_G p l e R s m args below meth c Q D cl_ sz nL hz n cells slots w pc lv (.int (nI k) :: .ref t :: st) := by
  obtain ⟨⟨c0, S⟩, hK, hsz, hSt⟩ := X
  intro H locs ls hl hP hS hh
  exact va_tl S.1 S.2.1 hT hS (nI_in hk hN) (by rw [nI_clamp (Nat.lt_trans hk hN)]; exact hv) hd (kk H locs ls hl hP hS hh)
theorem mm_tlen {ty : FieldType} {t N : Nat} {f : Nat → Value} (X : cx_ p s m args c cc nL own D tc sz tk) (hT : va_T ty t N f (fun q => sz ≤ q) s s.heap) (hd : decode cc pc = .ok (.arraylength, 1))
    (kk : pm_G p l e R s m args below meth c Q D cl_ sz nL hz n cells slots w (pc + 1) lv (.int (nI N) :: st)) : pm_G p l e R s m args below meth c Q D cl_ sz nL hz n cells slots w pc lv (.ref t :: st) := by
  obtain ⟨⟨c0, S⟩, hK, hsz, hSt⟩ := X
  intro H locs ls hl hP hS hh
  exact va_tlen S.1 S.2.1 hT hS rfl hd (kk H locs ls hl hP hS hh)
end RC
