section LR
variable {p : Program} {l : Launch} {e : Env} {R : Room} {s : State} {m : MethodId} {args : Array Value} {below : List Frame} {meth : Method} {c : Code} {Q : State → Prop} {cells slots mc ms : Nat}
variable {cc : ByteArray} {own : String} {D : va_G} {tc : Nat → ClassId} {sz nL n pc : Nat} {hz : Option Nat} {w w2 : Nat → va_E} {lv : List (Nat × Value)} {st : List Value} {tk : Nat → Nat} {post : Option Value → (Nat → va_E) → Prop}
def sx_ok (sz : Nat) (s : State) (b L : Nat) (xs : Nat → Int32) : Prop := va_X b L xs s s.heap ∧ b < s.heap.size ∧ ¬ sz ≤ b ∧ L < 100000
theorem mm_sl {b L k : Nat} {xs : Nat → Int32} (X : cx_ p s m args c cc nL own D tc sz tk) (hX : sx_ok sz s b L xs) (hk : k < L) (hd : decode cc pc = .ok (.iaload, 1))
    (kk : pm_G p l e R s m args below meth c Q D cl_ sz nL hz n cells slots w (pc + 1) lv (.int (xs k) :: st)) : pm_G p l e R s m args below meth c Q D cl_ sz nL hz n cells slots w pc lv (.int (nI k) :: .ref b :: st) := by
  obtain ⟨⟨c0, S⟩, hK, hsz, hSt⟩ := X
  obtain ⟨h1, h2, h3, h4⟩ := hX
  intro H locs ls hl hP hS hh
  refine va_sld S.1 S.2.1 h1 h2 h3 hS (nI_in hk (by omega)) hd ?_
  rw [nI_clamp (by omega)]
  exact kk H locs ls hl hP hS hh
theorem mm_slen {b L : Nat} {xs : Nat → Int32} (X : cx_ p s m args c cc nL own D tc sz tk) (hX : sx_ok sz s b L xs) (hd : decode cc pc = .ok (.arraylength, 1))
    (kk : pm_G p l e R s m args below meth c Q D cl_ sz nL hz n cells slots w (pc + 1) lv (.int (nI L) :: st)) : pm_G p l e R s m args below meth c Q D cl_ sz nL hz n cells slots w pc lv (.ref b :: st) := by
  obtain ⟨⟨c0, S⟩, hK, hsz, hSt⟩ := X
  obtain ⟨h1, h2, h3, h4⟩ := hX
  intro H locs ls hl hP hS hh
  exact va_slen S.1 S.2.1 h1 h2 h3 hS hd (kk H locs ls hl hP hS hh)
def cq_ (y : MethodName) (b : ByteArray) (maxL : Nat) (ret : Option FieldType) (hh : List (Nat × Nat × Nat × Nat)) (na : Nat) : Prop := Cond.static y ∈ gw_ ∧ Cond.initialized y.cls ∈ gw_ ∧ Cond.codeWith y b maxL ret hh ∈ gw_ ∧ y.cls ≠ "java/lang/invoke/MethodHandle" ∧ y.cls ≠ "java/lang/invoke/VarHandle" ∧ (parseMethodDescriptor y.desc).map (fun d => d.parameters.length) = some na
theorem wm_S {y : MethodName} {b : ByteArray} {maxL : Nat} {ret : Option FieldType} {hh : List (Nat × Nat × Nat × Nat)} {rm : Room} {As rest : List Value} {na index : Nat}
    (X : cx_ p s m args c cc nL own D tc sz tk) (hM : wm_ l y b maxL ret hh rm D tc sz tk As n w post) (hc : cq_ y b maxL ret hh na) (hlk : Cond.methodLink own index y ∈ gw_)
    (hn : As.length = na) (hs0 : st = As.reverse ++ rest) (hcat : (rest.map fun v => v.category).sum ≤ 8) (hd : decode cc pc = .ok (.invokestatic index, 3))
    (hR : rm.frames + 1 ≤ R.frames ∧ 8 + (maxL + 11) + rm.locals ≤ R.locals) (hf : cells + rm.cells ≤ R.cells ∧ slots + rm.slots ≤ R.slots)
    (kk : ∀ (v : Option Value) (w' : Nat → va_E), post v w' → pm_G p l e R s m args below meth c Q D cl_ sz nL none n (cells + rm.cells) (slots + rm.slots) w' (pc + 3) lv (v.toList ++ rest)) : pm_G p l e R s m args below meth c Q D cl_ sz nL none n cells slots w pc lv st := by
  obtain ⟨⟨c0, S⟩, hK, hsz, hSt⟩ := X
  obtain ⟨q1, q3, q4, q5, q6, q7⟩ := hc
  have hts : ∀ w ∈ gw_, w.before args s = true := fun w h => S.2.2.2.2 w (List.mem_cons_of_mem _ h)
  refine pm_call (a := As.toArray) (rest := rest) (fun H locs ls hls hP hS hh => ?_) kk
  exact vx_runSW (As := As) S hM ⟨⟨rfl, rfl, hR.1, hR.2, pay_in S.2.2.2.2 (gi_ q4), List.mem_cons_self⟩, hts _ q4, hts _ q3, ⟨q5, q6⟩, fun sig h => by rw [h] at q7; exact (Option.some.inj q7).symm, hts _ hlk, hts _ q1⟩
    ⟨pm_blind (St_stb sz tk), pm_pre (St_stb sz tk) hK hsz hSt hP hS hh⟩ rfl hn hls hs0 (lv_room hcat) hd hf
theorem bq_make : cq_ y_Q_make c_Q_make 10 (some .int) [((0 : Nat), (14 : Nat), (17 : Nat), (13 : Nat))] 6 := ⟨gm_ 188 (by decide +kernel) (by decide +kernel), gm_ 25 (by decide +kernel) (by decide +kernel), gm_ 189 (by decide +kernel) (by decide +kernel), by decide +kernel, by decide +kernel, by decide +kernel⟩
theorem bq_wrap : cq_ y_Q_wrap c_Q_wrap 6 (some .int) [((0 : Nat), (11 : Nat), (14 : Nat), (13 : Nat)), ((0 : Nat), (11 : Nat), (18 : Nat), (19 : Nat))] 5 := ⟨gm_ 371 (by decide +kernel) (by decide +kernel), gm_ 25 (by decide +kernel) (by decide +kernel), gm_ 372 (by decide +kernel) (by decide +kernel), by decide +kernel, by decide +kernel, by decide +kernel⟩
theorem bq_unwrap : cq_ y_Q_unwrap c_Q_unwrap 5 (some .int) [((0 : Nat), (9 : Nat), (12 : Nat), (13 : Nat)), ((0 : Nat), (9 : Nat), (16 : Nat), (19 : Nat))] 4 := ⟨gm_ 425 (by decide +kernel) (by decide +kernel), gm_ 25 (by decide +kernel) (by decide +kernel), gm_ 426 (by decide +kernel) (by decide +kernel), by decide +kernel, by decide +kernel, by decide +kernel⟩
theorem bq_change : cq_ y_Q_change c_Q_change 6 (some .int) [((0 : Nat), (12 : Nat), (15 : Nat), (13 : Nat)), ((0 : Nat), (12 : Nat), (19 : Nat), (19 : Nat)), ((0 : Nat), (12 : Nat), (23 : Nat), (29 : Nat))] 5 := ⟨gm_ 457 (by decide +kernel) (by decide +kernel), gm_ 25 (by decide +kernel) (by decide +kernel), gm_ 458 (by decide +kernel) (by decide +kernel), by decide +kernel, by decide +kernel, by decide +kernel⟩
theorem bq_copy : cq_ y_Q_copy c_Q_copy 4 (some .int) [((0 : Nat), (6 : Nat), (9 : Nat), (13 : Nat)), ((0 : Nat), (6 : Nat), (12 : Nat), (19 : Nat))] 3 := ⟨gm_ 488 (by decide +kernel) (by decide +kernel), gm_ 25 (by decide +kernel) (by decide +kernel), gm_ 489 (by decide +kernel) (by decide +kernel), by decide +kernel, by decide +kernel, by decide +kernel⟩
theorem bq_forget : cq_ y_Q_forget c_Q_forget 5 (some .int) [((0 : Nat), (17 : Nat), (20 : Nat), (13 : Nat))] 4 := ⟨gm_ 498 (by decide +kernel) (by decide +kernel), gm_ 25 (by decide +kernel) (by decide +kernel), gm_ 499 (by decide +kernel) (by decide +kernel), by decide +kernel, by decide +kernel, by decide +kernel⟩
theorem bq_wrapByte : cq_ y_Q_wrapByte c_Q_wrapByte 5 (some .int) [((0 : Nat), (10 : Nat), (13 : Nat), (13 : Nat)), ((0 : Nat), (10 : Nat), (17 : Nat), (19 : Nat)), ((0 : Nat), (10 : Nat), (21 : Nat), (29 : Nat))] 4 := ⟨gm_ 505 (by decide +kernel) (by decide +kernel), gm_ 25 (by decide +kernel) (by decide +kernel), gm_ 506 (by decide +kernel) (by decide +kernel), by decide +kernel, by decide +kernel, by decide +kernel⟩
theorem bq_publicByte : cq_ y_Q_publicByte c_Q_publicByte 5 (some .int) [((0 : Nat), (10 : Nat), (13 : Nat), (13 : Nat)), ((0 : Nat), (10 : Nat), (17 : Nat), (19 : Nat)), ((0 : Nat), (10 : Nat), (21 : Nat), (29 : Nat))] 4 := ⟨gm_ 512 (by decide +kernel) (by decide +kernel), gm_ 25 (by decide +kernel) (by decide +kernel), gm_ 513 (by decide +kernel) (by decide +kernel), by decide +kernel, by decide +kernel, by decide +kernel⟩
theorem bq_entry : cq_ y_Q_entry c_Q_entry 7 (some .int) [((0 : Nat), (14 : Nat), (17 : Nat), (13 : Nat)), ((0 : Nat), (14 : Nat), (21 : Nat), (19 : Nat)), ((0 : Nat), (14 : Nat), (25 : Nat), (29 : Nat))] 6 := ⟨gm_ 519 (by decide +kernel) (by decide +kernel), gm_ 25 (by decide +kernel) (by decide +kernel), gm_ 520 (by decide +kernel) (by decide +kernel), by decide +kernel, by decide +kernel, by decide +kernel⟩
theorem bq_noise : cq_ y_Q_noise c_Q_noise 7 (some .int) [((0 : Nat), (14 : Nat), (17 : Nat), (13 : Nat)), ((0 : Nat), (14 : Nat), (21 : Nat), (19 : Nat)), ((0 : Nat), (14 : Nat), (25 : Nat), (29 : Nat))] 6 := ⟨gm_ 539 (by decide +kernel) (by decide +kernel), gm_ 25 (by decide +kernel) (by decide +kernel), gm_ 540 (by decide +kernel) (by decide +kernel), by decide +kernel, by decide +kernel, by decide +kernel⟩
theorem bq_read : cq_ y_Q_read c_Q_read 5 (some .int) [((0 : Nat), (10 : Nat), (13 : Nat), (13 : Nat)), ((0 : Nat), (10 : Nat), (17 : Nat), (19 : Nat))] 4 := ⟨gm_ 551 (by decide +kernel) (by decide +kernel), gm_ 25 (by decide +kernel) (by decide +kernel), gm_ 552 (by decide +kernel) (by decide +kernel), by decide +kernel, by decide +kernel, by decide +kernel⟩
theorem bq_shake : cq_ y_Q_shake c_Q_shake 6 (some .int) [((0 : Nat), (10 : Nat), (13 : Nat), (13 : Nat))] 4 := ⟨gm_ 559 (by decide +kernel) (by decide +kernel), gm_ 25 (by decide +kernel) (by decide +kernel), gm_ 560 (by decide +kernel) (by decide +kernel), by decide +kernel, by decide +kernel, by decide +kernel⟩
end LR
