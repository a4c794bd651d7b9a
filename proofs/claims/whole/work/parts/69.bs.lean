section BS
theorem bs_flat {a : Array Value} {s : State} (h : (Jvm.Cond.and given_1 narrow_1).before a s = true) : ∀ w ∈ flatC (Jvm.Cond.and given_1 narrow_1), w.before a s = true := flat_of_before _ h
theorem ao_s {s : State} {args : Array Value} {ty : FieldType} (h : (Cond.arrayClass ty).before args s = true) : ∃ cA : ClassId, ArrOfT s cA ty ∧ s.vm.findClass ("[" ++ ty.toString) = some cA := by
  obtain ⟨cA, kA, comp, h1, h2, h3⟩ := Cond.arrayClass_spec h
  exact ⟨cA, fun N z => ⟨(fun k h => by cases h), kA, h2, comp, h3⟩, h1⟩
theorem ao_o {s : State} {args : Array Value} {C : String} (h : (Cond.arrayOver (.object C)).before args s = true) : ∃ cA : ClassId, ArrOfT s cA (.object C) ∧ va_RA s cA (.object C) := by
  obtain ⟨comp, cA, kA, h1, -, h2, h3, h4⟩ := Cond.arrayOver_spec h
  exact ⟨cA, fun N z => ⟨(fun k h => by cases h), kA, h2, comp, h3⟩, kA, comp, h2, h3, h1, h4⟩
theorem bs_K {s : State} {args : Array Value} (hg : ∀ w ∈ gw_, w.before args s = true) (hts : ∀ w ∈ lw_tbl, w.before args s = true) : ∃ (D : va_G) (tc : Nat → ClassId), va_K D cl_ (pm_T tc) s := by
  have gi : ∀ i : Nat, ∀ w : Cond, lw_tbl[i]? = some w → w.before args s = true := fun i w h => hts w (List.mem_of_getElem? h)
  obtain ⟨cD, iD, kD⟩ := u_known (n := 8) hg u_D_in (gi 54 _ (by decide +kernel))
  obtain ⟨cK, iK, kK⟩ := u_known (n := 8) hg u_K_in (gi 123 _ (by decide +kernel))
  obtain ⟨cM, iM, kM⟩ := u_known (n := 3) hg u_M_in (gi 80 _ (by decide +kernel))
  obtain ⟨cS, iS, kS⟩ := u_known (n := 4) hg u_S_in (gi 60 _ (by decide +kernel))
  obtain ⟨cW, iW, kW⟩ := u_known (n := 2) hg u_W_in (gi 163 _ (by decide +kernel))
  obtain ⟨cL, iL, kL⟩ := u_known (n := 3) hg u_L_in (gi 42 _ (by decide +kernel))
  obtain ⟨cR, iR, kR⟩ := u_known (n := 22) hg u_R_in (gi 574 _ (by decide +kernel))
  obtain ⟨t0, a0, b0⟩ := ao_s (ty := .int) (gi 95 _ (by decide +kernel))
  obtain ⟨t1, a1, b1⟩ := ao_s (ty := .long) (gi 78 _ (by decide +kernel))
  obtain ⟨t2, a2, b2⟩ := ao_s (ty := .boolean) (gi 646 _ (by decide +kernel))
  obtain ⟨t3, a3, b3⟩ := ao_o (C := "LatticeWraps$Key") (gi 50 _ (by decide +kernel))
  obtain ⟨t4, a4, b4⟩ := ao_o (C := "LatticeWraps$Wrap") (gi 52 _ (by decide +kernel))
  refine ⟨(fun k => ([cD, cK, cM, cS, cW, cL, cR] : List ClassId).getD k cD, fun k => ([iD, iK, iM, iS, iW, iL, iR] : List (Nat → Nat)).getD k iD), fun k => ([t0, t1, t2, t3, t4] : List ClassId).getD k t0, fun c q h => ?_, fun k q h => ?_⟩
  · have hc : c < 7 := (List.getElem?_eq_some_iff.mp h).1
    have h2 : c = 0 ∨ c = 1 ∨ c = 2 ∨ c = 3 ∨ c = 4 ∨ c = 5 ∨ c = 6 := by omega
    rcases h2 with rfl | rfl | rfl | rfl | rfl | rfl | rfl
    · cases Option.some.inj h; exact kD
    · cases Option.some.inj h; exact kK
    · cases Option.some.inj h; exact kM
    · cases Option.some.inj h; exact kS
    · cases Option.some.inj h; exact kW
    · cases Option.some.inj h; exact kL
    · cases Option.some.inj h; exact kR
  · have hc : k < 5 := (List.getElem?_eq_some_iff.mp h).1
    have h2 : k = 0 ∨ k = 1 ∨ k = 2 ∨ k = 3 ∨ k = 4 := by omega
    rcases h2 with rfl | rfl | rfl | rfl | rfl
    · cases Option.some.inj h; exact ⟨a0, b0⟩
    · cases Option.some.inj h; exact ⟨a1, b1⟩
    · cases Option.some.inj h; exact ⟨a2, b2⟩
    · cases Option.some.inj h; exact ⟨a3, b3⟩
    · cases Option.some.inj h; exact ⟨a4, b4⟩
def flt_ : List Cond := flatC (Jvm.Cond.and given_1 narrow_1)
theorem fm_sb : ∀ j, j < 12 → Cond.eq (.elem (.static R_L "SAMPLE_BOUNDS" "[I") (.int (Int32.ofNat j))) (.int (sb_ j)) ∈ flt_ := by decide +kernel
theorem fm_go : ∀ j, j < 25 → Cond.eq (.elem (.static R_L "LANE_GOES_TO" "[I") (.int (Int32.ofNat j))) (.int (nI (go_ j))) ∈ flt_ := by decide +kernel
theorem fm_tn : ∀ j, j < 25 → Cond.eq (.elem (.static R_L "LANE_TURNS" "[I") (.int (Int32.ofNat j))) (.int (nI (tn_ j))) ∈ flt_ := by decide +kernel
theorem fm_rb : ∀ j, j < 24 → Cond.eq (.elem (.static R_L "ROUND_BITS" "[J") (.int (Int32.ofNat j))) (.long (rb_ j)) ∈ flt_ := by decide +kernel
theorem nw_in : ∀ w ∈ nw_, w ∈ lw_tbl := by decide +kernel
theorem bs_S {s : State} {args : Array Value} {k : Nat} {text : String} {cur : ClassId} (hc : s.vm.findClass R_L = some cur) (h : (Cond.stringRef R_L k text).before args s = true) : ∃ a : Nat, vk_R R_L k text a s := by
  obtain ⟨-, -, -, a, -, -, -, -, -, hev⟩ := Cond.stringRef_spec hc h
  exact ⟨a, vk_R.of h hev⟩
theorem bs_St {s : State} {b : Nat} {D : va_G} {tc : Nat → ClassId} (hK : va_K D cl_ (pm_T tc) s) (hts : ∀ w ∈ lw_tbl, w.before #[Value.ref b] s = true) (hgv : (Jvm.Cond.and given_1 narrow_1).before #[Value.ref b] s = true) : ∃ tk : Nat → Nat, St2_ s.heap.size tk s := by
  have gi : ∀ i : Nat, ∀ w : Cond, lw_tbl[i]? = some w → w.before #[Value.ref b] s = true := fun i w h => hts w (List.mem_of_getElem? h)
  have hs : ∀ w ∈ flt_, w.before #[Value.ref b] s = true := bs_flat hgv
  have hA : ∀ a : Nat, a < s.heap.size → ¬ (fun q => s.heap.size ≤ q) a := fun a h h2 => Nat.not_le_of_lt h h2
  have hcl : s.vm.findClass R_L = some (D.1 5) := (hK.1 5 _ rfl).2.1
  have iL : (Cond.initialized R_L).before #[Value.ref b] s = true := gi 26 _ (by decide +kernel)
  obtain ⟨t0, e0, T0⟩ := va_Tof (args := #[Value.ref b]) (s := s) (tm := .static R_L "SAMPLE_BOUNDS" "[I") (ty := .int) (N := 12) (f := fun j => .int (sb_ j)) (by decide) (hs _ (by decide +kernel)) (va_eqt (hs (Cond.eq (.length (.static R_L "SAMPLE_BOUNDS" "[I")) (.int (Int32.ofNat 12))) (by decide +kernel))) (fun j hj => va_eqt (hs _ (fm_sb j hj))) hA
  obtain ⟨t1, e1, T1⟩ := va_Tof (args := #[Value.ref b]) (s := s) (tm := .static R_L "LANE_GOES_TO" "[I") (ty := .int) (N := 25) (f := fun j => .int (nI (go_ j))) (by decide) (hs _ (by decide +kernel)) (va_eqt (hs (Cond.eq (.length (.static R_L "LANE_GOES_TO" "[I")) (.int (Int32.ofNat 25))) (by decide +kernel))) (fun j hj => va_eqt (hs _ (fm_go j hj))) hA
  obtain ⟨t2, e2, T2⟩ := va_Tof (args := #[Value.ref b]) (s := s) (tm := .static R_L "LANE_TURNS" "[I") (ty := .int) (N := 25) (f := fun j => .int (nI (tn_ j))) (by decide) (hs _ (by decide +kernel)) (va_eqt (hs (Cond.eq (.length (.static R_L "LANE_TURNS" "[I")) (.int (Int32.ofNat 25))) (by decide +kernel))) (fun j hj => va_eqt (hs _ (fm_tn j hj))) hA
  obtain ⟨t3, e3, T3⟩ := va_Tof (args := #[Value.ref b]) (s := s) (tm := .static R_L "ROUND_BITS" "[J") (ty := .long) (N := 24) (f := fun j => .long (rb_ j)) (by decide) (hs _ (by decide +kernel)) (va_eqt (hs (Cond.eq (.length (.static R_L "ROUND_BITS" "[J")) (.int (Int32.ofNat 24))) (by decide +kernel))) (fun j hj => va_eqtl (hs _ (fm_rb j hj))) hA
  obtain ⟨t4, s4⟩ := bs_S (k := 139) (text := "there is no such place") hcl (gi 239 _ (by decide +kernel))
  obtain ⟨t5, s5⟩ := bs_S (k := 144) (text := "there is no such matrix") hcl (gi 528 _ (by decide +kernel))
  obtain ⟨t6, s6⟩ := bs_S (k := 146) (text := "a long has 0 to 8 bytes") hcl (gi 568 _ (by decide +kernel))
  obtain ⟨t7, s7⟩ := bs_S (k := 150) (text := "the place is empty") hcl (gi 390 _ (by decide +kernel))
  obtain ⟨t8, s8⟩ := bs_S (k := 155) (text := "there is no such byte or entry") hcl (gi 480 _ (by decide +kernel))
  refine ⟨fun k => ([t0, t1, t2, t3, t4, t5, t6, t7, t8] : List Nat).getD k 0, ⟨fun w hw => va_Nw.of (nw_ot w hw) (hts w (nw_in w hw)), ⟨?_, T0⟩, ⟨?_, T1⟩, ⟨?_, T2⟩, ⟨?_, T3⟩, ⟨?_, ?_⟩, ⟨s4, s5, s6, s7, s8⟩, ?_, ?_, ?_⟩, ?_, ?_⟩
  · exact va_Zof (gi 351 _ (by decide +kernel)) iL e0 hA
  · exact va_Zof (gi 309 _ (by decide +kernel)) iL e1 hA
  · exact va_Zof (gi 311 _ (by decide +kernel)) iL e2 hA
  · exact va_Zof (gi 296 _ (by decide +kernel)) iL e3 hA
  · exact vx_Zqof (gi 225 _ (by decide +kernel)) (gi 33 _ (by decide +kernel)) (hs _ (by decide +kernel)) hA
  · exact vx_Zqof (gi 227 _ (by decide +kernel)) (gi 33 _ (by decide +kernel)) (hs _ (by decide +kernel)) hA
  · exact va_Nc.of (hs _ (by decide +kernel))
  · exact va_Nc.of (hs _ (by decide +kernel))
  · exact va_Nc.of (hs _ (by decide +kernel))
  · exact va_AO.of (gi 50 _ (by decide +kernel))
  · exact va_AO.of (gi 52 _ (by decide +kernel))
end BS
