section AL
variable {p : Program} {l : Launch} {e : Env} {R : Room} {s : State} {m : MethodId} {args : Array Value} {below : List Frame} {meth : Method} {c : Code} {Q : State → Prop} {cells slots : Nat}
variable {cc : ByteArray} {own : String} {D : va_G} {tc : Nat → ClassId} {sz nL n pc : Nat} {hz : Option Nat} {w : Nat → va_E} {lv : List (Nat × Value)} {st : List Value} {tk : Nat → Nat}
def rc_ (d c s : Nat) : Room := { frames := d, cells := c, slots := s, locals := 32 * d }
theorem mm_new {C : String} {T : u_T} {N ci index : Nat} {fs : List Value} (X : cx_ p s m args c cc nL own D tc sz tk) (hin : ∀ w ∈ u_ws C T N, w ∈ gw_) (ty : Nat → FieldType) (hty : ∀ k, k < N → parseFieldDescriptor (T k).2.2.1 = some (ty k)) (hcl : Cond.classLink own index C ∈ gw_) (hinst : Cond.instantiable C N ∈ gw_) (hini : Cond.initialized C ∈ gw_) (hc : cl_[ci]? = some (C, T, N)) (hfs : ∀ j, j < N → defaultValue (ty j) = vp_V fs j) (hcells : cells + 1 ≤ R.cells) (hslots : slots + N ≤ R.slots) (hd : decode cc pc = .ok (.new index, 3))
    (kk : pm_G p l e R s m args below meth c Q D cl_ sz nL (some (sz + (n + 1))) (n + 1) (cells + 1) (slots + N) (va_up w n (.inr (ci, fs))) (pc + 3) lv (.ref (sz + n) :: st)) : pm_G p l e R s m args below meth c Q D cl_ sz nL (some (sz + n)) n cells slots w pc lv st := by
  obtain ⟨⟨c0, S⟩, hK, hsz, hSt⟩ := X
  have hts : ∀ w ∈ gw_, w.before args s = true := fun w h => S.2.2.2.2 w (List.mem_cons_of_mem _ h)
  intro H locs ls hl hP hS hh
  have hH : H.size = sz + n := hh _ rfl
  have hKn := hK.1 ci _ hc
  refine W.newcK S.1 S.2.1 S.2.2.2.1 (hts _ hcl) (hts _ hinst) (hts _ hini) rfl hd hcells hslots hKn.2.1 hH fun H1 kC hkC e1 z1 o1 => ?_
  have hk : ∀ (k : Nat) (x : Nat × va_E), (pm_L sz n w)[k]? = some x → H1[x.1]? = H[x.1]? := fun k x hx => o1 x.1 (by rw [← hH]; exact (hP k x hx).lt)
  refine kk H1 locs ls hl ?_ ⟨Nat.le_trans hS.1 (by omega), fun q h1 h2 => (o1 q (by have := hS.1; omega)).trans (hS.2.1 q h1 h2), hS.2.2⟩ (fun k hk => by cases hk; rw [z1]; omega)
  rw [← pm_L_push]
  refine (hP.kept hk).app (fun k x hx => ?_)
  have hz : k < 1 := (List.getElem?_eq_some_iff.mp hx).1
  rw [show k = 0 by omega] at hx
  cases hx
  exact ⟨_, hc, (u_born ty hts hin hKn hkC e1 hty).to hfs⟩
theorem mm_na {atype : ArrayType} {ty : FieldType} {t N : Nat} {a0 : vp_A} (X : cx_ p s m args c cc nL own D tc sz tk) (harr : Cond.arrayClass ty ∈ gw_) (hty : newarray.typeOf atype = ty) (ht : (pm_T tc)[t]? = some (tc t, ty)) (hRA : ∀ cA : ClassId, va_RA s cA ty → s.vm.findClass ("[" ++ ty.toString) = some cA) (ha : ∀ cA : ClassId, vp_cell cA a0 = arrV cA N (fun _ => defaultValue ty)) (hN : N < 100000) (hb : N * componentBytes ty ≤ 536870912) (hcells : cells + 1 ≤ R.cells) (hslots : slots + N ≤ R.slots) (hd : decode cc pc = .ok (.newarray atype, 2))
    (kk : pm_G p l e R s m args below meth c Q D cl_ sz nL (some (sz + (n + 1))) (n + 1) (cells + 1) (slots + N) (va_up w n (.inl (tc t, a0))) (pc + 2) lv (.ref (sz + n) :: st)) : pm_G p l e R s m args below meth c Q D cl_ sz nL (some (sz + n)) n cells slots w pc lv (.int (nI N) :: st) := by
  subst hty
  obtain ⟨⟨c0, S⟩, hK, hsz, hSt⟩ := X
  have hts : ∀ w ∈ gw_, w.before args s = true := fun w h => S.2.2.2.2 w (List.mem_cons_of_mem _ h)
  intro H locs ls hl hP hS hh
  have hH : H.size = sz + n := hh _ rfl
  refine va_newaK S.1 S.2.1 (hts _ harr) rfl hd rfl (nI_pos (by omega)) (nI_clamp (by omega)) hb hcells hslots hH fun H1 cA e1 z1 o1 hAr hNm => ?_
  have hcA : cA = tc t := Option.some.inj (hNm.symm.trans (hRA _ (hK.2 t _ ht).2))
  subst hcA
  have hk : ∀ (k : Nat) (x : Nat × va_E), (pm_L sz n w)[k]? = some x → H1[x.1]? = H[x.1]? := fun k x hx => o1 x.1 (by rw [← hH]; exact (hP k x hx).lt)
  refine kk H1 locs ls hl ?_ ⟨Nat.le_trans hS.1 (by omega), fun q h1 h2 => (o1 q (by have := hS.1; omega)).trans (hS.2.1 q h1 h2), hS.2.2⟩ (fun k hk => by cases hk; rw [z1]; omega)
  rw [← pm_L_push]
  refine (hP.kept hk).app (fun k x hx => ?_)
  have hz : k < 1 := (List.getElem?_eq_some_iff.mp hx).1
  rw [show k = 0 by omega] at hx
  cases hx
  show H1[sz + n]? = some (vp_cell _ _)
  rw [ha]
  exact e1
theorem mm_nai {N : Nat} (X : cx_ p s m args c cc nL own D tc sz tk) (hN : N < 100000) (hcells : cells + 1 ≤ R.cells) (hslots : slots + N ≤ R.slots) (hd : decode cc pc = .ok (.newarray .int, 2))
    (kk : pm_G p l e R s m args below meth c Q D cl_ sz nL (some (sz + (n + 1))) (n + 1) (cells + 1) (slots + N) (va_up w n (.inl (tc 0, N, .inl (fun _ => 0)))) (pc + 2) lv (.ref (sz + n) :: st)) : pm_G p l e R s m args below meth c Q D cl_ sz nL (some (sz + n)) n cells slots w pc lv (.int (nI N) :: st) :=
  mm_na (atype := .int) (ty := .int) (t := 0) X (gm_ 95 (by decide +kernel) (by decide +kernel)) rfl rfl (fun _ h => h) (fun cA => vp_cell_i ..) hN (by show N * 4 ≤ _; omega) hcells hslots hd kk
theorem mm_nal {N : Nat} (X : cx_ p s m args c cc nL own D tc sz tk) (hN : N < 100000) (hcells : cells + 1 ≤ R.cells) (hslots : slots + N ≤ R.slots) (hd : decode cc pc = .ok (.newarray .long, 2))
    (kk : pm_G p l e R s m args below meth c Q D cl_ sz nL (some (sz + (n + 1))) (n + 1) (cells + 1) (slots + N) (va_up w n (.inl (tc 1, N, .inr (.inl (fun _ => 0))))) (pc + 2) lv (.ref (sz + n) :: st)) : pm_G p l e R s m args below meth c Q D cl_ sz nL (some (sz + n)) n cells slots w pc lv (.int (nI N) :: st) :=
  mm_na (atype := .long) (ty := .long) (t := 1) X (gm_ 78 (by decide +kernel) (by decide +kernel)) rfl rfl (fun _ h => h) (fun cA => vp_cell_l ..) hN (by show N * 8 ≤ _; omega) hcells hslots hd kk
theorem mm_naz {N : Nat} (X : cx_ p s m args c cc nL own D tc sz tk) (hN : N < 100000) (hcells : cells + 1 ≤ R.cells) (hslots : slots + N ≤ R.slots) (hd : decode cc pc = .ok (.newarray .boolean, 2))
    (kk : pm_G p l e R s m args below meth c Q D cl_ sz nL (some (sz + (n + 1))) (n + 1) (cells + 1) (slots + N) (va_up w n (.inl (tc 2, N, .inl (fun _ => 0)))) (pc + 2) lv (.ref (sz + n) :: st)) : pm_G p l e R s m args below meth c Q D cl_ sz nL (some (sz + n)) n cells slots w pc lv (.int (nI N) :: st) :=
  mm_na (atype := .boolean) (ty := .boolean) (t := 2) X (gm_ 646 (by decide +kernel) (by decide +kernel)) rfl rfl (fun _ h => h) (fun cA => vp_cell_i ..) hN (by show N * 1 ≤ _; omega) hcells hslots hd kk
theorem mm_anew {C : String} {t N index : Nat} (X : cx_ p s m args c cc nL own D tc sz tk) (hcl : Cond.classLink own index C ∈ gw_) (hover : va_AO C s) (ht : (pm_T tc)[t]? = some (tc t, .object C)) (hN : N < 100000) (hcells : cells + 1 ≤ R.cells) (hslots : slots + N ≤ R.slots) (hd : decode cc pc = .ok (.anewarray index, 3))
    (kk : pm_G p l e R s m args below meth c Q D cl_ sz nL (some (sz + (n + 1))) (n + 1) (cells + 1) (slots + N) (va_up w n (.inl (tc t, N, .inr (.inr (.inr (.inr (fun _ => none))))))) (pc + 3) lv (.ref (sz + n) :: st)) : pm_G p l e R s m args below meth c Q D cl_ sz nL (some (sz + n)) n cells slots w pc lv (.int (nI N) :: st) := by
  obtain ⟨⟨c0, S⟩, hK, hsz, hSt⟩ := X
  have hts : ∀ w ∈ gw_, w.before args s = true := fun w h => S.2.2.2.2 w (List.mem_cons_of_mem _ h)
  intro H locs ls hl hP hS hh
  have hH : H.size = sz + n := hh _ rfl
  have zN : (nI N).toNatClampNeg = N := nI_clamp (by omega)
  refine W.anew S.1 S.2.1 S.2.2.2.1 (hts _ hcl) (va_AO.use hover) rfl hd rfl (nI_pos (by omega)) (by rw [zN]; omega) hcells (by rw [zN]; exact hslots) fun cA kA comp f1 f2 f3 f4 => ?_
  obtain ⟨kA', comp', -, -, -, g4⟩ := (hK.2 t _ ht).2
  have hcA : cA = tc t := Option.some.inj (f1.symm.trans g4)
  subst hcA
  rw [zN, hH]
  generalize hH1 : H.push ({ cls := tc t, slots := Array.replicate N .null, vm := .none } : Cell) = H1
  have z1 : H1.size = sz + n + 1 := by rw [← hH1, Array.size_push, hH]
  have e1 : H1[sz + n]? = some (arrV (tc t) N (fun _ => .null)) := by rw [← hH1, ← hH, Array.getElem?_push_size, ← arrV_new]
  have o1 : ∀ q : Nat, q < sz + n → H1[q]? = H[q]? := fun q hq => by rw [← hH1, Array.getElem?_push, if_neg (by rw [hH]; exact Nat.ne_of_lt hq)]
  have hk : ∀ (k : Nat) (x : Nat × va_E), (pm_L sz n w)[k]? = some x → H1[x.1]? = H[x.1]? := fun k x hx => o1 x.1 (by rw [← hH]; exact (hP k x hx).lt)
  refine kk H1 locs ls hl ?_ ⟨Nat.le_trans hS.1 (by omega), fun q h1 h2 => (o1 q (by have := hS.1; omega)).trans (hS.2.1 q h1 h2), hS.2.2⟩ (fun k hk => by cases hk; rw [z1]; omega)
  rw [← pm_L_push]
  refine (hP.kept hk).app (fun k x hx => ?_)
  have hz : k < 1 := (List.getElem?_eq_some_iff.mp hx).1
  rw [show k = 0 by omega] at hx
  cases hx
  show H1[sz + n]? = some (vp_cell _ _)
  rw [vp_cell_q]
  exact e1
theorem mm_aas {t N k kv ci : Nat} {r : vw_C} {vs : List Value} {f : Nat → Option Nat} {j : Nat} (X : cx_ p s m args c cc nL own D tc sz tk) (hk : k < n) (hw : w k = .inl (tc t, N, .inr (.inr (.inr (.inr f))))) (ht : (pm_T tc)[t]? = some (tc t, .object r.1)) (hkv : kv < n) (hv : w kv = .inr (ci, vs)) (hc : cl_[ci]? = some r) (hj : j < N) (hN : N < 2 ^ 31) (hd : decode cc pc = .ok (.aastore, 1))
    (kk : pm_G p l e R s m args below meth c Q D cl_ sz nL hz n cells slots (va_up w k (.inl (tc t, N, .inr (.inr (.inr (.inr (va_up f j (some (sz + kv))))))))) (pc + 1) lv st) : pm_G p l e R s m args below meth c Q D cl_ sz nL hz n cells slots w pc lv (.ref (sz + kv) :: .int (nI j) :: .ref (sz + k) :: st) := by
  obtain ⟨⟨c0, S⟩, hK, hsz, hSt⟩ := X
  intro H locs ls hl hP hS hh
  have hat : va_at D cl_ (sz + k, w k) H := hP k _ (pm_L_get hk)
  rw [hw] at hat
  have hcls := (hK.1 ci r hc).2
  obtain ⟨kA, comp, k1, k2, k3, -⟩ := (hK.2 t _ ht).2
  have hcomp : comp = D.1 ci := Option.some.inj (k3.symm.trans hcls.1)
  subst hcomp
  obtain ⟨kC, hkC, -⟩ := hcls.2
  have hav : va_at D cl_ (sz + kv, w kv) H := hP kv _ (pm_L_get hkv)
  rw [hv] at hav
  obtain ⟨r', hr', cellV, g1, g2, g3, -⟩ := hav
  have zj : (nI j).toNatClampNeg = j := nI_clamp (by omega)
  refine W.aast S.1 S.2.1 hat (fun q h => by cases h) (fun h => by cases h) k1 k2 rfl hkC ⟨nI_pos (by omega), by show _ < (arrV _ _ _).slots.size; rw [arrV_size, zj]; exact hj⟩ g1 (fun q h => by rw [g3] at h; cases h) (by rw [g2]; exact hkC) (by rw [g2]; exact va_assign hcls) rfl rfl hd fun H1 e z oq => ?_
  refine kk H1 _ ls hl (pm_set hP hk ?_ oq) (hS.put z oq (Nat.le_add_right _ _)) (fun k hk => z.trans (hh k hk))
  show H1[sz + k]? = some (vp_cell _ _)
  rw [e, zj]
  rw [vp_cell_q, vp_cell_q, arrV_store]
  congr 2
  funext q
  by_cases hq : q = j
  · subst hq
    simp [updV, va_up, va_rf]
  · simp [updV, va_up, hq]
theorem mm_putF {y : MethodName} {T : u_T} {N ci index q k : Nat} {fs : List Value} {ty : FieldType} {v : Value} (X : cx_ p s m args c cc nL own D tc sz tk) (hnm : s.methodNamed? y = some m ∧ s.vm.method? m = some meth) (hy : y.name = "<init>") (hin : ∀ w ∈ u_ws own T N, w ∈ gw_) (ty0 : Nat → FieldType) (hty : ∀ k, k < N → parseFieldDescriptor (T k).2.2.1 = some (ty0 k)) (hnn : ∀ a, a < N → ∀ b, b < N → a ≠ b → (T a).2.1 ≠ (T b).2.1) (hc : cl_[ci]? = some (own, T, N)) (hk : k < N) (hlink : Cond.fieldLink own index own (T k).2.1 (T k).2.2.1 ∈ gw_) (hfin : (T k).2.2.2 = true) (hdecl : (T k).1 = own) (hd : parseFieldDescriptor (T k).2.2.1 = some ty) (hn : narrow ty v = v) (hfit : fits ty v = true) (hl0 : k < fs.length) (hq : q < n) (hw : w q = .inr (ci, fs)) (hdg : decode cc pc = .ok (.putfield index, 3))
    (kk : pm_G p l e R s m args below meth c Q D cl_ sz nL hz n cells slots (va_up w q (.inr (ci, fs.set k v))) (pc + 3) lv st) : pm_G p l e R s m args below meth c Q D cl_ sz nL hz n cells slots w pc lv (v :: .ref (sz + q) :: st) := by
  obtain ⟨⟨c0, S⟩, hK, hsz, hSt⟩ := X
  have hts : ∀ w ∈ gw_, w.before args s = true := fun w h => S.2.2.2.2 w (List.mem_cons_of_mem _ h)
  intro H locs ls hl hP hS hh
  have hg : (pm_L sz n w)[q]? = some (sz + q, .inr (ci, fs)) := by rw [pm_L_get hq, hw]
  have hap := va_apart (own := own) hts hin ty0 hty hnn hK hc
  obtain ⟨r, h1, cell, q1, q2, q3, q4⟩ := hP q _ hg
  have hr : r = (own, T, N) := Option.some.inj (h1.symm.trans hc)
  subst hr
  obtain ⟨hS9, hfc, kC, hkC, hkind⟩ := hK.1 ci _ hc
  obtain ⟨cf, kf, fi, f, hi, hsl⟩ := hS9 k hk
  have hlay := hts _ (hin _ (u_in_lay hk))
  unfold u_lay at hlay
  rw [if_pos hfin] at hlay
  have hst := (u_facts hfc hkC (u_lays hts hin hk) hi).1
  have hcf : m.cls = cf := by
    obtain ⟨_, _, c', _, _, _, -, -, hf', -, -, -, hown2, -⟩ := Cond.laysFinal_spec hlay
    have e1 : c' = cf := by have := hi.symm.trans hf'; simp at this; exact this.1.symm
    rw [hdecl] at hown2
    rw [← e1]; exact Option.some.inj (S.2.2.2.1.symm.trans hown2)
  have h6 := u_fits hfc hkC hkind (Or.inr hlay) hi hd hn hfit
  have hname : meth.name = "<init>" := by rw [(name_of_methodNamed hnm.1 hnm.2).1]; exact hy
  refine W.putFinK S.1 S.2.1 S.2.2.2.1 (hts _ hlink) (hdecl ▸ hi) hst hcf hname (by rw [q2]; exact h6) q1 q3 (by rw [hsl]; exact k2_hasslot (q4 k hk)) rfl rfl hdg fun H' e1 e2 e3 => ?_
  rw [hsl] at e1 ⊢
  refine kk H' _ ls hl (pm_set hP hq ⟨_, hc, t_OB.to (V := updV (vp_V fs) k v) ⟨_, e1, q2, q3, t_set q4 hap hk v⟩ (fun j _ => vp_updV_set hl0 v j)⟩ e3) (hS.put e2 e3 (Nat.le_add_right _ _)) (fun k hk => e2.trans (hh k hk))
theorem mm_oi {idx : Nat} {a : Nat} (X : cx_ p s m args c cc nL own D tc sz tk) (hlk : Cond.methodLink own idx Lib.objectInit ∈ gw_) (hd : decode cc pc = .ok (.invokespecial idx, 3)) (hR : 1 ≤ R.frames) (hl0 : (st.map fun v => v.category).sum + 12 ≤ R.locals)
    (kk : pm_G p l e R s m args below meth c Q D cl_ sz nL hz n cells slots w (pc + 3) lv st) : pm_G p l e R s m args below meth c Q D cl_ sz nL hz n cells slots w pc lv (.ref a :: st) := by
  obtain ⟨⟨c0, S⟩, hK, hsz, hSt⟩ := X
  have hts : ∀ w ∈ gw_, w.before args s = true := fun w h => S.2.2.2.2 w (List.mem_cons_of_mem _ h)
  intro H locs ls hl hP hS hh
  exact W.objInit S.1 S.2.1 S.2.2.2.1 (hts _ hlk) (hts _ (gm_ 47 (by decide +kernel) (by decide +kernel))) (hts _ (gm_ 48 (by decide +kernel) (by decide +kernel))) rfl (hl.1.trans S.2.2.1.symm) rfl hd hR (by show 2 * (0 : Nat) + _ + 12 ≤ _; omega) (kk H locs ls hl hP hS hh)
theorem mm_I {y : MethodName} {b : ByteArray} {maxL : Nat} {rm : Room} {As rest : List Value} {hz' : Option Nat} {n' k na index : Nat} {post : Option Value → (Nat → va_E) → Prop}
    (X : cx_ p s m args c cc nL own D tc sz tk) (hM : mm_ l y b maxL none rm D tc sz tk (.ref (sz + k) :: As) hz n w hz' n' post) (hc : ci_ y b maxL na) (hlk : Cond.methodLink own index y ∈ gw_)
    (hn : As.length = na) (hs0 : st = As.reverse ++ .ref (sz + k) :: rest) (hcat : (rest.map fun v => v.category).sum ≤ 8) (hd : decode cc pc = .ok (.invokespecial index, 3))
    (hR : rm.frames + 1 ≤ R.frames ∧ 8 + (maxL + 11) + rm.locals ≤ R.locals) (hf : cells + rm.cells ≤ R.cells ∧ slots + rm.slots ≤ R.slots)
    (kk : ∀ (v : Option Value) (w' : Nat → va_E), post v w' → pm_G p l e R s m args below meth c Q D cl_ sz nL hz' n' (cells + rm.cells) (slots + rm.slots) w' (pc + 3) lv (v.toList ++ rest)) : pm_G p l e R s m args below meth c Q D cl_ sz nL hz n cells slots w pc lv st := by
  obtain ⟨⟨c0, S⟩, hK, hsz, hSt⟩ := X
  obtain ⟨q1, q2, q3, q4, q5, q6, q7⟩ := hc
  have hts : ∀ w ∈ gw_, w.before args s = true := fun w h => S.2.2.2.2 w (List.mem_cons_of_mem _ h)
  refine pm_call (a := (Value.ref (sz + k) :: As).toArray) (rest := rest) (fun H locs ls hls hP hS hh => ?_) kk
  exact va_runI (b := sz + k) (As := As) S hM ⟨callB_of na S.2.2.2.2 (gi_ q4) rfl rfl rfl (hts _ q3) (hts _ hlk) ⟨q5, q6, q7⟩ hR, q1, hts _ q2⟩
    ⟨pm_blind (St_stb sz tk), pm_pre (St_stb sz tk) hK hsz hSt hP hS hh⟩ rfl hn hls hs0 (lv_room hcat) hd hf
theorem mm_IN {y : MethodName} {b : ByteArray} {maxL : Nat} {rm : Room} {As rest : List Value} {hz' : Option Nat} {n' k na index : Nat} {host : String} {post : Option Value → (Nat → va_E) → Prop}
    (X : cx_ p s m args c cc nL own D tc sz tk) (hM : mm_ l y b maxL none rm D tc sz tk (.ref (sz + k) :: As) hz n w hz' n' post) (hc : ci_ y b maxL na) (hlk : Cond.methodLinkNest own index y host ∈ nw_)
    (hn : As.length = na) (hs0 : st = As.reverse ++ .ref (sz + k) :: rest) (hcat : (rest.map fun v => v.category).sum ≤ 8) (hd : decode cc pc = .ok (.invokespecial index, 3))
    (hR : rm.frames + 1 ≤ R.frames ∧ 8 + (maxL + 11) + rm.locals ≤ R.locals) (hf : cells + rm.cells ≤ R.cells ∧ slots + rm.slots ≤ R.slots)
    (kk : ∀ (v : Option Value) (w' : Nat → va_E), post v w' → pm_G p l e R s m args below meth c Q D cl_ sz nL hz' n' (cells + rm.cells) (slots + rm.slots) w' (pc + 3) lv (v.toList ++ rest)) : pm_G p l e R s m args below meth c Q D cl_ sz nL hz n cells slots w pc lv st := by
  obtain ⟨⟨c0, S⟩, hK, hsz, hSt⟩ := X
  obtain ⟨q1, q2, q3, q4, q5, q6, q7⟩ := hc
  have hts : ∀ w ∈ gw_, w.before args s = true := fun w h => S.2.2.2.2 w (List.mem_cons_of_mem _ h)
  refine pm_call (a := (Value.ref (sz + k) :: As).toArray) (rest := rest) (fun H locs ls hls hP hS hh => ?_) kk
  exact va_runIN (b := sz + k) (As := As) S hM ⟨va_cnB na S.2.2.2.2 (gi_ q4) rfl rfl rfl (hSt.1 _ hlk) (hts _ q3) ⟨q5, q6, q7⟩ hR, q1, hts _ q2⟩
    ⟨pm_blind (St_stb sz tk), pm_pre (St_stb sz tk) hK hsz hSt hP hS hh⟩ rfl hn hls hs0 (lv_room hcat) hd hf
end AL
