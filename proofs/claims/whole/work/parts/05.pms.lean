section PMO
variable {p : Program} {l : Launch} {e : Env} {R : Room} {s : State} {m : MethodId} {args : Array Value} {below : List Frame} {meth : Method} {c : Code} {Q : State → Prop} {cells slots : Nat}
variable {cc : ByteArray} {own : String} {D : va_G} {cl : List vw_C} {tc : Nat → ClassId} {F : pm_FT} {K : Nat → Option Value} {sz nL n pc : Nat} {hz : Option Nat} {w : Nat → va_E} {lv : List (Nat × Value)} {st : List Value}
theorem pm_set {H H1 : Heap} {k : Nat} {x : va_E} (hP : va_P D cl (pm_L sz n w) H) (hk : k < n) (he : va_at D cl (sz + k, x) H1) (oq : ∀ q : Nat, q ≠ sz + k → H1[q]? = H[q]?) : va_P D cl (pm_L sz n (va_up w k x)) H1 := by
  rw [← pm_L_set]
  exact hP.set (A := fun q => sz ≤ q) pm_D (pm_L_get hk) he oq
theorem pm_iast {j x : Int32} {k N : Nat} {f : Nat → Int32} {r : List Value} (hx : p.tables.exec = Jvm.exec) (hb : c.code = cc) (hK : va_K D cl (pm_T tc) s) (hk : k < n) (hw : w k = .inl (tc 0, N, .inl f)) (hin : vp_in j N) (hd : decode cc pc = .ok (.iastore, 1))
    (kk : pm_G p l e R s m args below meth c Q D cl sz nL hz n cells slots (va_up w k (.inl (tc 0, N, .inl (upd f j.toNatClampNeg x)))) (pc + 1) lv r) : pm_G p l e R s m args below meth c Q D cl sz nL hz n cells slots w pc lv (.int x :: .int j :: .ref (sz + k) :: r) := by
  intro H locs ls hl hP hS hh
  have hat : va_at D cl (sz + k, w k) H := hP k _ (pm_L_get hk)
  rw [hw] at hat
  refine W.iast hx hb hat ((hK.2 0 _ rfl).1 N (fun j => .int (f j))) (fun q => by cases q) (by show ¬ (j < 0 ∨ (arrV _ _ _).slots.size ≤ _); rw [arrV_size]; exact hin) rfl rfl hd fun H1 e z oq => ?_
  refine kk H1 _ ls hl (pm_set hP hk ?_ oq) (hS.put z oq (Nat.le_add_right _ _)) (fun k hk => z.trans (hh k hk))
  show H1[sz + k]? = some (vp_cell _ _)
  rw [e, vp_cell_i, vp_cell_i, arrV_store]
  congr 2
  funext q
  by_cases hq : q = j.toNatClampNeg
  · subst hq
    simp [updV, upd]
  · simp [updV, upd, hq]
theorem pm_zast {j x : Int32} {k N : Nat} {f : Nat → Int32} {r : List Value} (hx : p.tables.exec = Jvm.exec) (hb : c.code = cc) (hK : va_K D cl (pm_T tc) s) (hk : k < n) (hw : w k = .inl (tc 2, N, .inl f)) (hin : vp_in j N) (hd : decode cc pc = .ok (.bastore, 1))
    (kk : pm_G p l e R s m args below meth c Q D cl sz nL hz n cells slots (va_up w k (.inl (tc 2, N, .inl (upd f j.toNatClampNeg (vp_nar .boolean x))))) (pc + 1) lv r) : pm_G p l e R s m args below meth c Q D cl sz nL hz n cells slots w pc lv (.int x :: .int j :: .ref (sz + k) :: r) := by
  intro H locs ls hl hP hS hh
  have hat : va_at D cl (sz + k, w k) H := hP k _ (pm_L_get hk)
  rw [hw] at hat
  refine W.zast hx hb hat ((hK.2 2 _ rfl).1 N (fun j => .int (f j))) (fun q => by cases q) (by show ¬ (j < 0 ∨ (arrV _ _ _).slots.size ≤ _); rw [arrV_size]; exact hin) rfl rfl hd fun H1 e z oq => ?_
  refine kk H1 _ ls hl (pm_set hP hk ?_ oq) (hS.put z oq (Nat.le_add_right _ _)) (fun k hk => z.trans (hh k hk))
  show H1[sz + k]? = some (vp_cell _ _)
  rw [e, vp_cell_i, vp_cell_i, arrV_store]
  congr 2
  funext q
  by_cases hq : q = j.toNatClampNeg
  · subst hq
    simp [updV, upd, vp_nar]
    try rfl
  · simp [updV, upd, hq]
theorem pm_last {j : Int32} {x : Int64} {k N : Nat} {f : Nat → Int64} {r : List Value} (hx : p.tables.exec = Jvm.exec) (hb : c.code = cc) (hK : va_K D cl (pm_T tc) s) (hk : k < n) (hw : w k = .inl (tc 1, N, .inr (.inl f))) (hin : vp_in j N) (hd : decode cc pc = .ok (.lastore, 1))
    (kk : pm_G p l e R s m args below meth c Q D cl sz nL hz n cells slots (va_up w k (.inl (tc 1, N, .inr (.inl (vp_updL f j.toNatClampNeg x))))) (pc + 1) lv r) : pm_G p l e R s m args below meth c Q D cl sz nL hz n cells slots w pc lv (.long x :: .int j :: .ref (sz + k) :: r) := by
  intro H locs ls hl hP hS hh
  have hat : va_at D cl (sz + k, w k) H := hP k _ (pm_L_get hk)
  rw [hw] at hat
  refine W.last hx hb hat ((hK.2 1 _ rfl).1 N (fun j => .long (f j))) (fun q => by cases q) (by show ¬ (j < 0 ∨ (arrV _ _ _).slots.size ≤ _); rw [arrV_size]; exact hin) rfl rfl hd fun H1 e z oq => ?_
  refine kk H1 _ ls hl (pm_set hP hk ?_ oq) (hS.put z oq (Nat.le_add_right _ _)) (fun k hk => z.trans (hh k hk))
  show H1[sz + k]? = some (vp_cell _ _)
  rw [e, vp_cell_l, vp_cell_l, arrV_store]
  congr 2
  funext q
  by_cases hq : q = j.toNatClampNeg
  · subst hq
    simp [updV, vp_updL]
  · simp [updV, vp_updL, hq]
theorem pm_get {k i ci j : Nat} {ty : FieldType} {fin : Bool} {fs r : List Value} {v : Value} (hx : p.tables.exec = Jvm.exec) (hb : c.code = cc) (ho : s.vm.findClass own = some m.cls) (hK : va_K D cl (pm_T tc) s) (hF : pm_fok own cl args s i ci j ty fin) (hk : k < n) (hw : w k = .inr (ci, fs)) (hv : fs[j]? = some v) (hd : decode cc pc = .ok (.getfield i, 3))
    (kk : pm_G p l e R s m args below meth c Q D cl sz nL hz n cells slots w (pc + 3) lv (v :: r)) : pm_G p l e R s m args below meth c Q D cl sz nL hz n cells slots w pc lv (.ref (sz + k) :: r) := by
  intro H locs ls hl hP hS hh
  have hg : (pm_L sz n w)[k]? = some (sz + k, .inr (ci, fs)) := by rw [pm_L_get hk, hw]
  obtain ⟨C, T, N, ty0, h1, h2, h3, h4, h5, h6, h7, h8⟩ := hF
  rcases h8 with ⟨ref, h8, h9⟩ | ⟨ref, host, h8, h9⟩
  · exact va_get hx hb h3 (fun _ h => h) ho hK hP k hg h1 j h2 h8 h9 hv hd (kk H locs ls hl hP hS hh)
  · exact va_getN hx hb h3 (fun _ h => h) ho hK hP k hg h1 j h2 h8 h9 hv hd (kk H locs ls hl hP hS hh)
theorem pm_put {k i ci j : Nat} {ty : FieldType} {fs r : List Value} {v : Value} (hx : p.tables.exec = Jvm.exec) (hb : c.code = cc) (ho : s.vm.findClass own = some m.cls) (hK : va_K D cl (pm_T tc) s) (hF : pm_fok own cl args s i ci j ty false) (hk : k < n) (hw : w k = .inr (ci, fs)) (hn : narrow ty v = v) (hfit : fits ty v = true) (hj : j < fs.length) (hd : decode cc pc = .ok (.putfield i, 3))
    (kk : pm_G p l e R s m args below meth c Q D cl sz nL hz n cells slots (va_up w k (.inr (ci, fs.set j v))) (pc + 3) lv r) : pm_G p l e R s m args below meth c Q D cl sz nL hz n cells slots w pc lv (v :: .ref (sz + k) :: r) := by
  intro H locs ls hl hP hS hh
  have hg : (pm_L sz n w)[k]? = some (sz + k, .inr (ci, fs)) := by rw [pm_L_get hk, hw]
  obtain ⟨C, T, N, ty0, h1, h2, h3, h4, h5, h6, h7, h8⟩ := hF
  have hap := va_apart (own := own) h3 (fun _ h => h) ty0 h4 h5 hK h1
  obtain ⟨r0, g1, cell, q1, q2, q3, q4⟩ := hP k _ hg
  have hr : r0 = (C, T, N) := Option.some.inj (g1.symm.trans h1)
  subst hr
  obtain ⟨hSl, hfc, kC, hkC, hkind⟩ := hK.1 ci _ h1
  obtain ⟨cf, kf, fi, f, hi, hsl⟩ := hSl j h2
  have hlay := h3 _ (u_in_lay h2)
  unfold u_lay at hlay
  rw [if_neg (by rw [h6]; decide)] at hlay
  have hst := (u_facts hfc hkC (u_lays h3 (fun _ h => h) h2) hi).1
  have h10 := u_store hfc hkC hkind hlay hi h7 hn hfit
  rcases h8 with ⟨ref, h8, h9⟩ | ⟨ref, host, h8, h9⟩
  · refine W.putK hx hb (f := f) ⟨ho, h8, ⟨_, _, _, h9 _ hi⟩, hst⟩ (by rw [q2]; exact h10) q1 q3 (by rw [hsl]; exact k2_hasslot (q4 j h2)) rfl rfl hd fun H1 e1 e2 e3 => ?_
    rw [hsl] at e1
    exact kk H1 _ ls hl (pm_set hP hk ⟨_, h1, t_OB.to (V := updV (vp_V fs) j v) ⟨_, e1, q2, q3, t_set q4 hap h2 v⟩ (fun i _ => vp_updV_set hj v i)⟩ e3) (hS.put e2 e3 (Nat.le_add_right _ _)) (fun k hk => e2.trans (hh k hk))
  · refine va_WputK hx hb (f := f) ho h8 (h9 _ hi) hst (by rw [q2]; exact h10) q1 q3 (by rw [hsl]; exact k2_hasslot (q4 j h2)) rfl rfl hd fun H1 e1 e2 e3 => ?_
    rw [hsl] at e1
    exact kk H1 _ ls hl (pm_set hP hk ⟨_, h1, t_OB.to (V := updV (vp_V fs) j v) ⟨_, e1, q2, q3, t_set q4 hap h2 v⟩ (fun i _ => vp_updV_set hj v i)⟩ e3) (hS.put e2 e3 (Nat.le_add_right _ _)) (fun k hk => e2.trans (hh k hk))
end PMO
