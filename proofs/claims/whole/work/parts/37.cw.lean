section CW
abbrev KS_ : Type := Int32 × Int64 × Int64 × (Nat → Int32) × (Nat → Int32) × (Nat → Int32) × (Nat → Int32) × (Nat → Int32)
abbrev WS_ : Type := Int32 × (Nat → Int32)
variable {p : Program} {l : Launch} {e : Env} {R : Room} {s : State} {m : MethodId} {args : Array Value} {below : List Frame} {meth : Method} {c : Code} {Q : State → Prop} {D : va_G} {tc : Nat → ClassId} {sz : Nat} {tk : Nat → Nat} {hz : Option Nat} {w w2 : Nat → va_E}
variable {f g h : Nat → Int64} {len i j k kb n : Nat} {κ κ1 : Nat → KS_} {ρ ρ1 : Nat → WS_} {y z : Int32} {fl : Int32} {s0 mk : Int64} {fa fs fe fb fp : Nat → Int32}
def kk_ (tc : Nat → ClassId) (sz : Nat) (w : Nat → va_E) (i : Nat) (q : KS_) : Prop := ks_ tc sz w (21 + 12 * i) q.1 q.2.1 q.2.2.1 q.2.2.2.1 q.2.2.2.2.1 q.2.2.2.2.2.1 q.2.2.2.2.2.2.1 q.2.2.2.2.2.2.2
def wo_ (sz i : Nat) (fl : Int32) : va_E := .inr (4, [.int fl, .ref (sz + (32 + 12 * i))])
def ww_ (tc : Nat → ClassId) (sz : Nat) (w : Nat → va_E) (i : Nat) (q : WS_) : Prop := w (31 + 12 * i) = wo_ sz i q.1 ∧ w (32 + 12 * i) = ma_ tc 90 q.2
def lo_ (sz : Nat) : va_E := .inr (5, [.ref (sz + 1), .ref (sz + 2), .ref (sz + 3)])
def ra_ (tc : Nat → ClassId) (t : Nat) (f : Nat → Option Nat) : va_E := .inl (tc t, 4, .inr (.inr (.inr (.inr f))))
def dk_ (tc : Nat → ClassId) (sz : Nat) (w : Nat → va_E) : Prop := ∃ d1 d2 d3 dx dy dz : Nat → Int32, ds_ tc sz w d1 d2 d3 dx dy dz
def gk_ (tc : Nat → ClassId) (w : Nat → va_E) : Prop := ∃ dg : Nat → Int32, w 20 = ma_ tc 90 dg
def hk_ (tc : Nat → ClassId) (sz : Nat) (w : Nat → va_E) : Prop := ∃ (f g h : Nat → Int64) (len : Nat), w = sk_ tc sz w f g h len
def ar_ (tc : Nat → ClassId) (sz : Nat) (w : Nat → va_E) : Prop := w 0 = lo_ sz ∧ (∃ fk : Nat → Option Nat, w 1 = ra_ tc 3 fk ∧ ∀ i, i < 4 → fk i = some (sz + (21 + 12 * i))) ∧ (∃ fw : Nat → Option Nat, w 2 = ra_ tc 4 fw ∧ ∀ i, i < 4 → fw i = some (sz + (31 + 12 * i)))
def cw_ (tc : Nat → ClassId) (sz : Nat) (w : Nat → va_E) (κ : Nat → KS_) (ρ : Nat → WS_) : Prop := ar_ tc sz w ∧ dk_ tc sz w ∧ gk_ tc w ∧ hk_ tc sz w ∧ (∀ i, i < 4 → kk_ tc sz w i (κ i)) ∧ ∀ i, i < 4 → ww_ tc sz w i (ρ i)
def fm_ (w w1 : Nat → va_E) : Prop := ∀ k, 69 ≤ k → w1 k = w k
theorem mt_eq {w w2 : Nat → va_E} {q Rw Cl : Nat} {r : Nat → Int32} (h : mt_ tc sz w q Rw Cl r) (h1 : w2 q = w q) (h2 : w2 (q + 1) = w (q + 1)) : mt_ tc sz w2 q Rw Cl r := ⟨h.1, h1.trans h.2.1, h2.trans h.2.2⟩
theorem ks_eq {w w2 : Nat → va_E} (h : ks_ tc sz w kb fl s0 mk fa fs fe fb fp) (hf : ∀ k, kb ≤ k → k ≤ kb + 9 → w2 k = w k) : ks_ tc sz w2 kb fl s0 mk fa fs fe fb fp := by
  obtain ⟨h0, h1, h2, h3, h4, h5, h6⟩ := h
  exact ⟨h0, (hf _ (by omega) (by omega)).trans h1, mt_eq h2 (hf _ (by omega) (by omega)) (hf _ (by omega) (by omega)), mt_eq h3 (hf _ (by omega) (by omega)) (hf _ (by omega) (by omega)), mt_eq h4 (hf _ (by omega) (by omega)) (hf _ (by omega) (by omega)), mt_eq h5 (hf _ (by omega) (by omega)) (hf _ (by omega) (by omega)), (hf _ (by omega) (by omega)).trans h6⟩
theorem ds_eq {w w2 : Nat → va_E} (h : dk_ tc sz w) (hf : ∀ k, k = 3 ∨ (8 ≤ k ∧ k ≤ 19) → w2 k = w k) : dk_ tc sz w2 := by
  obtain ⟨d1, d2, d3, dx, dy, dz, h0, h1, h2, h3, h4, h5, h6⟩ := h
  exact ⟨d1, d2, d3, dx, dy, dz, (hf _ (by omega)).trans h0, mt_eq h1 (hf _ (by omega)) (hf _ (by omega)), mt_eq h2 (hf _ (by omega)) (hf _ (by omega)), mt_eq h3 (hf _ (by omega)) (hf _ (by omega)), mt_eq h4 (hf _ (by omega)) (hf _ (by omega)), mt_eq h5 (hf _ (by omega)) (hf _ (by omega)), mt_eq h6 (hf _ (by omega)) (hf _ (by omega))⟩
theorem ar_eq {w w2 : Nat → va_E} (h : ar_ tc sz w) (hf : ∀ k, k < 3 → w2 k = w k) : ar_ tc sz w2 := by
  obtain ⟨h0, ⟨fk, h1, h2⟩, ⟨fw, h3, h4⟩⟩ := h
  exact ⟨(hf _ (by omega)).trans h0, ⟨fk, (hf _ (by omega)).trans h1, h2⟩, ⟨fw, (hf _ (by omega)).trans h3, h4⟩⟩
theorem kk_eq {w w2 : Nat → va_E} {q : KS_} (h : kk_ tc sz w i q) (hf : ∀ k, 21 + 12 * i ≤ k → k ≤ 30 + 12 * i → w2 k = w k) : kk_ tc sz w2 i q := ks_eq h (fun k h1 h2 => hf k h1 (by omega))
theorem ww_eq {w w2 : Nat → va_E} {q : WS_} (h : ww_ tc sz w i q) (h1 : w2 (31 + 12 * i) = w (31 + 12 * i)) (h2 : w2 (32 + 12 * i) = w (32 + 12 * i)) : ww_ tc sz w2 i q := ⟨h1.trans h.1, h2.trans h.2⟩
theorem sk_sk {w : Nat → va_E} {f1 g1 h1 : Nat → Int64} {l1 : Nat} : sk_ tc sz (sk_ tc sz w f1 g1 h1 l1) f g h len = sk_ tc sz w f g h len := by
  funext k
  by_cases q : k = 4 ∨ k = 5 ∨ k = 6 ∨ k = 7
  · rcases q with rfl | rfl | rfl | rfl <;> rfl
  · rw [sk_o (by omega) (by omega) (by omega) (by omega), sk_o (by omega) (by omega) (by omega) (by omega), sk_o (by omega) (by omega) (by omega) (by omega)]
theorem hk_sk {w : Nat → va_E} : hk_ tc sz (sk_ tc sz w f g h len) := ⟨f, g, h, len, sk_sk.symm⟩
theorem hk_up {w : Nat → va_E} {x : va_E} (H : hk_ tc sz w) (hk : 8 ≤ k) : hk_ tc sz (va_up w k x) := by
  obtain ⟨f, g, h, len, e1⟩ := H
  exact ⟨f, g, h, len, by rw [← sk_up (by omega) (by omega) (by omega) (by omega), ← e1]⟩
theorem sk_oe {w : Nat → va_E} (h : k < 4 ∨ 7 < k) : sk_ tc sz w f g g len k = w k := sk_o (by omega) (by omega) (by omega) (by omega)
theorem cw_0 (H : ar_ tc sz w) : pm_at sz 91 w (sz + 0) = some (.inr (5, [.ref (sz + 1), .ref (sz + 2), .ref (sz + 3)])) := by
  rw [pm_at_add (by decide), H.1]
  rfl
theorem up_o {w : Nat → va_E} {x : va_E} {q : Nat} (h : k ≠ q) : va_up w q x k = w k := by rw [va_up_g, if_neg h]
theorem up_i {w : Nat → va_E} {x : va_E} {q : Nat} : va_up w q x q = x := by rw [va_up_g, if_pos rfl]
theorem pl_ex (h : ¬ y < 0 ∧ y < nI 4) : ∃ i : Nat, i < 4 ∧ y = nI i := by
  obtain ⟨j, hj, rfl⟩ := nI_of h.1
  exact ⟨j, (nI_ltI hj (by decide)).mp h.2, rfl⟩
theorem pl_nI (h : i < 4) : ¬ nI i < 0 ∧ nI i < nI 4 := ⟨nI_pos (by omega), nI_lt h (by decide)⟩
theorem pe_ex {N : Nat} (hN : N < 2 ^ 31) (h : ¬ y < 0 ∧ ¬ nI N ≤ y) : ∃ i : Nat, i < N ∧ y = nI i := by
  obtain ⟨j, hj, rfl⟩ := nI_of h.1
  exact ⟨j, by
    have := h.2
    rw [nI_leI hN hj] at this
    omega, rfl⟩
theorem pn_ex {N : Nat} (hN : N < 2 ^ 31) (h : ¬ y < 0 ∧ y ≤ nI N) : ∃ i : Nat, i ≤ N ∧ y = nI i := by
  obtain ⟨j, hj, rfl⟩ := nI_of h.1
  exact ⟨j, (nI_leI hj hN).mp h.2, rfl⟩
end CW
section CR
variable {p : Program} {l : Launch} {e : Env} {R : Room} {s : State} {m : MethodId} {args : Array Value} {below : List Frame} {meth : Method} {c : Code} {Q : State → Prop} {cells slots : Nat}
variable {cc : ByteArray} {own : String} {D : va_G} {tc : Nat → ClassId} {sz nL n pc : Nat} {hz : Option Nat} {w : Nat → va_E} {lv : List (Nat × Value)} {st : List Value} {tk : Nat → Nat}
theorem mm_tin {dflt lo hi off : Int} {offs : Array Int} {ln tgt : Nat} {x : Int32} (X : cx_ p s m args c cc nL own D tc sz tk) (hd : decode cc pc = .ok (.tableswitch dflt lo hi offs, ln)) (h1 : ¬ x.toInt < lo) (h2 : ¬ hi < x.toInt) (ho : offs[(x.toInt - lo).toNat]? = some off) (ht : (pc : Int) + off = (tgt : Int))
    (kk : pm_G p l e R s m args below meth c Q D cl_ sz nL hz n cells slots w tgt lv st) : pm_G p l e R s m args below meth c Q D cl_ sz nL hz n cells slots w pc lv (.int x :: st) := by
  obtain ⟨⟨c0, S⟩, -⟩ := X
  intro H locs ls hl hP hS hh
  exact lv_tableIn S.1 S.2.1 hd h1 h2 ho ht (kk H locs ls hl hP hS hh)
theorem mm_tout {dflt lo hi : Int} {offs : Array Int} {ln tgt : Nat} {x : Int32} (X : cx_ p s m args c cc nL own D tc sz tk) (hd : decode cc pc = .ok (.tableswitch dflt lo hi offs, ln)) (h : x.toInt < lo ∨ hi < x.toInt) (ht : (pc : Int) + dflt = (tgt : Int))
    (kk : pm_G p l e R s m args below meth c Q D cl_ sz nL hz n cells slots w tgt lv st) : pm_G p l e R s m args below meth c Q D cl_ sz nL hz n cells slots w pc lv (.int x :: st) := by
  obtain ⟨⟨c0, S⟩, -⟩ := X
  intro H locs ls hl hP hS hh
  exact lv_tableOut S.1 S.2.1 hd h ht (kk H locs ls hl hP hS hh)
theorem ac_a : Cond.methodLink R_L 74 arraycopyName ∈ gw_ := by decide +kernel
theorem ac_b : Cond.native arraycopyName ∈ gw_ := by decide +kernel
theorem ac_c : Cond.static arraycopyName ∈ gw_ := by decide +kernel
theorem ac_d : Cond.initialized "java/lang/System" ∈ gw_ := by decide +kernel
theorem mm_acp {k0 k1 N : Nat} {f g : Nat → Int32} (X : cx_ p s m args c cc nL R_L D tc sz tk) (hk0 : k0 < n) (hk1 : k1 < n) (h0 : w k0 = ma_ tc N f) (h1 : w k1 = ma_ tc N g) (hN : N < 2 ^ 31) (hR : 1 ≤ R.frames) (hl : (st.map fun v => v.category).sum + (nativeFrameWords "java/lang/System" "arraycopy" 5 + 11) ≤ R.locals) (hd : decode cc pc = .ok (.invokestatic 74, 3))
    (kk : pm_G p l e R s m args below meth c Q D cl_ sz nL none n cells slots (va_up w k1 (ma_ tc N (va_cpy f g 0 0 N))) (pc + 3) lv st) : pm_G p l e R s m args below meth c Q D cl_ sz nL none n cells slots w pc lv (.int (nI N) :: .int (nI 0) :: .ref (sz + k1) :: .int (nI 0) :: .ref (sz + k0) :: st) := by
  obtain ⟨⟨c0, S⟩, hK, hsz, hSt⟩ := X
  have hts : ∀ w ∈ gw_, w.before args s = true := fun w h => S.2.2.2.2 w (List.mem_cons_of_mem _ h)
  intro H locs ls hlv hP hS hh
  have z0 : (nI 0).toNatClampNeg = 0 := nI_clamp (by decide)
  have zN : (nI N).toNatClampNeg = N := nI_clamp hN
  refine va_copyi (tys := pm_T tc) (ws := pm_L sz n w) (A := fun q => sz ≤ q) (q0 := k0) (q1 := k1) (t0 := 0) (t1 := 0) (a0 := sz + k0) (n0 := N) (n1 := N) (f := f) (g := g) (ty := .int) S.1 S.2.1 (S.2.2.1.trans hlv.1.symm) S.2.2.2.1 (hts _ ac_a) (hts _ ac_b) (hts _ ac_c) (hts _ ac_d) hK hP pm_D hS (by rw [pm_L_get hk0, h0]; rfl) (by rw [pm_L_get hk1, h1]; rfl) rfl rfl rfl (nI_pos (by decide)) (nI_pos (by decide)) (nI_pos hN) (by rw [z0, zN]; omega) (by rw [z0, zN]; omega) (fun i _ => rfl) hR hl hd ?_
  intro H1 locs1 hP1 hD1 hS1
  rw [z0, zN, pm_L_set] at hP1
  exact kk H1 locs1 ls hlv hP1 hS1 (fun k hk => by cases hk)
theorem cpy_ {N i : Nat} {f g : Nat → Int32} (h : i < N) : va_cpy f g 0 0 N i = f i := by
  simp [va_cpy, h]
end CR
