section RL
variable {zm zw aa ss bq ee wr : Nat → Int32} {sd se mk : Nat → Int64} {i j k t : Nat} {q : KS_} {p : WS_} {x z s0 : Int64} {y : Int32} {fa fs fe fb fp d1 d2 d3 dx dy dz r r1 A B R S O O1 : Nat → Int32} {F : Nat → Int64}
def kr_ (q : KS_) (zm : Nat → Int32) (sd se mk : Nat → Int64) (aa ss bq ee : Nat → Int32) (i : Nat) : Prop :=
  q.1 = zm i ∧ bo_ (zm i) ∧ (¬ zm i = 0 → q.2.1 = se i ∧ q.2.2.1 = mk i ∧ (∀ t, t < 64 → q.2.2.2.1 t = aa (64 * i + t) ∧ nv_ (aa (64 * i + t)) < 32768) ∧ (∀ t, t < 32 → q.2.2.2.2.1 t = ss (32 * i + t) ∧ nv_ (ss (32 * i + t)) < 32768) ∧ (∀ t, t < 32 → q.2.2.2.2.2.1 t = ee (32 * i + t)) ∧ (∀ t, t < 32 → q.2.2.2.2.2.2.1 t = bq (32 * i + t) ∧ nv_ (bq (32 * i + t)) < 32768) ∧
    (∀ t, t < 8 → q.2.2.2.2.2.2.2 t = (jl_ushr (sd i) (nI (8 * t)) &&& 255).toInt32) ∧ ∀ t, 8 ≤ t → t < 68 → q.2.2.2.2.2.2.2 t = nI (fo_ (sg_ (fun k => bq (32 * i + k))) (8 * (t - 8)) 8))
def wr_ (p : WS_) (zw wr : Nat → Int32) (i : Nat) : Prop := p.1 = zw i ∧ bo_ (zw i) ∧ (¬ zw i = 0 → ∀ t, t < 90 → p.2 t = wr (90 * i + t) ∧ nv_ (wr (90 * i + t)) < 256)
theorem ts_v (a : Nat) {n : Nat} (h : t < n) : ts_ F a r n t = sv_ F (a + t) := if_pos h
theorem ts_v0 {n : Nat} (h : t < n) : ts_ F 0 r n t = sv_ F t := by rw [ts_v 0 h, Nat.zero_add]
theorem ka_v (h : t < 64) : ka_ z fa t = ae_ (se_ z) t := if_pos h
theorem kb_v (h : t < 32) : kb_ z x fa fs fe fb t = kq_ z x t := by
  have e : kb_ z x fa fs fe fb t = te_ (ts_ (ke_ x) 32 fe 32) (ka_ z fa) (ts_ (ke_ x) 0 fs 32) (nI 1) 8 4 t := if_pos h
  rw [e]
  exact te_c (ts_v 32 h) (fun k hk => ⟨ka_v (by omega), ts_v0 (by omega)⟩)
theorem kp_s (h : t < 8) : kp_ z x fa fs fe fb fp t = (jl_ushr (se_ z) (nI (8 * t)) &&& 255).toInt32 := by
  have e : kp_ z x fa fs fe fb fp t = (jl_ushr (se_ z) (nI (8 * t))).toInt32 &&& nI 255 := by
    unfold kp_ pw_ pu_
    rw [if_neg (by omega), if_pos h]
  rw [e]
  refine ib_ext (fun i hi => ?_)
  rw [ib_and, ib_255 i hi, ib_l2i _ hi, ib_l2i _ hi, jb_and, jb_255]
theorem kp_b (h8 : 8 ≤ t) (h : t < 68) : kp_ z x fa fs fe fb fp t = by_ (kq_ z x) (t - 8) := by
  have e : kp_ z x fa fs fe fb fp t = by_ (kb_ z x fa fs fe fb) (t - 8) := if_pos ⟨h8, h⟩
  rw [e]
  exact by_c (fun k hk => kb_v (by omega))
theorem nv_kq : nv_ (kq_ z x t) < 32768 := nv_te
theorem kp_f (h8 : 8 ≤ t) (h : t < 68) (hb : ∀ k, k < 32 → bq (32 * i + k) = kq_ z x k) : kp_ z x fa fs fe fb fp t = nI (fo_ (sg_ (fun k => bq (32 * i + k))) (8 * (t - 8)) 8) := by
  rw [kp_b h8 h, ← by_n (e0 := fun k => bq (32 * i + k)) (fun k hk => by rw [hb k (by omega)]; exact nv_kq)]
  exact (by_c (fun k hk => hb k (by omega))).symm
theorem lb_bt {a : Nat} (ha : a < 8) : ((jl_ushr x (nI (8 * a)) &&& 255).toInt32).toInt64 &&& 255 = lb_ x a &&& 255 := by
  rw [show (jl_ushr x (nI (8 * a)) &&& 255).toInt32 = bt_ (jl_ushr x (nI (8 * a))) from rfl, bt_l, and_255, lb_255 x ha]
theorem km_v : km_ (kp_ z x fa fs fe fb fp) = kw_ z x := by
  unfold km_ kw_
  refine congrFun (sh_c8 (k := 68) (fun t ht => ?_)) 0
  by_cases h8 : t < 8
  · rw [ct_l h8]
    show (kp_ z x fa fs fe fb fp t).toInt64 &&& 255 = _
    rw [kp_s h8, lb_bt h8]
  · show (kp_ z x fa fs fe fb fp t).toInt64 &&& 255 = _
    unfold ct_
    rw [if_neg h8, kp_b (by omega) ht]
theorem kr_make (hi : i < 4) : kr_ (kn_ q s0 x z) (upd zm i (nI 1)) (vp_updL sd i (se_ z)) (vp_updL se i s0) (vp_updL mk i (kw_ z x)) (bf_ aa (64 * i) 64 (ae_ (se_ z))) (bf_ ss (32 * i) 32 (sv_ (ke_ x))) (bf_ bq (32 * i) 32 (kq_ z x)) (bf_ ee (32 * i) 32 (fun k => sv_ (ke_ x) (32 + k))) i := by
  have e1 : upd zm i (nI 1) i = nI 1 := if_pos rfl
  have e2 : vp_updL sd i (se_ z) i = se_ z := if_pos rfl
  have e3 : vp_updL se i s0 i = s0 := if_pos rfl
  have e4 : vp_updL mk i (kw_ z x) i = kw_ z x := if_pos rfl
  refine ⟨e1.symm, by rw [e1]; exact Or.inr rfl, fun _ => ⟨e3.symm, by rw [e4]; exact km_v, fun t ht => ?_, fun t ht => ?_, fun t ht => ?_, fun t ht => ?_, fun t ht => ?_, fun t h8 ht => ?_⟩⟩
  · rw [bf_i ht]
    exact ⟨ka_v ht, nv_ae⟩
  · rw [bf_i ht]
    exact ⟨ts_v0 ht, nv_sv⟩
  · rw [bf_i ht]
    exact ts_v 32 ht
  · rw [bf_i ht]
    exact ⟨kb_v ht, nv_kq⟩
  · rw [e2]
    exact kp_s ht
  · exact kp_f h8 ht (fun k hk => bf_i hk)
theorem kr_o {i0 : Nat} {a0 : Int32} {b0 c0 : Int64} {m0 : Int64} {FA FS FB FE : Nat → Int32} (hi : i ≠ i0) (h : kr_ q zm sd se mk aa ss bq ee i) : kr_ q (upd zm i0 a0) (vp_updL sd i0 b0) (vp_updL se i0 c0) (vp_updL mk i0 m0) (bf_ aa (64 * i0) 64 FA) (bf_ ss (32 * i0) 32 FS) (bf_ bq (32 * i0) 32 FB) (bf_ ee (32 * i0) 32 FE) i := by
  have e1 : upd zm i0 a0 i = zm i := if_neg hi
  have e2 : vp_updL sd i0 b0 i = sd i := if_neg hi
  have e3 : vp_updL se i0 c0 i = se i := if_neg hi
  have e4 : vp_updL mk i0 m0 i = mk i := if_neg hi
  obtain ⟨h1, h2, h3⟩ := h
  refine ⟨by rw [e1]; exact h1, by rw [e1]; exact h2, fun hz => ?_⟩
  rw [e1] at hz
  obtain ⟨g1, g2, g3, g4, g5, g6, g7, g8⟩ := h3 hz
  have eb : ∀ t, t < 32 → bf_ bq (32 * i0) 32 FB (32 * i + t) = bq (32 * i + t) := fun t ht => bf_o (by omega)
  refine ⟨by rw [e3]; exact g1, by rw [e4]; exact g2, fun t ht => ?_, fun t ht => ?_, fun t ht => ?_, fun t ht => ?_, fun t ht => ?_, fun t h8 ht => ?_⟩
  · rw [bf_o (by omega)]
    exact g3 t ht
  · rw [bf_o (by omega)]
    exact g4 t ht
  · rw [bf_o (by omega)]
    exact g5 t ht
  · rw [eb t ht]
    exact g6 t ht
  · rw [e2]
    exact g7 t ht
  · rw [g8 t h8 ht]
    refine congrArg nI (fo_cg 8 (fun k hk => ?_))
    show ib_ (bq (32 * i + (8 * (t - 8) + k) / 15)) (14 - (8 * (t - 8) + k) % 15) = ib_ (bf_ bq (32 * i0) 32 FB (32 * i + (8 * (t - 8) + k) / 15)) (14 - (8 * (t - 8) + k) % 15)
    rw [eb _ (by omega)]
theorem nv_255 (x : Int32) : nv_ (x &&& nI 255) < 256 := by
  unfold nv_
  rw [Int32.toBitVec_and, BitVec.toNat_and]
  exact Nat.lt_of_le_of_lt Nat.and_le_right (by decide)
theorem nv_by : nv_ (by_ r t) < 256 := nv_255 _
theorem nv_wz : nv_ (wz_ F A B y t) < 256 := by
  unfold wz_
  split <;> exact nv_by
theorem sx_v (h : t < 32) (hA : ∀ t, t < 64 → fa t = A t) : sx_ x fa d1 d2 dx t = wx_ (nn_ x) A t := by
  have e : sx_ x fa d1 d2 dx t = te_ (ts_ (nn_ x) 32 d2 32) (ts_ (nn_ x) 0 d1 32) fa (nI 1) 8 8 t := if_pos h
  rw [e]
  exact te_c (ts_v 32 h) (fun k hk => ⟨ts_v0 (by omega), hA _ (by omega)⟩)
theorem sy_v (h : t < 16) (hB : ∀ t, t < 32 → fb t = B t) : sy_ x fb d1 d3 dy t = te_ (fun k => sv_ (nn_ x) (64 + k)) (sv_ (nn_ x)) B (nI 1) 8 4 t := by
  have e : sy_ x fb d1 d3 dy t = te_ (ts_ (nn_ x) 64 d3 16) (ts_ (nn_ x) 0 d1 32) fb (nI 1) 8 4 t := if_pos h
  rw [e]
  exact te_c (ts_v 64 h) (fun k hk => ⟨ts_v0 (by omega), hB _ (by omega)⟩)
theorem ac_v (h : t < 16) (hB : ∀ t, t < 32 → fb t = B t) : ac_ y (sy_ x fb d1 d3 dy) 16 t = wy_ (nn_ x) B y t := by
  have e : ac_ y (sy_ x fb d1 d3 dy) 16 t = ce_ y (sy_ x fb d1 d3 dy) t := if_pos h
  rw [e]
  unfold wy_ ce_
  rw [sy_v h hB]
theorem sr_v (h : t < 90) (hA : ∀ t, t < 64 → fa t = A t) (hB : ∀ t, t < 32 → fb t = B t) : sr_ (mb_ x y 0) y fa fb d1 d2 d3 dx dy r t = wz_ (wg_ x y) A B y t := by
  unfold wz_ wg_
  by_cases h6 : t < 60
  · rw [if_pos h6]
    have e : sr_ (mb_ x y 0) y fa fb d1 d2 d3 dx dy r t = by_ (sx_ (mb_ x y 0) fa d1 d2 dx) t := by
      unfold sr_ pw_
      rw [if_neg (by omega), if_pos (by omega), Nat.sub_zero]
    rw [e]
    exact by_c (fun k hk => sx_v (by omega) hA)
  · rw [if_neg h6]
    have e : sr_ (mb_ x y 0) y fa fb d1 d2 d3 dx dy r t = by_ (ac_ y (sy_ (mb_ x y 0) fb d1 d3 dy) 16) (t - 60) := by
      unfold sr_ pw_
      rw [if_pos (by omega)]
    rw [e]
    exact by_c (fun k hk => ac_v (by omega) hB)
theorem rl_c {n : Nat} (h : ∀ t, t < n → r t = r1 t) : sh_ (rl_ r n x) (n + 8) = sh_ (rl_ r1 n x) (n + 8) := by
  refine sh_congr (fun t ht => ?_)
  unfold rl_ ct_
  by_cases hn : t < n
  · rw [if_pos hn, if_pos hn]
    exact congrArg Int32.toInt64 (h t hn)
  · rw [if_neg hn, if_neg hn]
theorem wv_v (hA : ∀ t, t < 64 → fa t = A t) (hB : ∀ t, t < 32 → fb t = B t) : sh_ (rl_ (sr_ (mb_ x y 0) y fa fb d1 d2 d3 dx dy r) 90 (mb_ x y 1)) 98 0 = wv_ x A B y := congrFun (rl_c (n := 90) (fun t ht => sr_v ht hA hB)) 0
theorem oy_v (h : t < 16) (hr : ∀ t, t < 90 → r t = R t ∧ nv_ (R t) < 256) : oy_ r dy t = nI (fo_ (sy8_ R) (15 * (32 + t)) 15) := by
  have e : oy_ r dy t = ue_ r 60 t := if_pos h
  rw [e, ue_n (fun k hk => by rw [(hr k hk).1]; exact (hr k hk).2) (by omega)]
  refine congrArg nI (fo_cg 15 (fun k hk => ?_))
  show ib_ (r (60 + (15 * t + k) / 8)) (7 - (15 * t + k) % 8) = ib_ (R ((15 * (32 + t) + k) / 8)) (7 - (15 * (32 + t) + k) % 8)
  rw [(hr (60 + (15 * t + k) / 8) (by omega)).1, show (15 * (32 + t) + k) / 8 = 60 + (15 * t + k) / 8 by omega, show (15 * (32 + t) + k) % 8 = (15 * t + k) % 8 by omega]
theorem ox_v (h : t < 32) (hr : ∀ t, t < 90 → r t = R t ∧ nv_ (R t) < 256) : ox_ r dx t = nI (fo_ (sy8_ R) (15 * t) 15) := by
  have e : ox_ r dx t = ue_ r 0 t := if_pos h
  rw [e, ue_n (fun k hk => by rw [(hr k hk).1]; exact (hr k hk).2) (by omega)]
  refine congrArg nI (fo_cg 15 (fun k hk => ?_))
  show ib_ (r (0 + (15 * t + k) / 8)) (7 - (15 * t + k) % 8) = ib_ (R ((15 * t + k) / 8)) (7 - (15 * t + k) % 8)
  rw [(hr (0 + (15 * t + k) / 8) (by omega)).1, Nat.zero_add]
theorem oz_v (h : t < 16) (hr : ∀ t, t < 90 → r t = R t ∧ nv_ (R t) < 256) (hS : ∀ t, t < 32 → fs t = S t) : oz_ r fs dx dy dz t = rw_ R S t := by
  have e : oz_ r fs dx dy dz t = te_ (oy_ r dy) (ox_ r dx) fs (-1) 8 4 t := if_pos h
  rw [e]
  exact te_c (oy_v h hr) (fun k hk => ⟨ox_v (by omega) hr, hS _ (by omega)⟩)
theorem ms_cg : ∀ n, (∀ k, k < n → O k = O1 k) → ms_ O n = ms_ O1 n := by
  intro n
  induction n with
  | zero => intro _; rfl
  | succ n ih =>
    intro h
    rw [ms_s, ms_s, ih (fun k hk => h k (by omega)), h n (by omega)]
theorem um_v (hr : ∀ t, t < 90 → r t = R t ∧ nv_ (R t) < 256) (hS : ∀ t, t < 32 → fs t = S t) : um_ r fs dx dy dz = ms_ (rw_ R S) 16 := ms_cg 16 (fun k hk => oz_v hk hr hS)
theorem no_v {a b : Nat} (ha : a < 4) (hb : b < 4) (hr : ∀ t, t < 90 → r t = R t ∧ nv_ (R t) < 256) (hS : ∀ t, t < 32 → fs t = S t) : jv_rem (oz_ r fs dx dy dz (a * 4 + b) + nI 4096) (nI 8192) - nI 4096 = nI ((nv_ (rw_ R S (a * 4 + b)) + 4096) % 8192) - nI 4096 := by
  have h1 : nv_ (rw_ R S (a * 4 + b)) < 32768 := nv_te
  have h2 : rw_ R S (a * 4 + b) = nI (nv_ (rw_ R S (a * 4 + b))) := (nI_nv _).symm
  rw [oz_v (by omega) hr hS]
  generalize nv_ (rw_ R S (a * 4 + b)) = q at *
  rw [h2, nI_add, jr_ (by omega) (by decide) (by decide)]
theorem or_0 {x y : Int32} : x ||| y = 0 ↔ x = 0 ∧ y = 0 := by
  refine ⟨fun h => ?_, fun h => by rw [h.1, h.2]; decide⟩
  have hb : ∀ i, (ib_ x i || ib_ y i) = false := fun i => by rw [← ib_or, h, ib_0]
  refine ⟨ib_ext (fun i _ => ?_), ib_ext (fun i _ => ?_)⟩
  · have := hb i
    rw [Bool.or_eq_false_iff] at this
    rw [this.1, ib_0]
  · have := hb i
    rw [Bool.or_eq_false_iff] at this
    rw [this.2, ib_0]
theorem xor_0 {x y : Int32} : x ^^^ y = 0 ↔ x = y := by
  refine ⟨fun h => ib_ext (fun i _ => ?_), fun h => by rw [h]; refine ib_ext (fun i _ => ?_); rw [ib_xor, ib_0, Bool.xor_self]⟩
  have hb : (ib_ x i ^^ ib_ y i) = false := by rw [← ib_xor, h, ib_0]
  revert hb
  cases ib_ x i <;> cases ib_ y i <;> simp
theorem ig_0 : ∀ n, ig_ r r1 n = 0 ↔ ∀ k, k < n → r k = r1 k := by
  intro n
  induction n with
  | zero => exact ⟨fun _ k hk => absurd hk (Nat.not_lt_zero k), fun _ => nI_0⟩
  | succ n ih =>
    show ig_ r r1 n ||| (r n ^^^ r1 n) = 0 ↔ _
    rw [or_0, xor_0, ih]
    refine ⟨fun h k hk => ?_, fun h => ⟨fun k hk => h k (by omega), h n (by omega)⟩⟩
    by_cases e : k = n
    · rw [e]; exact h.2
    · exact h.1 k (by omega)
end RL
