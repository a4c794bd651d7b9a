section CB
variable {p : Program} {l : Launch} {e : Env} {R : Room} {s : State} {m : MethodId} {args : Array Value} {below : List Frame} {meth : Method} {c : Code} {Q : State → Prop} {cells slots : Nat}
variable {D : va_G} {tc : Nat → ClassId} {sz b L t d k : Nat} {w w0 w1 : Nat → va_E} {tk : Nat → Nat} {xs : Nat → Int32} {post : Option Value → (Nat → va_E) → Prop} {y : Int32}
theorem me_v {κ : KS_} {sd se mk : Nat → Int64} {aa ss bq ee : Nat → Int32} {i q a b9 : Nat} (hq : q ≤ 3) (ha : a < 8) (hb : b9 < mc_ q) (g : κ.2.1 = se i ∧ κ.2.2.1 = mk i ∧ (∀ t, t < 64 → κ.2.2.2.1 t = aa (64 * i + t) ∧ nv_ (aa (64 * i + t)) < 32768) ∧ (∀ t, t < 32 → κ.2.2.2.2.1 t = ss (32 * i + t) ∧ nv_ (ss (32 * i + t)) < 32768) ∧ (∀ t, t < 32 → κ.2.2.2.2.2.1 t = ee (32 * i + t)) ∧ (∀ t, t < 32 → κ.2.2.2.2.2.2.1 t = bq (32 * i + t) ∧ nv_ (bq (32 * i + t)) < 32768) ∧
    (∀ t, t < 8 → κ.2.2.2.2.2.2.2 t = (jl_ushr (sd i) (nI (8 * t)) &&& 255).toInt32) ∧ ∀ t, 8 ≤ t → t < 68 → κ.2.2.2.2.2.2.2 t = nI (fo_ (sg_ (fun k => bq (32 * i + k))) (8 * (t - 8)) 8)) : me_ κ q (a * mc_ q + b9) = men_ aa ss bq ee i q (a * mc_ q + b9) := by
  obtain ⟨g1, g2, g3, g4, g5, g6, g7, g8⟩ := g
  have h2 : q = 0 ∨ q = 1 ∨ q = 2 ∨ q = 3 := by omega
  rcases h2 with rfl | rfl | rfl | rfl
  · have hb : b9 < 8 := hb
    exact (g3 (a * 8 + b9) (by omega)).1
  · have hb : b9 < 4 := hb
    exact (g4 (a * 4 + b9) (by omega)).1
  · have hb : b9 < 4 := hb
    exact (g6 (a * 4 + b9) (by omega)).1
  · have hb : b9 < 4 := hb
    exact g5 (a * 4 + b9) (by omega)
set_option maxHeartbeats 4000000 in
theorem k_make (hl : l.stackTraces = false) (X : cx_ p s m args c code 8 R_Q D tc sz tk) (hS : sx_ok sz s b L xs) (hL : 8 * t + 8 ≤ L) (hR : rr_ R cells slots) (HI : inv_ tc sz w) (kk : ∀ w1 : Nat → va_E, inv_ tc sz w1 → pm_G p l e R s m args below meth c Q D cl_ sz 8 none 91 (cells + 5) (slots + 30) w1 1147 [(0, .ref b), (1, .ref (sz + 0)), (2, .ref (sz + 69)), (3, .ref (sz + 90)), (4, .int (nI (8 * t)))] []) : pm_G p l e R s m args below meth c Q D cl_ sz 8 none 91 cells slots w 104 [(0, .ref b), (1, .ref (sz + 0)), (2, .ref (sz + 69)), (3, .ref (sz + 90)), (4, .int (nI (8 * t)))] [] := by
  obtain ⟨κ, ρ, co, zm, sd, se, mk, aa, ss, bq, ee, zw, wr, fo, H, M, Kr, Wr, ho⟩ := HI
  refine a_make X hS hL hR (q_make hl H ho) (fun v w1 hq => ?_)
  rcases hq with hq | hq
  · obtain ⟨rfl, rfl, h9⟩ := hq
    obtain ⟨ht, hf, f, g, h, r, u, sm, xx, yy, he⟩ := M
    have hM : mm_ l y_R_make c_R_make 11 (some .long) (rm_ 4) D tc sz tk [.ref (sz + 69), .int (xs (8 * t + 1)), .long (jl_shl (xs (8 * t + 2)).toInt64 (nI 32) ||| ((xs (8 * t + 3)).toInt64 &&& 4294967295)), .long (jl_shl (xs (8 * t + 4)).toInt64 (nI 32) ||| ((xs (8 * t + 5)).toInt64 &&& 4294967295)), .long (jl_shl (xs (8 * t + 6)).toInt64 (nI 32) ||| ((xs (8 * t + 7)).toInt64 &&& 4294967295))] none 91 (rq_ tc sz (mn_ tc w1 zm sd se mk aa ss bq ee zw wr sm xx yy) co 0 f g h r u) none 91 _ := m_R_make_no h9
    refine c_make X hS hL hR (k := 1) (by decide) he ⟨_, rq_69⟩ (by decide) hM (fun v w2 hq2 => ?_) kk
    obtain ⟨rfl, rfl⟩ := hq2
    exact ⟨_, fo, rfl, re_of H ht hf Kr Wr ho, fun h9 => absurd h9 (by decide)⟩
  · obtain ⟨rfl, i, hi, hy, H2, M2⟩ := hq
    have M9 := mz_eq M (ok_90 M2)
    obtain ⟨-, fo1, ho1, hx1⟩ := M2
    obtain ⟨ht, hf, f, g, h, r, u, sm, xx, yy, he⟩ := M9
    have hM : mm_ l y_R_make c_R_make 11 (some .long) (rm_ 4) D tc sz tk [.ref (sz + 69), .int (nI i), .long (jl_shl (xs (8 * t + 2)).toInt64 (nI 32) ||| ((xs (8 * t + 3)).toInt64 &&& 4294967295)), .long (jl_shl (xs (8 * t + 4)).toInt64 (nI 32) ||| ((xs (8 * t + 5)).toInt64 &&& 4294967295)), .long (jl_shl (xs (8 * t + 6)).toInt64 (nI 32) ||| ((xs (8 * t + 7)).toInt64 &&& 4294967295))] none 91 (rq_ tc sz (mn_ tc w1 zm sd se mk aa ss bq ee zw wr sm xx yy) co 0 f g h r u) none 91 _ := m_R_make hi ht hf
    rw [← hy] at hM
    refine c_make X hS hL hR (k := 0) (by decide) he ⟨_, rq_69⟩ (by decide) hM (fun v w2 hq2 => ?_) kk
    obtain ⟨rfl, f1, g1, h1, r1, u1, rfl⟩ := hq2
    exact ⟨_, fo1, rfl, re_of H2 ht hf (up_all (P := fun a q => kr_ a _ _ _ _ _ _ _ _ q) (kr_make hi) (fun q hq hn => kr_o hn (Kr q hq))) Wr ho1, fun _ => hx1.trans km_v⟩
set_option maxHeartbeats 4000000 in
theorem k_wrap (hl : l.stackTraces = false) (X : cx_ p s m args c code 8 R_Q D tc sz tk) (hS : sx_ok sz s b L xs) (hL : 8 * t + 8 ≤ L) (hR : rr_ R cells slots) (HI : inv_ tc sz w) (kk : ∀ w1 : Nat → va_E, inv_ tc sz w1 → pm_G p l e R s m args below meth c Q D cl_ sz 8 none 91 (cells + 5) (slots + 30) w1 1147 [(0, .ref b), (1, .ref (sz + 0)), (2, .ref (sz + 69)), (3, .ref (sz + 90)), (4, .int (nI (8 * t)))] []) : pm_G p l e R s m args below meth c Q D cl_ sz 8 none 91 cells slots w 295 [(0, .ref b), (1, .ref (sz + 0)), (2, .ref (sz + 69)), (3, .ref (sz + 90)), (4, .int (nI (8 * t)))] [] := by
  obtain ⟨κ, ρ, co, zm, sd, se, mk, aa, ss, bq, ee, zw, wr, fo, H, M, Kr, Wr, ho⟩ := HI
  refine a_wrap X hS hL hR (q_wrap hl H ho) (fun v w1 hq => ?_)
  rcases hq with hq | hq | hq
  · obtain ⟨rfl, rfl, h9⟩ := hq
    obtain ⟨ht, hf, f, g, h, r, u, sm, xx, yy, he⟩ := M
    have hM : mm_ l y_R_wrap c_R_wrap 4 (some .long) (rm_ 5) D tc sz tk [.ref (sz + 69), .int (xs (8 * t + 1)), .int (xs (8 * t + 2)), .int (xs (8 * t + 3))] none 91 (rq_ tc sz (mn_ tc w1 zm sd se mk aa ss bq ee zw wr sm xx yy) co 0 f g h r u) none 91 _ := m_R_wrap_1 h9
    refine c_wrap X hS hL hR (k := 1) (by decide) he ⟨_, rq_69⟩ (by decide) hM (fun v w2 hq2 => ?_) kk
    obtain ⟨rfl, rfl⟩ := hq2
    exact ⟨_, fo, rfl, re_of H ht hf Kr Wr ho, fun h9 => absurd h9 (by decide)⟩
  · obtain ⟨rfl, rfl, i, j, hi, hj, hy, hz, h9⟩ := hq
    obtain ⟨ht, hf, f, g, h, r, u, sm, xx, yy, he⟩ := M
    have hM : mm_ l y_R_wrap c_R_wrap 4 (some .long) (rm_ 5) D tc sz tk [.ref (sz + 69), .int (nI i), .int (nI j), .int (xs (8 * t + 3))] none 91 (rq_ tc sz (mn_ tc w1 zm sd se mk aa ss bq ee zw wr sm xx yy) co 0 f g h r u) none 91 _ := m_R_wrap_2 hi hj ((Kr j hj).1.symm.trans h9)
    rw [← hy, ← hz] at hM
    refine c_wrap X hS hL hR (k := 2) (by decide) he ⟨_, rq_69⟩ (by decide) hM (fun v w2 hq2 => ?_) kk
    obtain ⟨rfl, rfl⟩ := hq2
    exact ⟨_, fo, rfl, re_of H ht hf Kr Wr ho, fun h9 => absurd h9 (by decide)⟩
  · obtain ⟨rfl, i, j, R1, d1, d2, d3, dx, dy, hi, hj, hy, hz, h3, hR1, H2, M2⟩ := hq
    have M9 := mz_eq M (ok_90 M2)
    obtain ⟨-, fo1, ho1, hx1⟩ := M2
    obtain ⟨ht, hf, f, g, h, r, u, sm, xx, yy, he⟩ := M9
    have hzj : ¬ zm j = 0 := fun e9 => h3 ((Kr j hj).1.trans e9)
    obtain ⟨g1, g2, g3, g4, g5, g6, g7, g8⟩ := (Kr j hj).2.2 hzj
    have hM : mm_ l y_R_wrap c_R_wrap 4 (some .long) (rm_ 5) D tc sz tk [.ref (sz + 69), .int (nI i), .int (nI j), .int (xs (8 * t + 3))] none 91 (rq_ tc sz (mn_ tc w1 zm sd se mk aa ss bq ee zw wr sm xx yy) co 0 f g h r u) none 91 _ := m_R_wrap_0 hi hj hzj ht hf (fun t ht => (g3 t ht).2) (fun t ht => (g6 t ht).2)
    rw [← hy, ← hz] at hM
    refine c_wrap X hS hL hR (k := 0) (by decide) he ⟨_, rq_69⟩ (by decide) hM (fun v w2 hq2 => ?_) kk
    obtain ⟨rfl, f1, g1, h1, r1, u1, sm1, xx1, yy1, rfl⟩ := hq2
    refine ⟨_, fo1, rfl, re_of H2 ht hf Kr (up_all (P := fun a q => wr_ a _ _ q) (wr_i (fun t ht => ⟨?_, nv_wz⟩)) (fun q hq hn => wr_o hn (Wr q hq))) ho1, fun _ => hx1.trans ?_⟩
    · rw [hR1, g2]
      exact sr_v ht (fun t ht => (g3 t ht).1) (fun t ht => (g6 t ht).1)
    · rw [hR1, g2]
      exact wv_v (fun t ht => (g3 t ht).1) (fun t ht => (g6 t ht).1)
set_option maxHeartbeats 4000000 in
theorem k_unwrap (hl : l.stackTraces = false) (X : cx_ p s m args c code 8 R_Q D tc sz tk) (hS : sx_ok sz s b L xs) (hL : 8 * t + 8 ≤ L) (hR : rr_ R cells slots) (HI : inv_ tc sz w) (kk : ∀ w1 : Nat → va_E, inv_ tc sz w1 → pm_G p l e R s m args below meth c Q D cl_ sz 8 none 91 (cells + 5) (slots + 30) w1 1147 [(0, .ref b), (1, .ref (sz + 0)), (2, .ref (sz + 69)), (3, .ref (sz + 90)), (4, .int (nI (8 * t)))] []) : pm_G p l e R s m args below meth c Q D cl_ sz 8 none 91 cells slots w 374 [(0, .ref b), (1, .ref (sz + 0)), (2, .ref (sz + 69)), (3, .ref (sz + 90)), (4, .int (nI (8 * t)))] [] := by
  obtain ⟨κ, ρ, co, zm, sd, se, mk, aa, ss, bq, ee, zw, wr, fo, H, M, Kr, Wr, ho⟩ := HI
  refine a_unwrap X hS hL hR (q_unwrap hl H ho) (fun v w1 hq => ?_)
  rcases hq with hq | hq | hq
  · obtain ⟨rfl, rfl, h9⟩ := hq
    obtain ⟨ht, hf, f, g, h, r, u, sm, xx, yy, he⟩ := M
    have hM : mm_ l y_R_unwrap c_R_unwrap 7 (some .long) (rm_ 5) D tc sz tk [.ref (sz + 69), .int (xs (8 * t + 1)), .int (xs (8 * t + 2))] none 91 (rq_ tc sz (mn_ tc w1 zm sd se mk aa ss bq ee zw wr sm xx yy) co 0 f g h r u) none 91 _ := m_R_unwrap_1 h9
    refine c_unwrap X hS hL hR (k := 1) (by decide) he ⟨_, rq_69⟩ (by decide) hM (fun v w2 hq2 => ?_) kk
    obtain ⟨rfl, rfl⟩ := hq2
    exact ⟨_, fo, rfl, re_of H ht hf Kr Wr ho, fun h9 => absurd h9 (by decide)⟩
  · obtain ⟨rfl, rfl, i, j, hi, hj, hy, hz, h9⟩ := hq
    obtain ⟨ht, hf, f, g, h, r, u, sm, xx, yy, he⟩ := M
    have hM : mm_ l y_R_unwrap c_R_unwrap 7 (some .long) (rm_ 5) D tc sz tk [.ref (sz + 69), .int (nI i), .int (nI j)] none 91 (rq_ tc sz (mn_ tc w1 zm sd se mk aa ss bq ee zw wr sm xx yy) co 0 f g h r u) none 91 _ := m_R_unwrap_2 hi hj (h9.imp (fun e9 => (Wr i hi).1.symm.trans e9) (fun e9 => (Kr j hj).1.symm.trans e9))
    rw [← hy, ← hz] at hM
    refine c_unwrap X hS hL hR (k := 2) (by decide) he ⟨_, rq_69⟩ (by decide) hM (fun v w2 hq2 => ?_) kk
    obtain ⟨rfl, rfl⟩ := hq2
    exact ⟨_, fo, rfl, re_of H ht hf Kr Wr ho, fun h9 => absurd h9 (by decide)⟩
  · obtain ⟨rfl, i, j, M1, V, R1, d1, d2, d3, dx, dy, dz, dg, hi, hj, hy, hz, h3, h4, hM1, hR1, hV, H2, M2⟩ := hq
    have M9 := mz_eq M (ok_90 M2)
    obtain ⟨-, fo1, ho1, hx1⟩ := M2
    obtain ⟨ht, hf, f, g, h, r, u, sm, xx, yy, he⟩ := M9
    have hwi : ¬ zw i = 0 := fun e9 => h3 ((Wr i hi).1.trans e9)
    have hzj : ¬ zm j = 0 := fun e9 => h4 ((Kr j hj).1.trans e9)
    obtain ⟨g1, g2, g3, g4, g5, g6, g7, g8⟩ := (Kr j hj).2.2 hzj
    have gse := g1
    have ws := (Wr i hi).2.2 hwi
    have hM : mm_ l y_R_unwrap c_R_unwrap 7 (some .long) (rm_ 5) D tc sz tk [.ref (sz + 69), .int (nI i), .int (nI j)] none 91 (rq_ tc sz (mn_ tc w1 zm sd se mk aa ss bq ee zw wr sm xx yy) co 0 f g h r u) none 91 _ := m_R_unwrap_0 hi hj hwi hzj ht hf (fun t ht => (g3 t ht).2) (fun t ht => (g6 t ht).2) (fun t ht => (g4 t ht).2)
    rw [← hy, ← hz] at hM
    refine c_unwrap X hS hL hR (k := 0) (by decide) he ⟨_, rq_69⟩ (by decide) hM (fun v w2 hq2 => ?_) kk
    have hm : M1 = (ms_ (rw_ (fun q => wr (90 * i + q)) (fun q => ss (32 * j + q))) 16) := hM1.trans (um_v ws (fun t ht => (g4 t ht).1))
    rw [g2, hm] at hR1
    rw [g2, hm] at hV
    have hr1 : ∀ t, t < 90 → R1 t = wz_ (wg_ (mk j) (ms_ (rw_ (fun q => wr (90 * i + q)) (fun q => ss (32 * j + q))) 16)) (fun q => aa (64 * j + q)) (fun q => bq (32 * j + q)) (ms_ (rw_ (fun q => wr (90 * i + q)) (fun q => ss (32 * j + q))) 16) t := fun t ht => by
      rw [hR1]
      exact sr_v ht (fun t ht => (g3 t ht).1) (fun t ht => (g6 t ht).1)
    have hig : ig_ (ρ i).2 R1 90 = 0 ↔ ∀ k, k < 90 → wz_ (wg_ (mk j) (ms_ (rw_ (fun q => wr (90 * i + q)) (fun q => ss (32 * j + q))) 16)) (fun q => aa (64 * j + q)) (fun q => bq (32 * j + q)) (ms_ (rw_ (fun q => wr (90 * i + q)) (fun q => ss (32 * j + q))) 16) k = wr (90 * i + k) := (ig_0 90).trans ⟨fun h9 k hk => ((hr1 k hk).symm.trans (h9 k hk).symm).trans (ws k hk).1, fun h9 k hk => (ws k hk).1.trans ((hr1 k hk).trans (h9 k hk)).symm⟩
    obtain ⟨hq2, f1, g1, h1, r1, u1, sm1, xx1, yy1, rfl⟩ := hq2
    have hre := re_of (co := nI 0) (sm := sm1) (xx := xx1) (yy := yy1) (f := f1) (g := g1) (h := h1) (r := r1) (u := u1) H2 ht hf Kr (fun q hq => wr_o1 (i0 := 4) (F := wz_ (wg_ (mk j) (ms_ (rw_ (fun q => wr (90 * i + q)) (fun q => ss (32 * j + q))) 16)) (fun q => aa (64 * j + q)) (fun q => bq (32 * j + q)) (ms_ (rw_ (fun q => wr (90 * i + q)) (fun q => ss (32 * j + q))) 16)) (by omega) (Wr q hq)) ho1
    rcases hq2 with ⟨ha, rfl⟩ | ⟨ha, rfl⟩
    · rcases hV with ⟨hb, hV⟩ | ⟨hb, hV⟩
      · refine ⟨_, fo1, rfl, hre, fun _ => hx1.trans (hV.trans ?_)⟩
        rw [hR1]
        exact wv_v (fun t ht => (g3 t ht).1) (fun t ht => (g6 t ht).1)
      · exact absurd (hig.mpr ha) hb
    · rcases hV with ⟨hb, hV⟩ | ⟨hb, hV⟩
      · exact absurd (hig.mp hb) ha
      · refine ⟨_, fo1, rfl, hre, fun _ => hx1.trans (hV.trans ?_)⟩
        rw [gse]
        exact congrFun (rl_c (n := 90) (fun t ht => (ws t ht).1)) 0
set_option maxHeartbeats 4000000 in
theorem k_change (hl : l.stackTraces = false) (X : cx_ p s m args c code 8 R_Q D tc sz tk) (hS : sx_ok sz s b L xs) (hL : 8 * t + 8 ≤ L) (hR : rr_ R cells slots) (HI : inv_ tc sz w) (kk : ∀ w1 : Nat → va_E, inv_ tc sz w1 → pm_G p l e R s m args below meth c Q D cl_ sz 8 none 91 (cells + 5) (slots + 30) w1 1147 [(0, .ref b), (1, .ref (sz + 0)), (2, .ref (sz + 69)), (3, .ref (sz + 90)), (4, .int (nI (8 * t)))] []) : pm_G p l e R s m args below meth c Q D cl_ sz 8 none 91 cells slots w 441 [(0, .ref b), (1, .ref (sz + 0)), (2, .ref (sz + 69)), (3, .ref (sz + 90)), (4, .int (nI (8 * t)))] [] := by
  obtain ⟨κ, ρ, co, zm, sd, se, mk, aa, ss, bq, ee, zw, wr, fo, H, M, Kr, Wr, ho⟩ := HI
  refine a_change X hS hL hR (q_change hl H ho) (fun v w1 hq => ?_)
  rcases hq with hq | hq | hq | hq
  · obtain ⟨rfl, rfl, h9⟩ := hq
    obtain ⟨ht, hf, f, g, h, r, u, sm, xx, yy, he⟩ := M
    have hM : mm_ l y_R_change c_R_change 4 (some .int) (rm_ 3) D tc sz tk [.ref (sz + 69), .int (xs (8 * t + 1)), .int (xs (8 * t + 2)), .int (xs (8 * t + 3))] none 91 (rq_ tc sz (mn_ tc w1 zm sd se mk aa ss bq ee zw wr sm xx yy) co 0 f g h r u) none 91 _ := m_R_change_1 h9
    refine c_change X hS hL hR (k := 1) (by decide) he ⟨_, rq_69⟩ (by decide) hM (fun v w2 hq2 => ?_) kk
    obtain ⟨rfl, rfl⟩ := hq2
    exact ⟨_, fo, rfl, re_of H ht hf Kr Wr ho, fun h9 => absurd h9 (by decide)⟩
  · obtain ⟨rfl, rfl, i, hi, hy, h9⟩ := hq
    obtain ⟨ht, hf, f, g, h, r, u, sm, xx, yy, he⟩ := M
    have hM : mm_ l y_R_change c_R_change 4 (some .int) (rm_ 3) D tc sz tk [.ref (sz + 69), .int (nI i), .int (xs (8 * t + 2)), .int (xs (8 * t + 3))] none 91 (rq_ tc sz (mn_ tc w1 zm sd se mk aa ss bq ee zw wr sm xx yy) co 0 f g h r u) none 91 _ := m_R_change_2 hi ((Wr i hi).1.symm.trans h9)
    rw [← hy] at hM
    refine c_change X hS hL hR (k := 2) (by decide) he ⟨_, rq_69⟩ (by decide) hM (fun v w2 hq2 => ?_) kk
    obtain ⟨rfl, rfl⟩ := hq2
    exact ⟨_, fo, rfl, re_of H ht hf Kr Wr ho, fun h9 => absurd h9 (by decide)⟩
  · obtain ⟨rfl, rfl, i, hi, hy, h3, h9⟩ := hq
    obtain ⟨ht, hf, f, g, h, r, u, sm, xx, yy, he⟩ := M
    have hwi : ¬ zw i = 0 := fun e9 => h3 ((Wr i hi).1.trans e9)
    have hM : mm_ l y_R_change c_R_change 4 (some .int) (rm_ 3) D tc sz tk [.ref (sz + 69), .int (nI i), .int (xs (8 * t + 2)), .int (xs (8 * t + 3))] none 91 (rq_ tc sz (mn_ tc w1 zm sd se mk aa ss bq ee zw wr sm xx yy) co 0 f g h r u) none 91 _ := m_R_change_3 hi hwi h9
    rw [← hy] at hM
    refine c_change X hS hL hR (k := 3) (by decide) he ⟨_, rq_69⟩ (by decide) hM (fun v w2 hq2 => ?_) kk
    obtain ⟨rfl, rfl⟩ := hq2
    exact ⟨_, fo, rfl, re_of H ht hf Kr Wr ho, fun h9 => absurd h9 (by decide)⟩
  · obtain ⟨rfl, i, j, hi, hj, hy, hz, h3, H2, M2⟩ := hq
    have M9 := mz_eq M (ok_90 M2)
    obtain ⟨-, fo1, ho1, hx1⟩ := M2
    obtain ⟨ht, hf, f, g, h, r, u, sm, xx, yy, he⟩ := M9
    have hwi : ¬ zw i = 0 := fun e9 => h3 ((Wr i hi).1.trans e9)
    have ws := (Wr i hi).2.2 hwi
    have hM : mm_ l y_R_change c_R_change 4 (some .int) (rm_ 3) D tc sz tk [.ref (sz + 69), .int (nI i), .int (nI j), .int (xs (8 * t + 3))] none 91 (rq_ tc sz (mn_ tc w1 zm sd se mk aa ss bq ee zw wr sm xx yy) co 0 f g h r u) none 91 _ := m_R_change_0 hi hwi hj
    rw [← hy, ← hz] at hM
    refine c_change X hS hL hR (k := 0) (by decide) he ⟨_, rq_69⟩ (by decide) hM (fun v w2 hq2 => ?_) kk
    obtain ⟨rfl, rfl⟩ := hq2
    rw [(ws j hj).1] at H2 hx1
    exact ⟨_, fo1, rfl, re_of H2 ht hf Kr (up_all (P := fun a q => wr_ a _ _ q) (wr_c hwi (Wr i hi) hj (nv_xor (ws j hj).2 (nv_255 _))) (fun q hq hn => wr_co hn (Wr q hq) hj)) ho1, fun _ => hx1⟩
set_option maxHeartbeats 4000000 in
theorem k_copy (hl : l.stackTraces = false) (X : cx_ p s m args c code 8 R_Q D tc sz tk) (hS : sx_ok sz s b L xs) (hL : 8 * t + 8 ≤ L) (hR : rr_ R cells slots) (HI : inv_ tc sz w) (kk : ∀ w1 : Nat → va_E, inv_ tc sz w1 → pm_G p l e R s m args below meth c Q D cl_ sz 8 none 91 (cells + 5) (slots + 30) w1 1147 [(0, .ref b), (1, .ref (sz + 0)), (2, .ref (sz + 69)), (3, .ref (sz + 90)), (4, .int (nI (8 * t)))] []) : pm_G p l e R s m args below meth c Q D cl_ sz 8 none 91 cells slots w 521 [(0, .ref b), (1, .ref (sz + 0)), (2, .ref (sz + 69)), (3, .ref (sz + 90)), (4, .int (nI (8 * t)))] [] := by
  obtain ⟨κ, ρ, co, zm, sd, se, mk, aa, ss, bq, ee, zw, wr, fo, H, M, Kr, Wr, ho⟩ := HI
  refine a_copy X hS hL hR (q_copy hl H) (fun v w1 hq => ?_)
  rcases hq with hq | hq | hq
  · obtain ⟨rfl, rfl, h9⟩ := hq
    obtain ⟨ht, hf, f, g, h, r, u, sm, xx, yy, he⟩ := M
    have hM : mm_ l y_R_copy c_R_copy 4 none (rm_ 5) D tc sz tk [.ref (sz + 69), .int (xs (8 * t + 1)), .int (xs (8 * t + 2))] none 91 (rq_ tc sz (mn_ tc w1 zm sd se mk aa ss bq ee zw wr sm xx yy) co 0 f g h r u) none 91 _ := m_R_copy_1 h9
    refine c_copy X hS hL hR (k := 1) (by decide) he ⟨_, rq_69⟩ (by decide) hM (fun v w2 hq2 => ?_) kk
    obtain ⟨rfl, rfl⟩ := hq2
    exact ⟨fo, rfl, re_of H ht hf Kr Wr ho⟩
  · obtain ⟨rfl, rfl, i, j, hi, hj, hy, hz, h9⟩ := hq
    obtain ⟨ht, hf, f, g, h, r, u, sm, xx, yy, he⟩ := M
    have hM : mm_ l y_R_copy c_R_copy 4 none (rm_ 5) D tc sz tk [.ref (sz + 69), .int (nI i), .int (nI j)] none 91 (rq_ tc sz (mn_ tc w1 zm sd se mk aa ss bq ee zw wr sm xx yy) co 0 f g h r u) none 91 _ := m_R_copy_2 hi hj ((Wr i hi).1.symm.trans h9)
    rw [← hy, ← hz] at hM
    refine c_copy X hS hL hR (k := 2) (by decide) he ⟨_, rq_69⟩ (by decide) hM (fun v w2 hq2 => ?_) kk
    obtain ⟨rfl, rfl⟩ := hq2
    exact ⟨fo, rfl, re_of H ht hf Kr Wr ho⟩
  · obtain ⟨rfl, i, j, R1, hi, hj, hy, hz, h3, hR1, H2, M2⟩ := hq
    have M9 := mz_eq M (fun k h1 _ => M2 k h1)
    have ho1 := (M2 90 (by decide)).trans ho
    have fo1 := fo
    obtain ⟨ht, hf, f, g, h, r, u, sm, xx, yy, he⟩ := M9
    have hwi : ¬ zw i = 0 := fun e9 => h3 ((Wr i hi).1.trans e9)
    have ws := (Wr i hi).2.2 hwi
    have hM : mm_ l y_R_copy c_R_copy 4 none (rm_ 5) D tc sz tk [.ref (sz + 69), .int (nI i), .int (nI j)] none 91 (rq_ tc sz (mn_ tc w1 zm sd se mk aa ss bq ee zw wr sm xx yy) co 0 f g h r u) none 91 _ := m_R_copy_0 hi hj hwi
    rw [← hy, ← hz] at hM
    refine c_copy X hS hL hR (k := 0) (by decide) he ⟨_, rq_69⟩ (by decide) hM (fun v w2 hq2 => ?_) kk
    obtain ⟨rfl, rfl⟩ := hq2
    exact ⟨fo, rfl, re_of H2 ht hf Kr (up_all (P := fun a q => wr_ a _ _ q) (wr_i (fun t ht => ⟨(hR1 t ht).trans (ws t ht).1, (ws t ht).2⟩)) (fun q hq hn => wr_o hn (Wr q hq))) ho1⟩
set_option maxHeartbeats 4000000 in
theorem k_forget (hl : l.stackTraces = false) (X : cx_ p s m args c code 8 R_Q D tc sz tk) (hS : sx_ok sz s b L xs) (hL : 8 * t + 8 ≤ L) (hR : rr_ R cells slots) (HI : inv_ tc sz w) (kk : ∀ w1 : Nat → va_E, inv_ tc sz w1 → pm_G p l e R s m args below meth c Q D cl_ sz 8 none 91 (cells + 5) (slots + 30) w1 1147 [(0, .ref b), (1, .ref (sz + 0)), (2, .ref (sz + 69)), (3, .ref (sz + 90)), (4, .int (nI (8 * t)))] []) : pm_G p l e R s m args below meth c Q D cl_ sz 8 none 91 cells slots w 569 [(0, .ref b), (1, .ref (sz + 0)), (2, .ref (sz + 69)), (3, .ref (sz + 90)), (4, .int (nI (8 * t)))] [] := by
  obtain ⟨κ, ρ, co, zm, sd, se, mk, aa, ss, bq, ee, zw, wr, fo, H, M, Kr, Wr, ho⟩ := HI
  obtain ⟨y, hy0⟩ : ∃ y : Int32, y = if xs (8 * t + 1) = 0 then nI 0 else nI 1 := ⟨_, rfl⟩
  refine a_forget X hS hL hR hy0 (q_forget hl H ho (fun i hi => ⟨by rw [(Kr i hi).1]; exact (Kr i hi).2.1, by rw [(Wr i hi).1]; exact (Wr i hi).2.1⟩)) (fun v w1 hq => ?_)
  rcases hq with hq | ⟨rfl, i, hi, hy, hq | hq⟩
  · obtain ⟨rfl, rfl, h9⟩ := hq
    obtain ⟨ht, hf, f, g, h, r, u, sm, xx, yy, he⟩ := M
    have hM : mm_ l y_R_forget c_R_forget 4 (some .boolean) (rm_ 5) D tc sz tk [.ref (sz + 69), .int y, .int (xs (8 * t + 2))] none 91 (rq_ tc sz (mn_ tc w1 zm sd se mk aa ss bq ee zw wr sm xx yy) co 0 f g h r u) none 91 _ := m_R_forget_1 h9
    refine c_forget X hS hL hR (k := 1) (by decide) hy0 he ⟨_, rq_69⟩ (by decide) hM (fun v w2 hq2 => ?_) kk
    obtain ⟨rfl, rfl⟩ := hq2
    exact ⟨_, fo, rfl, re_of H ht hf Kr Wr ho, fun h9 => absurd h9 (by decide)⟩
  · obtain ⟨h9, H2, M2⟩ := hq
    have M9 := mz_eq M (ok_90 M2)
    obtain ⟨-, fo1, ho1, hx1⟩ := M2
    obtain ⟨ht, hf, f, g, h, r, u, sm, xx, yy, he⟩ := M9
    have hM : mm_ l y_R_forget c_R_forget 4 (some .boolean) (rm_ 5) D tc sz tk [.ref (sz + 69), .int y, .int (nI i)] none 91 (rq_ tc sz (mn_ tc w1 zm sd se mk aa ss bq ee zw wr sm xx yy) co 0 f g h r u) none 91 _ := m_R_forget_k hi h9 (Kr i hi).2.1
    rw [← hy] at hM
    refine c_forget X hS hL hR (k := 0) (by decide) hy0 he ⟨_, rq_69⟩ (by decide) hM (fun v w2 hq2 => ?_) kk
    obtain ⟨rfl, rfl⟩ := hq2
    rw [(Kr i hi).1] at hx1
    exact ⟨_, fo1, rfl, re_of H2 ht hf (up_all (P := fun a q => kr_ a _ _ _ _ _ _ _ _ q) kr_f (fun q hq hn => kr_fo hn (Kr q hq))) Wr ho1, fun _ => hx1⟩
  · obtain ⟨h9, H2, M2⟩ := hq
    have M9 := mz_eq M (ok_90 M2)
    obtain ⟨-, fo1, ho1, hx1⟩ := M2
    obtain ⟨ht, hf, f, g, h, r, u, sm, xx, yy, he⟩ := M9
    have hM : mm_ l y_R_forget c_R_forget 4 (some .boolean) (rm_ 5) D tc sz tk [.ref (sz + 69), .int y, .int (nI i)] none 91 (rq_ tc sz (mn_ tc w1 zm sd se mk aa ss bq ee zw wr sm xx yy) co 0 f g h r u) none 91 _ := m_R_forget_w hi h9 (Wr i hi).2.1
    rw [← hy] at hM
    refine c_forget X hS hL hR (k := 0) (by decide) hy0 he ⟨_, rq_69⟩ (by decide) hM (fun v w2 hq2 => ?_) kk
    obtain ⟨rfl, rfl⟩ := hq2
    rw [(Wr i hi).1] at hx1
    exact ⟨_, fo1, rfl, re_of H2 ht hf Kr (up_all (P := fun a q => wr_ a _ _ q) wr_f (fun q hq hn => wr_fo hn (Wr q hq))) ho1, fun _ => hx1⟩
set_option maxHeartbeats 4000000 in
theorem k_wrapByte (hl : l.stackTraces = false) (X : cx_ p s m args c code 8 R_Q D tc sz tk) (hS : sx_ok sz s b L xs) (hL : 8 * t + 8 ≤ L) (hR : rr_ R cells slots) (HI : inv_ tc sz w) (kk : ∀ w1 : Nat → va_E, inv_ tc sz w1 → pm_G p l e R s m args below meth c Q D cl_ sz 8 none 91 (cells + 5) (slots + 30) w1 1147 [(0, .ref b), (1, .ref (sz + 0)), (2, .ref (sz + 69)), (3, .ref (sz + 90)), (4, .int (nI (8 * t)))] []) : pm_G p l e R s m args below meth c Q D cl_ sz 8 none 91 cells slots w 660 [(0, .ref b), (1, .ref (sz + 0)), (2, .ref (sz + 69)), (3, .ref (sz + 90)), (4, .int (nI (8 * t)))] [] := by
  obtain ⟨κ, ρ, co, zm, sd, se, mk, aa, ss, bq, ee, zw, wr, fo, H, M, Kr, Wr, ho⟩ := HI
  refine a_wrapByte X hS hL hR (q_wrapByte hl H ho) (fun v w1 hq => ?_)
  rcases hq with hq | hq | hq | hq
  · obtain ⟨rfl, rfl, h9⟩ := hq
    obtain ⟨ht, hf, f, g, h, r, u, sm, xx, yy, he⟩ := M
    have hM : mm_ l y_R_wrapByte c_R_wrapByte 3 (some .int) (rm_ 3) D tc sz tk [.ref (sz + 69), .int (xs (8 * t + 1)), .int (xs (8 * t + 2))] none 91 (rq_ tc sz (mn_ tc w1 zm sd se mk aa ss bq ee zw wr sm xx yy) co 0 f g h r u) none 91 _ := m_R_wrapByte_1 h9
    refine c_wrapByte X hS hL hR (k := 1) (by decide) he ⟨_, rq_69⟩ (by decide) hM (fun v w2 hq2 => ?_) kk
    obtain ⟨rfl, rfl⟩ := hq2
    exact ⟨_, fo, rfl, re_of H ht hf Kr Wr ho, fun h9 => absurd h9 (by decide)⟩
  · obtain ⟨rfl, rfl, i, hi, hy, h9⟩ := hq
    obtain ⟨ht, hf, f, g, h, r, u, sm, xx, yy, he⟩ := M
    have hM : mm_ l y_R_wrapByte c_R_wrapByte 3 (some .int) (rm_ 3) D tc sz tk [.ref (sz + 69), .int (nI i), .int (xs (8 * t + 2))] none 91 (rq_ tc sz (mn_ tc w1 zm sd se mk aa ss bq ee zw wr sm xx yy) co 0 f g h r u) none 91 _ := m_R_wrapByte_2 hi ((Wr i hi).1.symm.trans h9)
    rw [← hy] at hM
    refine c_wrapByte X hS hL hR (k := 2) (by decide) he ⟨_, rq_69⟩ (by decide) hM (fun v w2 hq2 => ?_) kk
    obtain ⟨rfl, rfl⟩ := hq2
    exact ⟨_, fo, rfl, re_of H ht hf Kr Wr ho, fun h9 => absurd h9 (by decide)⟩
  · obtain ⟨rfl, rfl, i, hi, hy, h3, h9⟩ := hq
    obtain ⟨ht, hf, f, g, h, r, u, sm, xx, yy, he⟩ := M
    have hwi : ¬ zw i = 0 := fun e9 => h3 ((Wr i hi).1.trans e9)
    have hM : mm_ l y_R_wrapByte c_R_wrapByte 3 (some .int) (rm_ 3) D tc sz tk [.ref (sz + 69), .int (nI i), .int (xs (8 * t + 2))] none 91 (rq_ tc sz (mn_ tc w1 zm sd se mk aa ss bq ee zw wr sm xx yy) co 0 f g h r u) none 91 _ := m_R_wrapByte_3 hi hwi h9
    rw [← hy] at hM
    refine c_wrapByte X hS hL hR (k := 3) (by decide) he ⟨_, rq_69⟩ (by decide) hM (fun v w2 hq2 => ?_) kk
    obtain ⟨rfl, rfl⟩ := hq2
    exact ⟨_, fo, rfl, re_of H ht hf Kr Wr ho, fun h9 => absurd h9 (by decide)⟩
  · obtain ⟨rfl, i, j, hi, hj, hy, hz, h3, H2, M2⟩ := hq
    have M9 := mz_eq M (ok_90 M2)
    obtain ⟨-, fo1, ho1, hx1⟩ := M2
    obtain ⟨ht, hf, f, g, h, r, u, sm, xx, yy, he⟩ := M9
    have hwi : ¬ zw i = 0 := fun e9 => h3 ((Wr i hi).1.trans e9)
    have ws := (Wr i hi).2.2 hwi
    have hM : mm_ l y_R_wrapByte c_R_wrapByte 3 (some .int) (rm_ 3) D tc sz tk [.ref (sz + 69), .int (nI i), .int (nI j)] none 91 (rq_ tc sz (mn_ tc w1 zm sd se mk aa ss bq ee zw wr sm xx yy) co 0 f g h r u) none 91 _ := m_R_wrapByte_0 hi hwi hj
    rw [← hy, ← hz] at hM
    refine c_wrapByte X hS hL hR (k := 0) (by decide) he ⟨_, rq_69⟩ (by decide) hM (fun v w2 hq2 => ?_) kk
    obtain ⟨rfl, rfl⟩ := hq2
    rw [(ws j hj).1] at hx1
    exact ⟨_, fo1, rfl, re_of H2 ht hf Kr Wr ho1, fun _ => hx1⟩
set_option maxHeartbeats 4000000 in
theorem k_publicByte (hl : l.stackTraces = false) (X : cx_ p s m args c code 8 R_Q D tc sz tk) (hS : sx_ok sz s b L xs) (hL : 8 * t + 8 ≤ L) (hR : rr_ R cells slots) (HI : inv_ tc sz w) (kk : ∀ w1 : Nat → va_E, inv_ tc sz w1 → pm_G p l e R s m args below meth c Q D cl_ sz 8 none 91 (cells + 5) (slots + 30) w1 1147 [(0, .ref b), (1, .ref (sz + 0)), (2, .ref (sz + 69)), (3, .ref (sz + 90)), (4, .int (nI (8 * t)))] []) : pm_G p l e R s m args below meth c Q D cl_ sz 8 none 91 cells slots w 728 [(0, .ref b), (1, .ref (sz + 0)), (2, .ref (sz + 69)), (3, .ref (sz + 90)), (4, .int (nI (8 * t)))] [] := by
  obtain ⟨κ, ρ, co, zm, sd, se, mk, aa, ss, bq, ee, zw, wr, fo, H, M, Kr, Wr, ho⟩ := HI
  refine a_publicByte X hS hL hR (q_publicByte hl H ho) (fun v w1 hq => ?_)
  rcases hq with hq | hq | hq | hq
  · obtain ⟨rfl, rfl, h9⟩ := hq
    obtain ⟨ht, hf, f, g, h, r, u, sm, xx, yy, he⟩ := M
    have hM : mm_ l y_R_publicByte c_R_publicByte 3 (some .int) (rm_ 5) D tc sz tk [.ref (sz + 69), .int (xs (8 * t + 1)), .int (xs (8 * t + 2))] none 91 (rq_ tc sz (mn_ tc w1 zm sd se mk aa ss bq ee zw wr sm xx yy) co 0 f g h r u) none 91 _ := m_R_publicByte_1 h9
    refine c_publicByte X hS hL hR (k := 1) (by decide) he ⟨_, rq_69⟩ (by decide) hM (fun v w2 hq2 => ?_) kk
    obtain ⟨rfl, rfl⟩ := hq2
    exact ⟨_, fo, rfl, re_of H ht hf Kr Wr ho, fun h9 => absurd h9 (by decide)⟩
  · obtain ⟨rfl, rfl, i, hi, hy, h9⟩ := hq
    obtain ⟨ht, hf, f, g, h, r, u, sm, xx, yy, he⟩ := M
    have hM : mm_ l y_R_publicByte c_R_publicByte 3 (some .int) (rm_ 5) D tc sz tk [.ref (sz + 69), .int (nI i), .int (xs (8 * t + 2))] none 91 (rq_ tc sz (mn_ tc w1 zm sd se mk aa ss bq ee zw wr sm xx yy) co 0 f g h r u) none 91 _ := m_R_publicByte_2 hi ((Kr i hi).1.symm.trans h9)
    rw [← hy] at hM
    refine c_publicByte X hS hL hR (k := 2) (by decide) he ⟨_, rq_69⟩ (by decide) hM (fun v w2 hq2 => ?_) kk
    obtain ⟨rfl, rfl⟩ := hq2
    exact ⟨_, fo, rfl, re_of H ht hf Kr Wr ho, fun h9 => absurd h9 (by decide)⟩
  · obtain ⟨rfl, rfl, i, hi, hy, h3, h9⟩ := hq
    obtain ⟨ht, hf, f, g, h, r, u, sm, xx, yy, he⟩ := M
    have hzi : ¬ zm i = 0 := fun e9 => h3 ((Kr i hi).1.trans e9)
    have hM : mm_ l y_R_publicByte c_R_publicByte 3 (some .int) (rm_ 5) D tc sz tk [.ref (sz + 69), .int (nI i), .int (xs (8 * t + 2))] none 91 (rq_ tc sz (mn_ tc w1 zm sd se mk aa ss bq ee zw wr sm xx yy) co 0 f g h r u) none 91 _ := m_R_publicByte_3 hi hzi h9
    rw [← hy] at hM
    refine c_publicByte X hS hL hR (k := 3) (by decide) he ⟨_, rq_69⟩ (by decide) hM (fun v w2 hq2 => ?_) kk
    obtain ⟨rfl, rfl⟩ := hq2
    exact ⟨_, fo, rfl, re_of H ht hf Kr Wr ho, fun h9 => absurd h9 (by decide)⟩
  · obtain ⟨rfl, i, j, hi, hj, hy, hz, h3, H2, M2⟩ := hq
    by_cases h8 : j < 8
    · skip
      have M9 := mz_eq M (ok_90 M2)
      obtain ⟨-, fo1, ho1, hx1⟩ := M2
      obtain ⟨ht, hf, f, g, h, r, u, sm, xx, yy, he⟩ := M9
      have hzi : ¬ zm i = 0 := fun e9 => h3 ((Kr i hi).1.trans e9)
      obtain ⟨g1, g2, g3, g4, g5, g6, g7, g8⟩ := (Kr i hi).2.2 hzi
      have hM : mm_ l y_R_publicByte c_R_publicByte 3 (some .int) (rm_ 5) D tc sz tk [.ref (sz + 69), .int (nI i), .int (nI j)] none 91 (rq_ tc sz (mn_ tc w1 zm sd se mk aa ss bq ee zw wr sm xx yy) co 0 f g h r u) none 91 _ := m_R_publicByte_s hi hzi h8
      rw [← hy, ← hz] at hM
      refine c_publicByte X hS hL hR (k := 0) (by decide) he ⟨_, rq_69⟩ (by decide) hM (fun v w2 hq2 => ?_) kk
      obtain ⟨rfl, rfl⟩ := hq2
      rw [g7 j h8] at hx1
      exact ⟨_, fo1, rfl, re_of H2 ht hf Kr Wr ho1, fun _ => hx1⟩
    · skip
      have M9 := mz_eq M (ok_90 M2)
      obtain ⟨-, fo1, ho1, hx1⟩ := M2
      obtain ⟨ht, hf, f, g, h, r, u, sm, xx, yy, he⟩ := M9
      have hzi : ¬ zm i = 0 := fun e9 => h3 ((Kr i hi).1.trans e9)
      obtain ⟨g1, g2, g3, g4, g5, g6, g7, g8⟩ := (Kr i hi).2.2 hzi
      have hM : mm_ l y_R_publicByte c_R_publicByte 3 (some .int) (rm_ 5) D tc sz tk [.ref (sz + 69), .int (nI i), .int (nI j)] none 91 (rq_ tc sz (mn_ tc w1 zm sd se mk aa ss bq ee zw wr sm xx yy) co 0 f g h r u) none 91 _ := m_R_publicByte_b hi hzi (by omega) hj
      rw [← hy, ← hz] at hM
      refine c_publicByte X hS hL hR (k := 0) (by decide) he ⟨_, rq_69⟩ (by decide) hM (fun v w2 hq2 => ?_) kk
      obtain ⟨rfl, rfl⟩ := hq2
      rw [g8 j (by omega) hj] at hx1
      exact ⟨_, fo1, rfl, re_of H2 ht hf Kr Wr ho1, fun _ => hx1⟩
set_option maxHeartbeats 4000000 in
theorem k_entry (hl : l.stackTraces = false) (X : cx_ p s m args c code 8 R_Q D tc sz tk) (hS : sx_ok sz s b L xs) (hL : 8 * t + 8 ≤ L) (hR : rr_ R cells slots) (HI : inv_ tc sz w) (kk : ∀ w1 : Nat → va_E, inv_ tc sz w1 → pm_G p l e R s m args below meth c Q D cl_ sz 8 none 91 (cells + 5) (slots + 30) w1 1147 [(0, .ref b), (1, .ref (sz + 0)), (2, .ref (sz + 69)), (3, .ref (sz + 90)), (4, .int (nI (8 * t)))] []) : pm_G p l e R s m args below meth c Q D cl_ sz 8 none 91 cells slots w 796 [(0, .ref b), (1, .ref (sz + 0)), (2, .ref (sz + 69)), (3, .ref (sz + 90)), (4, .int (nI (8 * t)))] [] := by
  obtain ⟨κ, ρ, co, zm, sd, se, mk, aa, ss, bq, ee, zw, wr, fo, H, M, Kr, Wr, ho⟩ := HI
  refine a_entry X hS hL hR (q_entry hl H ho) (fun v w1 hq => ?_)
  rcases hq with hq | hq | hq | hq
  · obtain ⟨rfl, rfl, h9⟩ := hq
    obtain ⟨ht, hf, f, g, h, r, u, sm, xx, yy, he⟩ := M
    have hM : mm_ l y_R_entry c_R_entry 6 (some .int) (rm_ 5) D tc sz tk [.ref (sz + 69), .int (xs (8 * t + 1)), .int (xs (8 * t + 2)), .int (xs (8 * t + 3)), .int (xs (8 * t + 4))] none 91 (rq_ tc sz (mn_ tc w1 zm sd se mk aa ss bq ee zw wr sm xx yy) co 0 f g h r u) none 91 _ := m_R_entry_1 h9
    refine c_entry X hS hL hR (k := 1) (by decide) he ⟨_, rq_69⟩ (by decide) hM (fun v w2 hq2 => ?_) kk
    obtain ⟨rfl, rfl⟩ := hq2
    exact ⟨_, fo, rfl, re_of H ht hf Kr Wr ho, fun h9 => absurd h9 (by decide)⟩
  · obtain ⟨rfl, rfl, i, q, hi, hq, hy, hz, h9⟩ := hq
    obtain ⟨ht, hf, f, g, h, r, u, sm, xx, yy, he⟩ := M
    have hM : mm_ l y_R_entry c_R_entry 6 (some .int) (rm_ 5) D tc sz tk [.ref (sz + 69), .int (nI i), .int (nI q), .int (xs (8 * t + 3)), .int (xs (8 * t + 4))] none 91 (rq_ tc sz (mn_ tc w1 zm sd se mk aa ss bq ee zw wr sm xx yy) co 0 f g h r u) none 91 _ := m_R_entry_2 hi hq ((Kr i hi).1.symm.trans h9)
    rw [← hy, ← hz] at hM
    refine c_entry X hS hL hR (k := 2) (by decide) he ⟨_, rq_69⟩ (by decide) hM (fun v w2 hq2 => ?_) kk
    obtain ⟨rfl, rfl⟩ := hq2
    exact ⟨_, fo, rfl, re_of H ht hf Kr Wr ho, fun h9 => absurd h9 (by decide)⟩
  · obtain ⟨rfl, rfl, i, q, hi, hq, hy, hz, h3, h9⟩ := hq
    obtain ⟨ht, hf, f, g, h, r, u, sm, xx, yy, he⟩ := M
    have hzi : ¬ zm i = 0 := fun e9 => h3 ((Kr i hi).1.trans e9)
    have hM : mm_ l y_R_entry c_R_entry 6 (some .int) (rm_ 5) D tc sz tk [.ref (sz + 69), .int (nI i), .int (nI q), .int (xs (8 * t + 3)), .int (xs (8 * t + 4))] none 91 (rq_ tc sz (mn_ tc w1 zm sd se mk aa ss bq ee zw wr sm xx yy) co 0 f g h r u) none 91 _ := m_R_entry_3 hi hq hzi h9
    rw [← hy, ← hz] at hM
    refine c_entry X hS hL hR (k := 3) (by decide) he ⟨_, rq_69⟩ (by decide) hM (fun v w2 hq2 => ?_) kk
    obtain ⟨rfl, rfl⟩ := hq2
    exact ⟨_, fo, rfl, re_of H ht hf Kr Wr ho, fun h9 => absurd h9 (by decide)⟩
  · obtain ⟨rfl, i, q, a, b9, hi, hq, ha, hb, hy, hz, hx, hx3, h3, H2, M2⟩ := hq
    have M9 := mz_eq M (ok_90 M2)
    obtain ⟨-, fo1, ho1, hx1⟩ := M2
    obtain ⟨ht, hf, f, g, h, r, u, sm, xx, yy, he⟩ := M9
    have hzi : ¬ zm i = 0 := fun e9 => h3 ((Kr i hi).1.trans e9)
    have hM : mm_ l y_R_entry c_R_entry 6 (some .int) (rm_ 5) D tc sz tk [.ref (sz + 69), .int (nI i), .int (nI q), .int (nI a), .int (nI b9)] none 91 (rq_ tc sz (mn_ tc w1 zm sd se mk aa ss bq ee zw wr sm xx yy) co 0 f g h r u) none 91 _ := m_R_entry_0 hi hq hzi ha hb
    rw [← hy, ← hz, ← hx, ← hx3] at hM
    refine c_entry X hS hL hR (k := 0) (by decide) he ⟨_, rq_69⟩ (by decide) hM (fun v w2 hq2 => ?_) kk
    obtain ⟨rfl, rfl⟩ := hq2
    rw [me_v hq ha hb ((Kr i hi).2.2 hzi)] at hx1
    exact ⟨_, fo1, rfl, re_of H2 ht hf Kr Wr ho1, fun _ => hx1⟩
set_option maxHeartbeats 4000000 in
theorem k_noise (hl : l.stackTraces = false) (X : cx_ p s m args c code 8 R_Q D tc sz tk) (hS : sx_ok sz s b L xs) (hL : 8 * t + 8 ≤ L) (hR : rr_ R cells slots) (HI : inv_ tc sz w) (kk : ∀ w1 : Nat → va_E, inv_ tc sz w1 → pm_G p l e R s m args below meth c Q D cl_ sz 8 none 91 (cells + 5) (slots + 30) w1 1147 [(0, .ref b), (1, .ref (sz + 0)), (2, .ref (sz + 69)), (3, .ref (sz + 90)), (4, .int (nI (8 * t)))] []) : pm_G p l e R s m args below meth c Q D cl_ sz 8 none 91 cells slots w 888 [(0, .ref b), (1, .ref (sz + 0)), (2, .ref (sz + 69)), (3, .ref (sz + 90)), (4, .int (nI (8 * t)))] [] := by
  obtain ⟨κ, ρ, co, zm, sd, se, mk, aa, ss, bq, ee, zw, wr, fo, H, M, Kr, Wr, ho⟩ := HI
  refine a_noise X hS hL hR (q_noise hl H ho) (fun v w1 hq => ?_)
  rcases hq with hq | hq | hq | hq
  · obtain ⟨rfl, rfl, h9⟩ := hq
    obtain ⟨ht, hf, f, g, h, r, u, sm, xx, yy, he⟩ := M
    have hM : mm_ l y_R_noise c_R_noise 5 (some .int) (rm_ 4) D tc sz tk [.ref (sz + 69), .int (xs (8 * t + 1)), .int (xs (8 * t + 2)), .int (xs (8 * t + 3)), .int (xs (8 * t + 4))] none 91 (rq_ tc sz (mn_ tc w1 zm sd se mk aa ss bq ee zw wr sm xx yy) co 0 f g h r u) none 91 _ := m_R_noise_1 h9
    refine c_noise X hS hL hR (k := 1) (by decide) he ⟨_, rq_69⟩ (by decide) hM (fun v w2 hq2 => ?_) kk
    obtain ⟨rfl, rfl⟩ := hq2
    exact ⟨_, fo, rfl, re_of H ht hf Kr Wr ho, fun h9 => absurd h9 (by decide)⟩
  · obtain ⟨rfl, rfl, i, j, hi, hj, hy, hz, h9⟩ := hq
    obtain ⟨ht, hf, f, g, h, r, u, sm, xx, yy, he⟩ := M
    have hM : mm_ l y_R_noise c_R_noise 5 (some .int) (rm_ 4) D tc sz tk [.ref (sz + 69), .int (nI i), .int (nI j), .int (xs (8 * t + 3)), .int (xs (8 * t + 4))] none 91 (rq_ tc sz (mn_ tc w1 zm sd se mk aa ss bq ee zw wr sm xx yy) co 0 f g h r u) none 91 _ := m_R_noise_2 hi hj (h9.imp (fun e9 => (Wr i hi).1.symm.trans e9) (fun e9 => (Kr j hj).1.symm.trans e9))
    rw [← hy, ← hz] at hM
    refine c_noise X hS hL hR (k := 2) (by decide) he ⟨_, rq_69⟩ (by decide) hM (fun v w2 hq2 => ?_) kk
    obtain ⟨rfl, rfl⟩ := hq2
    exact ⟨_, fo, rfl, re_of H ht hf Kr Wr ho, fun h9 => absurd h9 (by decide)⟩
  · obtain ⟨rfl, rfl, ⟨i, j, hi, hj, hy, hz, h3, h4⟩, h9⟩ := hq
    obtain ⟨ht, hf, f, g, h, r, u, sm, xx, yy, he⟩ := M
    have hwi : ¬ zw i = 0 := fun e9 => h3 ((Wr i hi).1.trans e9)
    have hzj : ¬ zm j = 0 := fun e9 => h4 ((Kr j hj).1.trans e9)
    have hM : mm_ l y_R_noise c_R_noise 5 (some .int) (rm_ 4) D tc sz tk [.ref (sz + 69), .int (nI i), .int (nI j), .int (xs (8 * t + 3)), .int (xs (8 * t + 4))] none 91 (rq_ tc sz (mn_ tc w1 zm sd se mk aa ss bq ee zw wr sm xx yy) co 0 f g h r u) none 91 _ := m_R_noise_3 hi hj hwi hzj h9
    rw [← hy, ← hz] at hM
    refine c_noise X hS hL hR (k := 3) (by decide) he ⟨_, rq_69⟩ (by decide) hM (fun v w2 hq2 => ?_) kk
    obtain ⟨rfl, rfl⟩ := hq2
    exact ⟨_, fo, rfl, re_of H ht hf Kr Wr ho, fun h9 => absurd h9 (by decide)⟩
  · obtain ⟨rfl, i, j, a, b9, dx, dy, dz, hi, hj, ha, hb, hy, hz, hx, hx3, h3, h4, H2, M2⟩ := hq
    have M9 := mz_eq M (ok_90 M2)
    obtain ⟨-, fo1, ho1, hx1⟩ := M2
    obtain ⟨ht, hf, f, g, h, r, u, sm, xx, yy, he⟩ := M9
    have hwi : ¬ zw i = 0 := fun e9 => h3 ((Wr i hi).1.trans e9)
    have hzj : ¬ zm j = 0 := fun e9 => h4 ((Kr j hj).1.trans e9)
    obtain ⟨g1, g2, g3, g4, g5, g6, g7, g8⟩ := (Kr j hj).2.2 hzj
    have ws := (Wr i hi).2.2 hwi
    have hM : mm_ l y_R_noise c_R_noise 5 (some .int) (rm_ 4) D tc sz tk [.ref (sz + 69), .int (nI i), .int (nI j), .int (nI a), .int (nI b9)] none 91 (rq_ tc sz (mn_ tc w1 zm sd se mk aa ss bq ee zw wr sm xx yy) co 0 f g h r u) none 91 _ := m_R_noise_0 hi hj hwi hzj ha hb (fun t ht => (g4 t ht).2)
    rw [← hy, ← hz, ← hx, ← hx3] at hM
    refine c_noise X hS hL hR (k := 0) (by decide) he ⟨_, rq_69⟩ (by decide) hM (fun v w2 hq2 => ?_) kk
    obtain ⟨rfl, rfl⟩ := hq2
    rw [no_v ha hb ws (fun t ht => (g4 t ht).1)] at hx1
    exact ⟨_, fo1, rfl, re_of H2 ht hf Kr Wr ho1, fun _ => hx1⟩
set_option maxHeartbeats 4000000 in
theorem k_read (hl : l.stackTraces = false) (X : cx_ p s m args c code 8 R_Q D tc sz tk) (hS : sx_ok sz s b L xs) (hL : 8 * t + 8 ≤ L) (hR : rr_ R cells slots) (HI : inv_ tc sz w) (kk : ∀ w1 : Nat → va_E, inv_ tc sz w1 → pm_G p l e R s m args below meth c Q D cl_ sz 8 none 91 (cells + 5) (slots + 30) w1 1147 [(0, .ref b), (1, .ref (sz + 0)), (2, .ref (sz + 69)), (3, .ref (sz + 90)), (4, .int (nI (8 * t)))] []) : pm_G p l e R s m args below meth c Q D cl_ sz 8 none 91 cells slots w 980 [(0, .ref b), (1, .ref (sz + 0)), (2, .ref (sz + 69)), (3, .ref (sz + 90)), (4, .int (nI (8 * t)))] [] := by
  obtain ⟨κ, ρ, co, zm, sd, se, mk, aa, ss, bq, ee, zw, wr, fo, H, M, Kr, Wr, ho⟩ := HI
  refine a_read X hS hL hR (q_read hl H ho) (fun v w1 hq => ?_)
  rcases hq with hq | hq | hq
  · obtain ⟨rfl, rfl, h9⟩ := hq
    obtain ⟨ht, hf, f, g, h, r, u, sm, xx, yy, he⟩ := M
    have hM : mm_ l y_R_read c_R_read 3 (some .int) (rm_ 4) D tc sz tk [.ref (sz + 69), .int (xs (8 * t + 1)), .int (xs (8 * t + 2))] none 91 (rq_ tc sz (mn_ tc w1 zm sd se mk aa ss bq ee zw wr sm xx yy) co 0 f g h r u) none 91 _ := m_R_read_1 h9
    refine c_read X hS hL hR (k := 1) (by decide) he ⟨_, rq_69⟩ (by decide) hM (fun v w2 hq2 => ?_) kk
    obtain ⟨rfl, rfl⟩ := hq2
    exact ⟨_, fo, rfl, re_of H ht hf Kr Wr ho, fun h9 => absurd h9 (by decide)⟩
  · obtain ⟨rfl, rfl, i, j, hi, hj, hy, hz, h9⟩ := hq
    obtain ⟨ht, hf, f, g, h, r, u, sm, xx, yy, he⟩ := M
    have hM : mm_ l y_R_read c_R_read 3 (some .int) (rm_ 4) D tc sz tk [.ref (sz + 69), .int (nI i), .int (nI j)] none 91 (rq_ tc sz (mn_ tc w1 zm sd se mk aa ss bq ee zw wr sm xx yy) co 0 f g h r u) none 91 _ := m_R_read_2 hi hj (h9.imp (fun e9 => (Wr i hi).1.symm.trans e9) (fun e9 => (Kr j hj).1.symm.trans e9))
    rw [← hy, ← hz] at hM
    refine c_read X hS hL hR (k := 2) (by decide) he ⟨_, rq_69⟩ (by decide) hM (fun v w2 hq2 => ?_) kk
    obtain ⟨rfl, rfl⟩ := hq2
    exact ⟨_, fo, rfl, re_of H ht hf Kr Wr ho, fun h9 => absurd h9 (by decide)⟩
  · obtain ⟨rfl, i, j, dx, dy, dz, hi, hj, hy, hz, h3, h4, H2, M2⟩ := hq
    have M9 := mz_eq M (ok_90 M2)
    obtain ⟨-, fo1, ho1, hx1⟩ := M2
    obtain ⟨ht, hf, f, g, h, r, u, sm, xx, yy, he⟩ := M9
    have hwi : ¬ zw i = 0 := fun e9 => h3 ((Wr i hi).1.trans e9)
    have hzj : ¬ zm j = 0 := fun e9 => h4 ((Kr j hj).1.trans e9)
    obtain ⟨g1, g2, g3, g4, g5, g6, g7, g8⟩ := (Kr j hj).2.2 hzj
    have ws := (Wr i hi).2.2 hwi
    have hM : mm_ l y_R_read c_R_read 3 (some .int) (rm_ 4) D tc sz tk [.ref (sz + 69), .int (nI i), .int (nI j)] none 91 (rq_ tc sz (mn_ tc w1 zm sd se mk aa ss bq ee zw wr sm xx yy) co 0 f g h r u) none 91 _ := m_R_read_0 hi hj hwi hzj (fun t ht => (g4 t ht).2)
    rw [← hy, ← hz] at hM
    refine c_read X hS hL hR (k := 0) (by decide) he ⟨_, rq_69⟩ (by decide) hM (fun v w2 hq2 => ?_) kk
    obtain ⟨rfl, rfl⟩ := hq2
    rw [um_v ws (fun t ht => (g4 t ht).1)] at hx1
    exact ⟨_, fo1, rfl, re_of H2 ht hf Kr Wr ho1, fun _ => hx1⟩
set_option maxHeartbeats 4000000 in
theorem k_shake (hl : l.stackTraces = false) (X : cx_ p s m args c code 8 R_Q D tc sz tk) (hS : sx_ok sz s b L xs) (hL : 8 * t + 8 ≤ L) (hR : rr_ R cells slots) (HI : inv_ tc sz w) (kk : ∀ w1 : Nat → va_E, inv_ tc sz w1 → pm_G p l e R s m args below meth c Q D cl_ sz 8 none 91 (cells + 5) (slots + 30) w1 1147 [(0, .ref b), (1, .ref (sz + 0)), (2, .ref (sz + 69)), (3, .ref (sz + 90)), (4, .int (nI (8 * t)))] []) : pm_G p l e R s m args below meth c Q D cl_ sz 8 none 91 cells slots w 1048 [(0, .ref b), (1, .ref (sz + 0)), (2, .ref (sz + 69)), (3, .ref (sz + 90)), (4, .int (nI (8 * t)))] [] := by
  obtain ⟨κ, ρ, co, zm, sd, se, mk, aa, ss, bq, ee, zw, wr, fo, H, M, Kr, Wr, ho⟩ := HI
  refine a_shake X hS hL hR (q_shake hl H ho) (fun v w1 hq => ?_)
  rcases hq with hq | hq
  · obtain ⟨rfl, rfl, h9⟩ := hq
    obtain ⟨ht, hf, f, g, h, r, u, sm, xx, yy, he⟩ := M
    have hM : mm_ l y_R_shake c_R_shake 4 (some .long) (rm_ 5) D tc sz tk [.ref (sz + 69), .int (xs (8 * t + 1)), .long (jl_shl (xs (8 * t + 2)).toInt64 (nI 32) ||| ((xs (8 * t + 3)).toInt64 &&& 4294967295))] none 91 (rq_ tc sz (mn_ tc w1 zm sd se mk aa ss bq ee zw wr sm xx yy) co 0 f g h r u) none 91 _ := m_R_shake_1 h9
    refine c_shake X hS hL hR (k := 1) (by decide) he ⟨_, rq_69⟩ (by decide) hM (fun v w2 hq2 => ?_) kk
    obtain ⟨rfl, rfl⟩ := hq2
    exact ⟨_, fo, rfl, re_of H ht hf Kr Wr ho, fun h9 => absurd h9 (by decide)⟩
  · obtain ⟨rfl, i, hi, hy, H2, M2⟩ := hq
    have M9 := mz_eq M (ok_90 M2)
    obtain ⟨-, fo1, ho1, hx1⟩ := M2
    obtain ⟨ht, hf, f, g, h, r, u, sm, xx, yy, he⟩ := M9
    have hM : mm_ l y_R_shake c_R_shake 4 (some .long) (rm_ 5) D tc sz tk [.ref (sz + 69), .int (nI i), .long (jl_shl (xs (8 * t + 2)).toInt64 (nI 32) ||| ((xs (8 * t + 3)).toInt64 &&& 4294967295))] none 91 (rq_ tc sz (mn_ tc w1 zm sd se mk aa ss bq ee zw wr sm xx yy) co 0 f g h r u) none 91 _ := m_R_shake_0 hi ht hf
    rw [← hy] at hM
    refine c_shake X hS hL hR (k := 0) (by decide) he ⟨_, rq_69⟩ (by decide) hM (fun v w2 hq2 => ?_) kk
    obtain ⟨rfl, f1, g1, h1, r1, u1, rfl⟩ := hq2
    exact ⟨_, fo1, rfl, re_of H2 ht hf Kr Wr ho1, fun _ => hx1⟩
end CB
