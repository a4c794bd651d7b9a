section IV
variable {p : Program} {l : Launch} {e : Env} {R : Room} {s : State} {m : MethodId} {args : Array Value} {below : List Frame} {meth : Method} {c : Code} {Q : State → Prop} {cells slots : Nat}
variable {D : va_G} {tc : Nat → ClassId} {sz n0 k i j t : Nat} {w w0 w1 w2 : Nat → va_E} {tk : Nat → Nat} {co : Int32} {f g h : Nat → Int64} {r u : Nat → Int32}
variable {zm aa ss bq ee zw wr sm xx yy : Nat → Int32} {sd se mk : Nat → Int64} {κ : Nat → KS_} {ρ : Nat → WS_} {fo : Nat → Int64} {x : Int64} {y z : Int32}
theorem rm_out (hk : k < 69 ∨ k = 70 ∨ k = 71 ∨ 89 < k) : rq_ tc sz (mn_ tc w zm sd se mk aa ss bq ee zw wr sm xx yy) co n0 f g h r u k = w k := by
  rw [rq_o (by omega), mn_o (by omega)]
theorem rm_in (hk : ¬ (k < 69 ∨ k = 70 ∨ k = 71 ∨ 89 < k)) : rq_ tc sz (mn_ tc w zm sd se mk aa ss bq ee zw wr sm xx yy) co n0 f g h r u k = rq_ tc sz (mn_ tc w0 zm sd se mk aa ss bq ee zw wr sm xx yy) co n0 f g h r u k := by
  have h0 : k = 69 ∨ k = 72 ∨ k = 73 ∨ k = 74 ∨ k = 75 ∨ k = 76 ∨ k = 77 ∨ k = 78 ∨ k = 79 ∨ k = 80 ∨ k = 81 ∨ k = 82 ∨ k = 83 ∨ k = 84 ∨ k = 85 ∨ k = 86 ∨ k = 87 ∨ k = 88 ∨ k = 89 := by omega
  rcases h0 with rfl | rfl | rfl | rfl | rfl | rfl | rfl | rfl | rfl | rfl | rfl | rfl | rfl | rfl | rfl | rfl | rfl | rfl | rfl <;> rfl
def mz_ (tc : Nat → ClassId) (sz : Nat) (w : Nat → va_E) (co : Int32) (zm : Nat → Int32) (sd se mk : Nat → Int64) (aa ss bq ee zw wr : Nat → Int32) : Prop :=
  tu_ tc w ∧ fu_ tc w ∧ ∃ (f g h : Nat → Int64) (r u sm xx yy : Nat → Int32), w = rq_ tc sz (mn_ tc w zm sd se mk aa ss bq ee zw wr sm xx yy) co 0 f g h r u
theorem mz_eq (H : mz_ tc sz w co zm sd se mk aa ss bq ee zw wr) (hk : ∀ k, 69 ≤ k → k < 90 → w1 k = w k) : mz_ tc sz w1 co zm sd se mk aa ss bq ee zw wr := by
  obtain ⟨⟨q1, a1, b1⟩, ⟨q2, a2, b2⟩, f, g, h, r, u, sm, xx, yy, he⟩ := H
  refine ⟨⟨q1, (hk 70 (by decide) (by decide)).trans a1, b1⟩, ⟨q2, (hk 71 (by decide) (by decide)).trans a2, b2⟩, f, g, h, r, u, sm, xx, yy, ?_⟩
  funext k
  by_cases h9 : k < 69 ∨ k = 70 ∨ k = 71 ∨ 89 < k
  · rw [rm_out h9]
  · rw [rm_in (w0 := w) h9, ← he]
    exact hk k (by omega) (by omega)
theorem mz_rq (ht : tu_ tc w) (hf : fu_ tc w) : mz_ tc sz (rq_ tc sz (mn_ tc w zm sd se mk aa ss bq ee zw wr sm xx yy) co 0 f g h r u) co zm sd se mk aa ss bq ee zw wr := by
  refine ⟨ht, hf, f, g, h, r, u, sm, xx, yy, ?_⟩
  funext k
  by_cases h9 : k < 69 ∨ k = 70 ∨ k = 71 ∨ 89 < k
  · rw [rm_out (w := rq_ tc sz (mn_ tc w zm sd se mk aa ss bq ee zw wr sm xx yy) co 0 f g h r u) h9]
  · exact rm_in h9
def inv_ (tc : Nat → ClassId) (sz : Nat) (w : Nat → va_E) : Prop :=
  ∃ (κ : Nat → KS_) (ρ : Nat → WS_) (co : Int32) (zm : Nat → Int32) (sd se mk : Nat → Int64) (aa ss bq ee zw wr : Nat → Int32) (fo : Nat → Int64), cw_ tc sz w κ ρ ∧ mz_ tc sz w co zm sd se mk aa ss bq ee zw wr ∧ (∀ i, i < 4 → kr_ (κ i) zm sd se mk aa ss bq ee i) ∧ (∀ i, i < 4 → wr_ (ρ i) zw wr i) ∧ w 90 = oa_ tc fo
def re_ (tc : Nat → ClassId) (sz : Nat) (w : Nat → va_E) (co : Int32) (fo : Nat → Int64) : Prop :=
  (∃ (w0 : Nat → va_E) (n0 : Nat) (f g h : Nat → Int64) (r u : Nat → Int32), w = rq_ tc sz w0 co n0 f g h r u) ∧ w 90 = oa_ tc fo ∧ inv_ tc sz w
theorem re_of (H : cw_ tc sz w κ ρ) (ht : tu_ tc w) (hf : fu_ tc w) (hk : ∀ i, i < 4 → kr_ (κ i) zm sd se mk aa ss bq ee i) (hw : ∀ i, i < 4 → wr_ (ρ i) zw wr i) (ho : w 90 = oa_ tc fo) :
    re_ tc sz (rq_ tc sz (mn_ tc w zm sd se mk aa ss bq ee zw wr sm xx yy) co 0 f g h r u) co fo := by
  have h9 : rq_ tc sz (mn_ tc w zm sd se mk aa ss bq ee zw wr sm xx yy) co 0 f g h r u 90 = oa_ tc fo := (rm_out (by omega)).trans ho
  exact ⟨⟨_, 0, f, g, h, r, u, rfl⟩, h9, κ, ρ, co, zm, sd, se, mk, aa, ss, bq, ee, zw, wr, fo, cw_eq H (fun k hk => rm_out (by omega)), mz_rq ht hf, hk, hw, h9⟩
theorem ok_90 {w1 : Nat → va_E} (h : okw_ tc w w1 x) (k : Nat) (h1 : 69 ≤ k) (h2 : k < 90) : w1 k = w k := h.1 k h1 (by omega)
theorem wr_o {p : WS_} {i0 : Nat} {a0 : Int32} {F : Nat → Int32} (hi : i ≠ i0) (h : wr_ p zw wr i) : wr_ p (upd zw i0 a0) (bf_ wr (90 * i0) 90 F) i := by
  have e1 : upd zw i0 a0 i = zw i := if_neg hi
  obtain ⟨h1, h2, h3⟩ := h
  refine ⟨by rw [e1]; exact h1, by rw [e1]; exact h2, fun hz t ht => ?_⟩
  rw [e1] at hz
  rw [bf_o (by omega)]
  exact h3 hz t ht
theorem wr_o1 {p : WS_} {i0 : Nat} {F : Nat → Int32} (hi : i ≠ i0) (h : wr_ p zw wr i) : wr_ p zw (bf_ wr (90 * i0) 90 F) i := by
  obtain ⟨h1, h2, h3⟩ := h
  refine ⟨h1, h2, fun hz t ht => ?_⟩
  rw [bf_o (by omega)]
  exact h3 hz t ht
theorem wr_i {F G : Nat → Int32} (h : ∀ t, t < 90 → G t = F t ∧ nv_ (F t) < 256) : wr_ (nI 1, G) (upd zw i (nI 1)) (bf_ wr (90 * i) 90 F) i := by
  have e1 : upd zw i (nI 1) i = nI 1 := if_pos rfl
  refine ⟨e1.symm, by rw [e1]; exact Or.inr rfl, fun _ t ht => ?_⟩
  rw [bf_i ht]
  exact h t ht
theorem wr_f {p : WS_} : wr_ (nI 0, p.2) (upd zw i (nI 0)) wr i := by
  have e1 : upd zw i (nI 0) i = nI 0 := if_pos rfl
  exact ⟨e1.symm, by rw [e1]; exact Or.inl rfl, fun h => (h (by rw [e1]; rfl)).elim⟩
theorem wr_fo {p : WS_} {i0 : Nat} {a0 : Int32} (hi : i ≠ i0) (h : wr_ p zw wr i) : wr_ p (upd zw i0 a0) wr i := by
  have e1 : upd zw i0 a0 i = zw i := if_neg hi
  obtain ⟨h1, h2, h3⟩ := h
  exact ⟨by rw [e1]; exact h1, by rw [e1]; exact h2, fun hz => h3 (by rw [← e1]; exact hz)⟩
theorem kr_f {q : KS_} : kr_ (nI 0, q.2) (upd zm i (nI 0)) sd se mk aa ss bq ee i := by
  have e1 : upd zm i (nI 0) i = nI 0 := if_pos rfl
  exact ⟨e1.symm, by rw [e1]; exact Or.inl rfl, fun h => (h (by rw [e1]; rfl)).elim⟩
theorem kr_fo {q : KS_} {i0 : Nat} {a0 : Int32} (hi : i ≠ i0) (h : kr_ q zm sd se mk aa ss bq ee i) : kr_ q (upd zm i0 a0) sd se mk aa ss bq ee i := by
  have e1 : upd zm i0 a0 i = zm i := if_neg hi
  obtain ⟨h1, h2, h3⟩ := h
  exact ⟨by rw [e1]; exact h1, by rw [e1]; exact h2, fun hz => h3 (by rw [← e1]; exact hz)⟩
theorem nv_xor {a b : Int32} (ha : nv_ a < 256) (hb : nv_ b < 256) : nv_ (a ^^^ b) < 256 := by
  unfold nv_ at *
  rw [Int32.toBitVec_xor, BitVec.toNat_xor]
  exact Nat.xor_lt_two_pow (n := 8) ha hb
theorem wr_c {p : WS_} {a : Int32} {k : Nat} (h9 : ¬ zw i = 0) (h : wr_ p zw wr i) (hk : k < 90) (ha : nv_ a < 256) : wr_ (p.1, upd p.2 k a) zw (upd wr (90 * i + k) a) i := by
  obtain ⟨h1, h2, h3⟩ := h
  refine ⟨h1, h2, fun hz t ht => ?_⟩
  by_cases e : t = k
  · subst e
    show (if t = t then a else p.2 t) = (if 90 * i + t = 90 * i + t then a else wr (90 * i + t)) ∧ nv_ (if 90 * i + t = 90 * i + t then a else wr (90 * i + t)) < 256
    rw [if_pos rfl, if_pos rfl]
    exact ⟨rfl, ha⟩
  · show (if t = k then a else p.2 t) = (if 90 * i + t = 90 * i + k then a else wr (90 * i + t)) ∧ nv_ (if 90 * i + t = 90 * i + k then a else wr (90 * i + t)) < 256
    rw [if_neg e, if_neg (by omega)]
    exact h3 hz t ht
theorem wr_co {p : WS_} {i0 : Nat} {a : Int32} {k : Nat} (hi : i ≠ i0) (h : wr_ p zw wr i) (hk : k < 90) : wr_ p zw (upd wr (90 * i0 + k) a) i := by
  obtain ⟨h1, h2, h3⟩ := h
  refine ⟨h1, h2, fun hz t ht => ?_⟩
  show p.2 t = (if 90 * i + t = 90 * i0 + k then a else wr (90 * i + t)) ∧ nv_ (if 90 * i + t = 90 * i0 + k then a else wr (90 * i + t)) < 256
  rw [if_neg (by omega)]
  exact h3 hz t ht
theorem up_all {α : Type} {F : Nat → α} {P : α → Nat → Prop} {v : α} (h1 : P v i) (h2 : ∀ q, q < 4 → q ≠ i → P (F q) q) : ∀ q, q < 4 → P (va_up F i v q) q := by
  intro q hq
  by_cases e : q = i
  · subst e
    rw [va_up_g, if_pos rfl]
    exact h1
  · rw [va_up_g, if_neg e]
    exact h2 q hq e
end IV
