section NU
def nv_ (x : Int32) : Nat := x.toBitVec.toNat
theorem nv_lt (x : Int32) : nv_ x < 4294967296 := x.toBitVec.isLt
theorem nI_nv (x : Int32) : nI (nv_ x) = x := by
  apply Int32.toBitVec_inj.mp
  show BitVec.ofNat 32 (x.toBitVec.toNat) = x.toBitVec
  exact BitVec.ofNat_toNat 32 x.toBitVec |>.trans (BitVec.setWidth_eq _)
theorem nv_nI {n : Nat} (h : n < 4294967296) : nv_ (nI n) = n := by
  show (BitVec.ofNat 32 n).toNat = n
  rw [BitVec.toNat_ofNat]
  exact Nat.mod_eq_of_lt h
theorem nv_add (x y : Int32) : nv_ (x + y) = (nv_ x + nv_ y) % 4294967296 := by
  unfold nv_
  rw [Int32.toBitVec_add, BitVec.toNat_add]
theorem nv_mul (x y : Int32) : nv_ (x * y) = (nv_ x * nv_ y) % 4294967296 := by
  unfold nv_
  rw [Int32.toBitVec_mul, BitVec.toNat_mul]
theorem nv_and (x : Int32) : x &&& nI 32767 = nI (nv_ x % 32768) := by
  rw [← nI_nv (x &&& nI 32767)]
  congr 1
  unfold nv_
  rw [Int32.toBitVec_and, BitVec.toNat_and]
  show x.toBitVec.toNat &&& (2 ^ 15 - 1) = x.toBitVec.toNat % 2 ^ 15
  exact Nat.and_two_pow_sub_one_eq_mod _ 15
theorem ib_nv (x : Int32) {i : Nat} (hi : i < 32) : ib_ x i = (nv_ x).testBit i := by
  rw [← ib_nI hi, nI_nv]
theorem ib_hi {x : Int32} {n i : Nat} (h : nv_ x < 2 ^ n) (hn : n ≤ i) (hi : i < 32) : ib_ x i = false := by
  rw [ib_nv x hi]
  exact Nat.testBit_lt_two_pow (Nat.lt_of_lt_of_le h (Nat.pow_le_pow_right (by decide) hn))
variable {L M B r e0 : Nat → Int32} {Kk Cl i j n t a T : Nat}
def sn_ (l m : Nat → Nat) : Nat → Nat
  | 0 => 0
  | n + 1 => sn_ l m n + l n * m n
theorem sp_n : nv_ (sp_ L M Kk Cl i j n) % 32768 = sn_ (fun k => nv_ (L (i * Kk + k))) (fun k => nv_ (M (k * Cl + j))) n % 32768 := by
  induction n with
  | zero => rfl
  | succ n ih =>
    show nv_ (sp_ L M Kk Cl i j n + L (i * Kk + n) * M (n * Cl + j)) % 32768 = (sn_ _ _ n + nv_ (L (i * Kk + n)) * nv_ (M (n * Cl + j))) % 32768
    rw [nv_add, nv_mul]
    generalize nv_ (L (i * Kk + n)) * nv_ (M (n * Cl + j)) = q at *
    generalize sn_ _ _ n = q2 at *
    omega
theorem te_1 : te_ B L M (nI 1) Kk Cl t = nI ((nv_ (B t) + sn_ (fun k => nv_ (L (t / Cl * Kk + k))) (fun k => nv_ (M (k * Cl + t % Cl))) Kk) % 32768) := by
  unfold te_
  rw [nv_and, nv_add, nv_mul, nv_nI (by decide)]
  congr 1
  have h := sp_n (L := L) (M := M) (Kk := Kk) (Cl := Cl) (i := t / Cl) (j := t % Cl) (n := Kk)
  generalize sn_ _ _ _ = q at *
  omega
theorem te_m {P Q : Nat} (h1 : P + sn_ (fun k => nv_ (L (t / Cl * Kk + k))) (fun k => nv_ (M (k * Cl + t % Cl))) Kk = 32768 * Q) : te_ B L M (-1) Kk Cl t = nI ((nv_ (B t) + P) % 32768) := by
  unfold te_
  rw [nv_and, nv_add, nv_mul, show nv_ (-1) = 4294967295 by decide +kernel]
  congr 1
  have h := sp_n (L := L) (M := M) (Kk := Kk) (Cl := Cl) (i := t / Cl) (j := t % Cl) (n := Kk)
  generalize sn_ _ _ _ = q at *
  omega
def mu_ (b : Nat) (l m : Nat → Nat) : Nat → Nat
  | 0 => b
  | n + 1 => (mu_ b l m n + l n * m n) % 32768
theorem mu_n {b : Nat} {l m : Nat → Nat} : mu_ b l m n % 32768 = (b + sn_ l m n) % 32768 := by
  induction n with
  | zero => rfl
  | succ n ih =>
    show (mu_ b l m n + l n * m n) % 32768 % 32768 = (b + (sn_ l m n + l n * m n)) % 32768
    generalize l n * m n = q
    omega
theorem mu_lt {b : Nat} {l m : Nat → Nat} (h : b < 65536) : mu_ b l m n < 65536 := by
  cases n with
  | zero => exact h
  | succ n => exact Nat.lt_trans (Nat.mod_lt _ (by decide)) (by decide)
theorem mu_s {b : Nat} {l m : Nat → Nat} : mu_ b l m (n + 1) = (b + sn_ l m (n + 1)) % 32768 := by
  rw [← mu_n]
  exact (Nat.mod_eq_of_lt (Nat.mod_lt _ (by decide))).symm
theorem k32_ : (32768 : Int32) = nI 32768 := by decide
theorem mu_st {x y z : Int32} {A : Nat} (hA : A < 131072) (hx : x = nI A) (hy : nv_ y < 32768) (hz : nv_ z ≤ 32768) : jv_rem (x + y * z) 32768 = nI ((A + nv_ y * nv_ z) % 32768) := by
  have h : nv_ y * nv_ z ≤ 32767 * 32768 := Nat.mul_le_mul (by omega) hz
  rw [hx, ← nI_nv y, ← nI_nv z, pk_mul, nI_add, k32_, nv_nI (by omega), nv_nI (by omega), jr_ (by omega) (by decide) (by decide)]
theorem ib_255 : ∀ i, i < 32 → ib_ (nI 255) i = decide (i < 8) := by decide +kernel
theorem ib_32767 : ∀ i, i < 32 → ib_ (nI 32767) i = decide (i < 15) := by decide +kernel
theorem hd_b : ∀ n, (∀ k, k < n → nv_ (e0 k) < 32768) → ∀ j, j < 32 → j < 15 * n → ib_ (hd_ e0 n) j = ib_ (e0 (n - 1 - j / 15)) (j % 15) := by
  intro n
  induction n with
  | zero => intro _ j _ h; omega
  | succ n ih =>
    intro hr j h1 h2
    show ib_ (jv_shl (hd_ e0 n) (nI 15) ||| e0 n) j = _
    rw [ib_or, ib_shl (by decide) _ h1]
    by_cases h : j < 15
    · rw [decide_eq_false (show ¬ 15 ≤ j by omega), show n + 1 - 1 - j / 15 = n by omega, show j % 15 = j by omega]
      simp
    · rw [decide_eq_true (show 15 ≤ j by omega), ih (fun k hk => hr k (by omega)) (j - 15) (by omega) (by omega), ib_hi (n := 15) (hr n (by omega)) (by omega) h1, show n + 1 - 1 - j / 15 = n - 1 - (j - 15) / 15 by omega, show j % 15 = (j - 15) % 15 by omega]
      simp
theorem by_n (hr : ∀ k, k < (8 * t + 7) / 15 + 1 → nv_ (e0 k) < 32768) : by_ e0 t = nI (fo_ (sg_ e0) (8 * t) 8) := by
  refine ib_ext (fun i hi => ?_)
  unfold by_
  rw [ib_and, ib_255 i hi, ib_nI hi, fo_t]
  by_cases h : i < 8
  · rw [ib_ushr (by omega), hd_b _ hr _ (by omega) (by omega)]
    unfold sg_
    rw [show (8 * t + 7) / 15 + 1 - 1 - (15 * ((8 * t + 7) / 15 + 1) - 8 * (t + 1) + i) / 15 = (8 * t + (8 - 1 - i)) / 15 by omega, show (15 * ((8 * t + 7) / 15 + 1) - 8 * (t + 1) + i) % 15 = 14 - (8 * t + (8 - 1 - i)) % 15 by omega, Bool.and_comm]
  · simp [h]
theorem hu_b (hr : ∀ k, k < 90 → nv_ (r k) < 256) : ∀ T, a + T ≤ 90 → ∀ j, j < 32 → j < 8 * T → ib_ (hu_ r a T) j = ib_ (r (a + (T - 1 - j / 8))) (j % 8) := by
  intro T
  induction T with
  | zero => intro _ j _ h; omega
  | succ T ih =>
    intro hT j h1 h2
    show ib_ (jv_shl (hu_ r a T) (nI 8) ||| r (a + T)) j = _
    rw [ib_or, ib_shl (by decide) _ h1]
    by_cases h : j < 8
    · rw [decide_eq_false (show ¬ 8 ≤ j by omega), show T + 1 - 1 - j / 8 = T by omega, show j % 8 = j by omega]
      simp
    · rw [decide_eq_true (show 8 ≤ j by omega), ih (by omega) (j - 8) (by omega) (by omega), ib_hi (n := 8) (hr (a + T) (by omega)) (by omega) h1, show T + 1 - 1 - j / 8 = T - 1 - (j - 8) / 8 by omega, show j % 8 = (j - 8) % 8 by omega]
      simp
theorem ue_n (hr : ∀ k, k < 90 → nv_ (r k) < 256) (ht : a + (15 * (t + 1) + 7) / 8 ≤ 90) : ue_ r a t = nI (fo_ (sy8_ (fun q => r (a + q))) (15 * t) 15) := by
  refine ib_ext (fun i hi => ?_)
  unfold ue_
  rw [ib_and, ib_32767 i hi, ib_nI hi, fo_t]
  by_cases h : i < 15
  · rw [ib_ushr (by omega), hu_b hr _ ht _ (by omega) (by omega)]
    unfold sy8_
    rw [show (15 * (t + 1) + 7) / 8 - 1 - (8 * ((15 * (t + 1) + 7) / 8) - 15 * (t + 1) + i) / 8 = (15 * t + (15 - 1 - i)) / 8 by omega, show (8 * ((15 * (t + 1) + 7) / 8) - 15 * (t + 1) + i) % 8 = 7 - (15 * t + (15 - 1 - i)) % 8 by omega, Bool.and_comm]
  · simp [h]
theorem fo_cg {σ τ : Nat → Bool} {b c : Nat} : ∀ m, (∀ k, k < m → σ (b + k) = τ (c + k)) → fo_ σ b m = fo_ τ c m := by
  intro m
  induction m with
  | zero => intro _; rfl
  | succ m ih =>
    intro h
    show 2 * fo_ σ b m + (if σ (b + m) then 1 else 0) = 2 * fo_ τ c m + (if τ (c + m) then 1 else 0)
    rw [ih (fun k hk => h k (by omega)), h m (by omega)]
theorem nv_fo {σ : Nat → Bool} {b m : Nat} (hm : m ≤ 15) : nv_ (nI (fo_ σ b m)) = fo_ σ b m ∧ fo_ σ b m < 2 ^ m := by
  have h := fo_lt (σ := σ) (b := b) m
  have h2 : 2 ^ m ≤ 2 ^ 15 := Nat.pow_le_pow_right (by decide) hm
  exact ⟨nv_nI (by omega), h⟩
theorem nv_mod (q : Nat) : nv_ (nI (q % 32768)) < 32768 := by
  have h := Nat.mod_lt q (show 0 < 32768 by decide)
  rw [nv_nI (by omega)]
  exact h
def bf_ (f : Nat → Int32) (a n : Nat) (F : Nat → Int32) : Nat → Int32 := fun q => if a ≤ q ∧ q < a + n then F (q - a) else f q
theorem bf_0 {f F : Nat → Int32} : bf_ f a 0 F = f := by
  funext q
  unfold bf_
  rw [if_neg (by omega)]
theorem bf_s {f F : Nat → Int32} : upd (bf_ f a n F) (a + n) (F n) = bf_ f a (n + 1) F := by
  funext q
  by_cases h : q = a + n
  · subst h
    simp [upd, bf_]
  · have e : (a ≤ q ∧ q < a + n) ↔ (a ≤ q ∧ q < a + (n + 1)) := by omega
    simp only [upd, bf_, if_neg h, e]
theorem bf_i {f F : Nat → Int32} (h : t < n) : bf_ f a n F (a + t) = F t := by
  unfold bf_
  rw [if_pos (by omega), Nat.add_sub_cancel_left]
theorem bf_o {f F : Nat → Int32} (h : t < a ∨ a + n ≤ t) : bf_ f a n F t = f t := if_neg (by omega)
theorem bf_c {f F F1 : Nat → Int32} (h : ∀ k, k < n → F k = F1 k) : bf_ f a n F = bf_ f a n F1 := by
  funext q
  unfold bf_
  by_cases hq : a ≤ q ∧ q < a + n
  · rw [if_pos hq, if_pos hq, h _ (by omega)]
  · rw [if_neg hq, if_neg hq]
theorem sp_c {L1 M1 : Nat → Int32} : ∀ n, (∀ k, k < n → L (i * Kk + k) = L1 (i * Kk + k) ∧ M (k * Cl + j) = M1 (k * Cl + j)) → sp_ L M Kk Cl i j n = sp_ L1 M1 Kk Cl i j n := by
  intro n
  induction n with
  | zero => intro _; rfl
  | succ n ih =>
    intro h
    show sp_ L M Kk Cl i j n + L (i * Kk + n) * M (n * Cl + j) = sp_ L1 M1 Kk Cl i j n + L1 (i * Kk + n) * M1 (n * Cl + j)
    rw [ih (fun k hk => h k (by omega)), (h n (by omega)).1, (h n (by omega)).2]
theorem te_c {y : Int32} {B1 L1 M1 : Nat → Int32} (hB : B t = B1 t) (h : ∀ k, k < Kk → L (t / Cl * Kk + k) = L1 (t / Cl * Kk + k) ∧ M (k * Cl + t % Cl) = M1 (k * Cl + t % Cl)) : te_ B L M y Kk Cl t = te_ B1 L1 M1 y Kk Cl t := by
  unfold te_
  rw [hB, sp_c Kk h]
theorem hd_c {e1 : Nat → Int32} : ∀ n, (∀ k, k < n → e0 k = e1 k) → hd_ e0 n = hd_ e1 n := by
  intro n
  induction n with
  | zero => intro _; rfl
  | succ n ih =>
    intro h
    show jv_shl (hd_ e0 n) (nI 15) ||| e0 n = jv_shl (hd_ e1 n) (nI 15) ||| e1 n
    rw [ih (fun k hk => h k (by omega)), h n (by omega)]
theorem by_c {e1 : Nat → Int32} (h : ∀ k, k < (8 * t + 7) / 15 + 1 → e0 k = e1 k) : by_ e0 t = by_ e1 t := by
  unfold by_
  rw [hd_c _ h]
end NU
