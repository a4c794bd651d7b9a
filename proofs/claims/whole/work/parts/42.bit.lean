section BT
def ib_ (x : Int32) (i : Nat) : Bool := x.toBitVec.getLsbD i
def jb_ (x : Int64) (i : Nat) : Bool := x.toBitVec.getLsbD i
theorem ib_ext {x y : Int32} (h : ∀ i, i < 32 → ib_ x i = ib_ y i) : x = y := Int32.toBitVec_inj.mp (BitVec.eq_of_getLsbD_eq (fun i hi => h i hi))
theorem jb_ext {x y : Int64} (h : ∀ i, i < 64 → jb_ x i = jb_ y i) : x = y := Int64.toBitVec_inj.mp (BitVec.eq_of_getLsbD_eq (fun i hi => h i hi))
theorem ib_or (x y : Int32) (i : Nat) : ib_ (x ||| y) i = (ib_ x i || ib_ y i) := by unfold ib_; rw [Int32.toBitVec_or, BitVec.getLsbD_or]
theorem ib_and (x y : Int32) (i : Nat) : ib_ (x &&& y) i = (ib_ x i && ib_ y i) := by unfold ib_; rw [Int32.toBitVec_and, BitVec.getLsbD_and]
theorem ib_xor (x y : Int32) (i : Nat) : ib_ (x ^^^ y) i = (ib_ x i ^^ ib_ y i) := by unfold ib_; rw [Int32.toBitVec_xor, BitVec.getLsbD_xor]
theorem jb_or (x y : Int64) (i : Nat) : jb_ (x ||| y) i = (jb_ x i || jb_ y i) := by unfold jb_; rw [Int64.toBitVec_or, BitVec.getLsbD_or]
theorem jb_and (x y : Int64) (i : Nat) : jb_ (x &&& y) i = (jb_ x i && jb_ y i) := by unfold jb_; rw [Int64.toBitVec_and, BitVec.getLsbD_and]
theorem jb_xor (x y : Int64) (i : Nat) : jb_ (x ^^^ y) i = (jb_ x i ^^ jb_ y i) := by unfold jb_; rw [Int64.toBitVec_xor, BitVec.getLsbD_xor]
theorem ib_big {x : Int32} {i : Nat} (h : 32 ≤ i) : ib_ x i = false := BitVec.getLsbD_of_ge _ _ h
theorem jb_big {x : Int64} {i : Nat} (h : 64 ≤ i) : jb_ x i = false := BitVec.getLsbD_of_ge _ _ h
theorem jb_0 (i : Nat) : jb_ 0 i = false := BitVec.getLsbD_zero
theorem ib_0 (i : Nat) : ib_ 0 i = false := BitVec.getLsbD_zero
theorem jb_255 (i : Nat) : jb_ 255 i = decide (i < 8) := by
  rcases Nat.lt_or_ge i 64 with h | h
  · exact (by decide +kernel : ∀ i, i < 64 → jb_ 255 i = decide (i < 8)) i h
  · rw [jb_big h, decide_eq_false (by omega)]
theorem sl64 : ∀ n, n < 64 → (((nI n).toInt64 &&& 63).toBitVec.smod 64).toNat = n := by decide +kernel
theorem su64 : ∀ n, n < 64 → (((nI n).toInt64.toUInt64 &&& Int64.toUInt64 63).toBitVec % 64).toNat = n := by decide +kernel
theorem sl32 : ∀ n, n < 32 → ((nI n &&& 31).toBitVec.smod 32).toNat = n := by decide +kernel
theorem su32 : ∀ n, n < 32 → (((nI n).toUInt32 &&& Int32.toUInt32 31).toBitVec % 32).toNat = n := by decide +kernel
theorem jb_shl {n : Nat} (hn : n < 64) (x : Int64) {i : Nat} (hi : i < 64) : jb_ (jl_shl x (nI n)) i = (decide (n ≤ i) && jb_ x (i - n)) := by
  unfold jb_ jl_shl
  rw [Int64.toBitVec_shiftLeft]
  show (x.toBitVec <<< (((nI n).toInt64 &&& 63).toBitVec.smod 64).toNat).getLsbD i = _
  rw [sl64 n hn, BitVec.getLsbD_shiftLeft]
  rcases Nat.lt_or_ge i n with h | h
  · simp [h, Nat.not_le.mpr h]
  · simp [hi, h, Nat.not_lt.mpr h]
theorem jb_ushr {n : Nat} (hn : n < 64) (x : Int64) (i : Nat) : jb_ (jl_ushr x (nI n)) i = jb_ x (n + i) := by
  show (x.toUInt64 >>> ((nI n).toInt64.toUInt64 &&& Int64.toUInt64 63)).toBitVec.getLsbD i = x.toUInt64.toBitVec.getLsbD (n + i)
  rw [UInt64.toBitVec_shiftRight]
  show (x.toUInt64.toBitVec >>> (((nI n).toInt64.toUInt64 &&& Int64.toUInt64 63).toBitVec % 64).toNat).getLsbD i = _
  rw [su64 n hn, BitVec.getLsbD_ushiftRight]
theorem ib_shl {n : Nat} (hn : n < 32) (x : Int32) {i : Nat} (hi : i < 32) : ib_ (jv_shl x (nI n)) i = (decide (n ≤ i) && ib_ x (i - n)) := by
  unfold ib_ jv_shl
  rw [Int32.toBitVec_shiftLeft]
  show (x.toBitVec <<< ((nI n &&& 31).toBitVec.smod 32).toNat).getLsbD i = _
  rw [sl32 n hn, BitVec.getLsbD_shiftLeft]
  rcases Nat.lt_or_ge i n with h | h
  · simp [h, Nat.not_le.mpr h]
  · simp [hi, h, Nat.not_lt.mpr h]
theorem ib_ushr {n : Nat} (hn : n < 32) (x : Int32) (i : Nat) : ib_ (jv_ushr x (nI n)) i = ib_ x (n + i) := by
  show (x.toUInt32 >>> ((nI n).toUInt32 &&& Int32.toUInt32 31)).toBitVec.getLsbD i = x.toUInt32.toBitVec.getLsbD (n + i)
  rw [UInt32.toBitVec_shiftRight]
  show (x.toUInt32.toBitVec >>> (((nI n).toUInt32 &&& Int32.toUInt32 31).toBitVec % 32).toNat).getLsbD i = _
  rw [su32 n hn, BitVec.getLsbD_ushiftRight]
theorem ib_shr {n : Nat} (hn : n < 32) (x : Int32) {i : Nat} (hi : i < 32) : ib_ (jv_shr x (nI n)) i = if n + i < 32 then ib_ x (n + i) else ib_ x 31 := by
  unfold ib_ jv_shr
  rw [Int32.toBitVec_shiftRight]
  show (x.toBitVec.sshiftRight ((nI n &&& 31).toBitVec.smod 32).toNat).getLsbD i = _
  rw [sl32 n hn, BitVec.getLsbD_sshiftRight, BitVec.msb_eq_getLsbD_last]
  simp [hi]
theorem ib_l2i (x : Int64) {i : Nat} (hi : i < 32) : ib_ x.toInt32 i = jb_ x i := by
  unfold ib_ jb_
  rw [Int64.toBitVec_toInt32, BitVec.getLsbD_signExtend]
  simp [hi, show i < 64 by omega]
theorem jb_i2l (x : Int32) {i : Nat} (hi : i < 64) : jb_ x.toInt64 i = if i < 32 then ib_ x i else ib_ x 31 := by
  unfold ib_ jb_
  rw [Int32.toBitVec_toInt64, BitVec.getLsbD_signExtend, BitVec.msb_eq_getLsbD_last]
  simp [hi]
def bt_ (x : Int64) : Int32 := (x &&& 255).toInt32
theorem ib_bt (x : Int64) {i : Nat} (hi : i < 32) : ib_ (bt_ x) i = (decide (i < 8) && jb_ x i) := by
  unfold bt_
  rw [ib_l2i _ hi, jb_and, jb_255, Bool.and_comm]
theorem bt_l (x : Int64) : (bt_ x).toInt64 = x &&& 255 := by
  refine jb_ext (fun i hi => ?_)
  rw [jb_i2l _ hi, jb_and, jb_255]
  by_cases h : i < 32
  · rw [if_pos h, ib_bt x h, Bool.and_comm]
  · rw [if_neg h, ib_bt x (by decide), decide_eq_false (show ¬ i < 8 by omega)]
    simp
theorem lb_255 (x : Int64) {k : Nat} (hk : k < 8) : lb_ x k &&& 255 = jl_ushr x (nI (8 * k)) &&& 255 := by
  refine jb_ext (fun i hi => ?_)
  unfold lb_
  rw [jb_and, jb_and, jb_255, jb_i2l _ hi]
  by_cases h : i < 8
  · rw [if_pos (by omega), ib_l2i _ (by omega)]
  · simp [h]
theorem bt_lb (x : Int64) {k : Nat} (hk : k < 8) : (jl_ushr x (nI (8 * k)) &&& 255).toInt32 = bt_ (lb_ x k) := by
  unfold bt_
  rw [lb_255 x hk]
theorem and_255 (x : Int64) : x &&& 255 &&& 255 = x &&& 255 := by
  refine jb_ext (fun i _ => ?_)
  rw [jb_and, jb_and, Bool.and_assoc, Bool.and_self]
theorem pb_congr {f : Nat → Int64} {n : Nat} {x y : Int64} (h : x &&& 255 = y &&& 255) : pb_ f n x = pb_ f n y := by
  unfold pb_
  rw [h]
theorem ab_c8 {b b1 : Nat → Int64} {k : Nat} (h : ∀ i, i < k → b i &&& 255 = b1 i &&& 255) : ab_ b k = ab_ b1 k := by
  induction k with
  | zero => rfl
  | succ k ih =>
    show pb_ _ _ _ = pb_ _ _ _
    rw [ih (fun i hi => h i (by omega)), pb_congr (h k (by omega))]
theorem sh_c8 {b b1 : Nat → Int64} {k : Nat} (h : ∀ i, i < k → b i &&& 255 = b1 i &&& 255) : sh_ b k = sh_ b1 k := by
  unfold sh_
  rw [ab_c8 h]
end BT
section UN
def un_ (x : Int64) : Nat := x.toBitVec.toNat
theorem un_lt (x : Int64) : un_ x < 2 ^ 64 := x.toBitVec.isLt
theorem un_ushr {n : Nat} (hn : n < 64) (x : Int64) : un_ (jl_ushr x (nI n)) = un_ x / 2 ^ n := by
  show (x.toUInt64 >>> ((nI n).toInt64.toUInt64 &&& Int64.toUInt64 63)).toBitVec.toNat = x.toUInt64.toBitVec.toNat / 2 ^ n
  rw [UInt64.toBitVec_shiftRight]
  show (x.toUInt64.toBitVec >>> (((nI n).toInt64.toUInt64 &&& Int64.toUInt64 63).toBitVec % 64).toNat).toNat = _
  rw [su64 n hn, BitVec.toNat_ushiftRight, Nat.shiftRight_eq_div_pow]
theorem un_255 (x : Int64) : un_ (x &&& 255) = un_ x % 256 := by
  unfold un_
  rw [Int64.toBitVec_and, BitVec.toNat_and]
  show x.toBitVec.toNat &&& (2 ^ 8 - 1) = x.toBitVec.toNat % 2 ^ 8
  exact Nat.and_two_pow_sub_one_eq_mod _ 8
theorem un_i {x : Int64} (h : un_ x < 2 ^ 31) : x.toInt32 = nI (un_ x) := by
  apply Int32.toBitVec_inj.mp
  rw [Int64.toBitVec_toInt32]
  apply BitVec.eq_of_toNat_eq
  show (x.toBitVec.signExtend 32).toNat = (BitVec.ofNat 32 (un_ x)).toNat
  rw [BitVec.signExtend_eq_setWidth_of_le _ (by decide), BitVec.toNat_setWidth, BitVec.toNat_ofNat]
  rfl
def ob_ (F : Nat → Int64) (t : Nat) : Int32 := (jl_ushr (F (t / 8)) (nI (8 * (t % 8))) &&& 255).toInt32
theorem ob_n (F : Nat → Int64) (t : Nat) : ob_ F t = nI (un_ (F (t / 8)) / 2 ^ (8 * (t % 8)) % 256) := by
  unfold ob_
  have h : un_ (jl_ushr (F (t / 8)) (nI (8 * (t % 8))) &&& 255) = un_ (F (t / 8)) / 2 ^ (8 * (t % 8)) % 256 := by rw [un_255, un_ushr (by omega)]
  rw [un_i (by rw [h]; omega), h]
theorem un_i32 (x : Int64) : x.toInt32 = nI (un_ x % 2 ^ 32) := by
  apply Int32.toBitVec_inj.mp
  rw [Int64.toBitVec_toInt32]
  apply BitVec.eq_of_toNat_eq
  show (x.toBitVec.signExtend 32).toNat = (BitVec.ofNat 32 (un_ x % 2 ^ 32)).toNat
  rw [BitVec.signExtend_eq_setWidth_of_le _ (by decide), BitVec.toNat_setWidth, BitVec.toNat_ofNat, Nat.mod_mod]
  rfl
theorem nI_65535 (a : Nat) : nI (a % 2 ^ 32) &&& 65535 = nI (a % 65536) := by
  apply Int32.toBitVec_inj.mp
  rw [Int32.toBitVec_and]
  apply BitVec.eq_of_toNat_eq
  show (BitVec.ofNat 32 (a % 2 ^ 32) &&& BitVec.ofNat 32 65535).toNat = (BitVec.ofNat 32 (a % 65536)).toNat
  rw [BitVec.toNat_and, BitVec.toNat_ofNat, BitVec.toNat_ofNat, BitVec.toNat_ofNat, Nat.mod_mod]
  show a % 2 ^ 32 &&& (2 ^ 16 - 1) = _
  rw [Nat.and_two_pow_sub_one_eq_mod]
  omega
theorem pr_n (F : Nat → Int64) {k : Nat} : pr_ F k = nI (un_ (F (k / 4)) / 2 ^ (16 * (k % 4)) % 65536) := by
  unfold pr_
  rw [un_i32, un_ushr (by omega), nI_65535]
theorem pr_ob (F : Nat → Int64) {k : Nat} : ob_ F (2 * k) + nI 256 * ob_ F (2 * k + 1) = pr_ F k := by
  rw [ob_n, ob_n, pr_n, show (2 * k) / 8 = k / 4 by omega, show (2 * k + 1) / 8 = k / 4 by omega, show 8 * ((2 * k) % 8) = 16 * (k % 4) by omega, show 8 * ((2 * k + 1) % 8) = 16 * (k % 4) + 8 by omega, Nat.pow_add, ← Nat.div_div_eq_div_mul, pk_mul, nI_add]
  congr 1
  omega
theorem pr_lt (F : Nat → Int64) (k : Nat) : ∃ q, q < 65536 ∧ pr_ F k = nI q := ⟨_, Nat.mod_lt _ (by decide), pr_n F⟩
theorem ob_l (F : Nat → Int64) (t : Nat) : (ob_ F t).toInt64 = jl_ushr (F (t / 8)) (nI (8 * (t % 8))) &&& 255 := bt_l _
end UN
