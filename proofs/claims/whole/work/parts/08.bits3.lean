/-! bytes of longs and ints, as the class and as the reference take them -/
def bl (x : Int64) (i : Nat) : Bool := x.toBitVec.getLsbD i
theorem sL_l : ∀ n, n < 64 → (((nI n).toInt64 &&& 63).toBitVec.smod 64).toNat = n := by decide +kernel
theorem sL_u : ∀ n, n < 64 → (((nI n).toInt64.toUInt64 &&& Int64.toUInt64 63).toBitVec % 64).toNat = n := by decide +kernel
theorem l2i_b (x : Int64) {i : Nat} (hi : i < 32) : bt x.toInt32 i = bl x i := by
  unfold bt bl
  rw [Int64.toBitVec_toInt32]
  have h64 : i < 64 := by omega
  simp only [BitVec.getLsbD_signExtend, hi, h64, decide_true, Bool.true_and, if_true]
theorem i2l_b (x : Int32) {i : Nat} (hi : i < 64) : bl x.toInt64 i = if i < 32 then bt x i else bt x 31 := by
  unfold bt bl
  rw [Int32.toBitVec_toInt64]
  simp only [BitVec.getLsbD_signExtend, hi, decide_true, Bool.true_and]
  by_cases h : i < 32
  · rw [if_pos h, if_pos h]
  · rw [if_neg h, if_neg h, BitVec.msb_eq_getLsbD_last]
theorem uL_b (x : Int64) {n i : Nat} (hn : n < 64) : bl (uL x (nI n)) i = bl x (n + i) := by
  unfold uL
  show (x.toUInt64 >>> ((nI n).toInt64.toUInt64 &&& Int64.toUInt64 63)).toBitVec.getLsbD i = x.toUInt64.toBitVec.getLsbD (n + i)
  rw [UInt64.toBitVec_shiftRight]
  show (x.toUInt64.toBitVec >>> (((nI n).toInt64.toUInt64 &&& Int64.toUInt64 63).toBitVec % 64).toNat).getLsbD i = _
  rw [sL_u n hn, BitVec.getLsbD_ushiftRight]
theorem sL_b (x : Int64) {n i : Nat} (hn : n < 64) (hi : n + i < 64) : bl (x >>> ((nI n).toInt64 &&& 63)) i = bl x (n + i) := by
  unfold bl
  rw [Int64.toBitVec_shiftRight]
  show (x.toBitVec.sshiftRight (((nI n).toInt64 &&& 63).toBitVec.smod 64).toNat).getLsbD i = _
  rw [sL_l n hn, BitVec.getLsbD_sshiftRight]
  have h1 : ¬ 64 ≤ i := by omega
  simp [h1, hi]
/-- the reference's byte of a long -/
theorem nb_sL (x : Int64) {n k : Nat} (hn : n = 8 * k) (hk : k < 8) : bx (x >>> ((nI n).toInt64 &&& 63)).toInt32 = nb x k := by
  subst hn
  unfold nb
  apply bx_ext
  intro i hi
  rw [l2i_b _ (by omega), l2i_b _ (by omega), uL_b _ (by omega), sL_b _ (by omega) (by omega)]
/-- the reference's byte of an int -/
theorem nb_sI (x : Int32) {n k : Nat} (hn : n = 8 * k) (hk : k < 4) : bx (x >>> (nI n &&& 31)) = nb x.toInt64 k := by
  subst hn
  unfold nb
  apply bx_ext
  intro i hi
  rw [l2i_b _ (by omega), uL_b _ (by omega), i2l_b _ (by omega), b_sshr _ (by omega) _ (by omega), if_pos (by omega)]
theorem us_sI (x : Int32) {n : Nat} (hn : n ≤ 24) : bx (x >>> (nI n &&& 31)) = bx (us x (nI n)) := by
  apply bx_ext
  intro i hi
  unfold us
  rw [b_sshr _ (by omega) _ (by omega), if_pos (by omega), b_ushr _ (by omega)]
theorem bx_b (x : Int32) {i : Nat} (hi : i < 8) : bt (bx x) i = bt x i := by
  unfold bt bx
  have h32 : i < 32 := by omega
  rw [Int8.toBitVec_toInt32, Int32.toBitVec_toInt8]
  simp only [BitVec.getLsbD_signExtend, hi, h32, decide_true, Bool.true_and, if_true]
theorem bx_xor (x y : Int32) : bx (bx x ^^^ y) = bx (x ^^^ y) := by
  apply bx_ext
  intro i hi
  rw [b_xor, b_xor, bx_b _ hi]
/-- the high bytes of a small number -/
theorem nb_hi {m k : Nat} (hm : m < 2 ^ 31) (h1 : 4 ≤ k) (h2 : k < 8) : nb (lN m) k = 0 := by
  unfold nb
  rw [show (0 : Int32) = bx 0 from rfl]
  apply bx_ext
  intro i hi
  rw [l2i_b _ (by omega), uL_b _ (by omega), b_0]
  unfold bl
  rw [show (lN m).toBitVec = BitVec.ofNat 64 m from rfl, BitVec.getLsbD_ofNat]
  have : m.testBit (8 * k + i) = false := Nat.testBit_lt_two_pow (Nat.lt_of_lt_of_le hm (Nat.pow_le_pow_right (by decide) (by omega)))
  rw [this, Bool.and_false]
theorem nI_l64 {m : Nat} (hm : m < 2 ^ 31) : (nI m).toInt64 = lN m := nI_l hm
/-- the reference's padded row: rp after i of the four bytes -/
def rpf (row : Nat → Int32) (n i : Nat) : Nat → Int32 := fun j => if pe n - i ≤ j ∧ j < pe n then nb (lN (8 * n)) (pe n - 1 - j) else upd (zf row n (pe n)) n (-128) j
theorem rpf_0 (row : Nat → Int32) (n : Nat) : upd (zf row n (pe n)) n (-128) = rpf row n 0 := by
  funext j
  rw [rpf, if_neg (by omega)]
theorem rpf_s {row g : Nat → Int32} {n i : Nat} {v : Int32} (hi : i + 1 ≤ pe n) (hg : g = rpf row n i) (hv : v = nb (lN (8 * n)) i) : upd g (pe n - 1 - i) v = rpf row n (i + 1) := by
  subst hg
  funext j
  by_cases h : j = pe n - 1 - i
  · rw [upd, if_pos h, rpf, if_pos (by omega), hv, show pe n - 1 - j = i by omega]
  · rw [upd, if_neg h, rpf, rpf]
    by_cases h2 : pe n - i ≤ j ∧ j < pe n
    · rw [if_pos h2, if_pos (by omega)]
    · rw [if_neg h2, if_neg (by omega)]
theorem pad_ref {row : Nat → Int32} {n : Nat} (hn : n ≤ 400) : ∀ j, j < pe n → rpf row n 4 j = pad row n j := by
  intro j hj
  have h9 : n + 9 ≤ pe n := by unfold pe; omega
  unfold rpf pad
  by_cases h1 : j < n
  · rw [if_neg (by omega), if_pos h1, upd, if_neg (by omega), zf, if_neg (by omega)]
  · by_cases h2 : j = n
    · rw [if_neg (by omega), if_neg h1, if_pos h2, upd, if_pos h2]
    · by_cases h3 : j < pe n - 8
      · rw [if_neg (by omega), if_neg h1, if_neg h2, if_pos h3, upd, if_neg h2, zf, if_pos (by omega)]
      · rw [if_neg h1, if_neg h2, if_neg h3]
        by_cases h4 : pe n - 4 ≤ j
        · rw [if_pos (by omega)]
        · rw [if_neg (by omega), upd, if_neg h2, zf, if_pos (by omega), nb_hi (by omega) (by omega) (by omega)]
theorem blk_s {r sm z : Nat → Int32} {b : Nat} (hs : ∀ k, k < 8 → sm k = hsh r b k) (hz : ∀ k, k < 8 → z k = sm k + rds sm (wA r (64 * b) 64) 64 k) : ∀ k, k < 8 → z k = hsh r (b + 1) k := hsh_s hs (fun _ _ => rfl) hz
