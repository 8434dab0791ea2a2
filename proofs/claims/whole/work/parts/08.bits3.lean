/-! bytes of longs and ints, as the class and as the reference take them -/
def bl (x : Int64) (i : Nat) : Bool := x.toBitVec.getLsbD i
theorem sL_l : ∀ n, n < 64 → (((nI n).toInt64 &&& 63).toBitVec.smod 64).toNat = n := by decide +kernel
theorem sL_u : ∀ n, n < 64 → (((nI n).toInt64.toUInt64 &&& Int64.toUInt64 63).toBitVec % 64).toNat = n := by decide +kernel
theorem l2i_b (x : Int64) {i : Nat} (hi : i < 32) : bt x.toInt32 i = bl x i := by
  unfold bt bl
  rw [Int64.toBitVec_toInt32]
  have h64 : i < 64 := by omega
  simp only [BitVec.getLsbD_signExtend, hi, h64, decide_true, Bool.true_and, if_true]
theorem i2l_b (x : Int32) {i : Nat} (hi : i < 64) : bl x.toInt64 i = if i < 32 then bt x i else bt x 31 := by
  unfold bt bl
  rw [Int32.toBitVec_toInt64]
  simp only [BitVec.getLsbD_signExtend, hi, decide_true, Bool.true_and]
  by_cases h : i < 32
  · rw [if_pos h, if_pos h]
  · rw [if_neg h, if_neg h, BitVec.msb_eq_getLsbD_last]
theorem uL_b (x : Int64) {n i : Nat} (hn : n < 64) : bl (uL x (nI n)) i = bl x (n + i) := by
  unfold uL
  show (x.toUInt64 >>> ((nI n).toInt64.toUInt64 &&& Int64.toUInt64 63)).toBitVec.getLsbD i = x.toUInt64.toBitVec.getLsbD (n + i)
  rw [UInt64.toBitVec_shiftRight]
  show (x.toUInt64.toBitVec >>> (((nI n).toInt64.toUInt64 &&& Int64.toUInt64 63).toBitVec % 64).toNat).getLsbD i = _
  rw [sL_u n hn, BitVec.getLsbD_ushiftRight]
theorem sL_b (x : Int64) {n i : Nat} (hn : n < 64) (hi : n + i < 64) : bl (x >>> ((nI n).toInt64 &&& 63)) i = bl x (n + i) := by
  unfold bl
  rw [Int64.toBitVec_shiftRight]
  show (x.toBitVec.sshiftRight (((nI n).toInt64 &&& 63).toBitVec.smod 64).toNat).getLsbD i = _
  rw [sL_l n hn, BitVec.getLsbD_sshiftRight]
  have h1 : ¬ 64 ≤ i := by omega
  simp [h1, hi]
/-- the reference's byte of a long -/
theorem nb_sL (x : Int64) {n k : Nat} (hn : n = 8 * k) (hk : k < 8) : bx (x >>> ((nI n).toInt64 &&& 63)).toInt32 = nb x k := by
  subst hn
  unfold nb
  apply bx_ext
  intro i hi
  rw [l2i_b _ (by omega), l2i_b _ (by omega), uL_b _ (by omega), sL_b _ (by omega) (by omega)]
/-- the reference's byte of an int -/
theorem nb_sI (x : Int32) {n k : Nat} (hn : n = 8 * k) (hk : k < 4) : bx (x >>> (nI n &&& 31)) = nb x.toInt64 k := by
  subst hn
  unfold nb
  apply bx_ext
  intro i hi
  rw [l2i_b _ (by omega), uL_b _ (by omega), i2l_b _ (by omega), b_sshr _ (by omega) _ (by omega), if_pos (by omega)]
theorem us_sI (x : Int32) {n : Nat} (hn : n ≤ 24) : bx (x >>> (nI n &&& 31)) = bx (us x (nI n)) := by
  apply bx_ext
  intro i hi
  unfold us
  rw [b_sshr _ (by omega) _ (by omega), if_pos (by omega), b_ushr _ (by omega)]
theorem bx_b (x : Int32) {i : Nat} (hi : i < 8) : bt (bx x) i = bt x i := by
  unfold bt bx
  have h32 : i < 32 := by omega
  rw [Int8.toBitVec_toInt32, Int32.toBitVec_toInt8]
  simp only [BitVec.getLsbD_signExtend, hi, h32, decide_true, Bool.true_and, if_true]
theorem bx_xor (x y : Int32) : bx (bx x ^^^ y) = bx (x ^^^ y) := by
  apply bx_ext
  intro i hi
  rw [b_xor, b_xor, bx_b _ hi]
/-- the high bytes of a small number -/
theorem nb_hi {m k : Nat} (hm : m < 2 ^ 31) (h1 : 4 ≤ k) (h2 : k < 8) : nb (lN m) k = 0 := by
  unfold nb
  rw [show (0 : Int32) = bx 0 from rfl]
  apply bx_ext
  intro i hi
  rw [l2i_b _ (by omega), uL_b _ (by omega), b_0]
  unfold bl
  rw [show (lN m).toBitVec = BitVec.ofNat 64 m from rfl, BitVec.getLsbD_ofNat]
  have : m.testBit (8 * k + i) = false := Nat.testBit_lt_two_pow (Nat.lt_of_lt_of_le hm (Nat.pow_le_pow_right (by decide) (by omega)))
  rw [this, Bool.and_false]
theorem nI_l64 {m : Nat} (hm : m < 2 ^ 31) : (nI m).toInt64 = lN m := nI_l hm
/-- the reference's padded row: rp after i of the four bytes -/
def rpf (row : Nat → Int32) (n i : Nat) : Nat → Int32 := fun j => if pe n - i ≤ j ∧ j < pe n then nb (lN (8 * n)) (pe n - 1 - j) else upd (zf row n (pe n)) n (-128) j
theorem rpf_0 (row : Nat → Int32) (n : Nat) : upd (zf row n (pe n)) n (-128) = rpf row n 0 := by
  funext j
  rw [rpf, if_neg (by omega)]
theorem rpf_s {row g : Nat → Int32} {n i : Nat} {v : Int32} (hi : i + 1 ≤ pe n) (hg : g = rpf row n i) (hv : v = nb (lN (8 * n)) i) : upd g (pe n - 1 - i) v = rpf row n (i + 1) := by
  subst hg
  funext j
  by_cases h : j = pe n - 1 - i
  · rw [upd, if_pos h, rpf, if_pos (by omega), hv, show pe n - 1 - j = i by omega]
  · rw [upd, if_neg h, rpf, rpf]
    by_cases h2 : pe n - i ≤ j ∧ j < pe n
    · rw [if_pos h2, if_pos (by omega)]
    · rw [if_neg h2, if_neg (by omega)]
theorem pad_ref {row : Nat → Int32} {n : Nat} (hn : n ≤ 400) : ∀ j, j < pe n → rpf row n 4 j = pad row n j := by
  intro j hj
  have h9 : n + 9 ≤ pe n := by unfold pe; omega
  unfold rpf pad
  by_cases h1 : j < n
  · rw [if_neg (by omega), if_pos h1, upd, if_neg (by omega), zf, if_neg (by omega)]
  · by_cases h2 : j = n
    · rw [if_neg (by omega), if_neg h1, if_pos h2, upd, if_pos h2]
    · by_cases h3 : j < pe n - 8
      · rw [if_neg (by omega), if_neg h1, if_neg h2, if_pos h3, upd, if_neg h2, zf, if_pos (by omega)]
      · rw [if_neg h1, if_neg h2, if_neg h3]
        by_cases h4 : pe n - 4 ≤ j
        · rw [if_pos (by omega)]
        · rw [if_neg (by omega), upd, if_neg h2, zf, if_pos (by omega), nb_hi (by omega) (by omega) (by omega)]
theorem blk_s {r sm z : Nat → Int32} {b : Nat} (hs : ∀ k, k < 8 → sm k = hsh r b k) (hz : ∀ k, k < 8 → z k = sm k + rds sm (wA r (64 * b) 64) 64 k) : ∀ k, k < 8 → z k = hsh r (b + 1) k := hsh_s hs (fun _ _ => rfl) hz
/-- the reference's row of a key -/
theorem kx_lo {one two : Int64} {pd : Int32} {j n : Nat} (hj : j < 8) (hn : n = 56 - 8 * j) : bx ((one >>> ((nI n).toInt64 &&& 63)).toInt32 ^^^ pd) = kx (kb one two) pd j := by
  rw [kx, if_pos (by omega), kb, if_pos hj, ← nb_sL one (n := n) (k := 7 - j) (by omega) (by omega), bx_xor]
theorem kx_hi {one two : Int64} {pd : Int32} {j n : Nat} (h8 : 8 ≤ j) (hj : j < 16) (hn : n = 120 - 8 * j) : bx ((two >>> ((nI n).toInt64 &&& 63)).toInt32 ^^^ pd) = kx (kb one two) pd j := by
  rw [kx, if_pos hj, kb, if_neg (by omega), ← nb_sL two (n := n) (k := 15 - j) (by omega) (by omega), bx_xor]
theorem kx_no {key : Nat → Int32} {pd : Int32} {j : Nat} (hj : 16 ≤ j) : bx (nI 0 ^^^ pd) = kx key pd j := by
  rw [kx, if_neg (by omega)]
/-- is bit m of a set there -/
def bitn (st : Int32) (m : Nat) : Bool := decide (st >>> (nI m &&& 31) &&& nI 1 = nI 1)
/-- the first 172 bytes of a letter: c1 is the scroll's first coin -/
def ltf (nr n ct en st : Int32) (c1 : Nat → Int32) : Nat → Int32 := fun j => if j < 2 then nb nr.toInt64 (1 - j) else if j < 4 then nb n.toInt64 (3 - j) else if j < 6 then nb ct.toInt64 (5 - j) else if j < 10 then nb en.toInt64 (9 - j) else if j < 12 then nb st.toInt64 (11 - j)
  else if bitn st ((j - 12) / 20) = true then hb (hd c1 (nI ((j - 12) / 20))) 21 ((j - 12) % 20) else 0
def ltr (nr n ct en st : Int32) (c1 key : Nat → Int32) : Nat → Int32 := fun j => if j < 172 then ltf nr n ct en st c1 j else hmac key (ltf nr n ct en st c1) 172 (j - 172)
theorem hmac_congr {key t t' : Nat → Int32} {k : Nat} (h : ∀ j, j < k → t j = t' j) (j : Nat) : hmac key t k j = hmac key t' k j := by
  unfold hmac
  apply hb_congr
  intro i hi
  unfold hm2
  by_cases q : i < 64
  · rw [if_pos q, if_pos q]
  · rw [if_neg q, if_neg q]
    apply hb_congr
    intro z hz
    unfold hm1
    by_cases q2 : z < 64
    · rw [if_pos q2, if_pos q2]
    · rw [if_neg q2, if_neg q2, h _ (by omega)]
/-- the numbers of a letter, whoever wrote them -/
def lt5 (f : Nat → Int32) (nr n ct en st : Int32) : Nat → Int32 := wnp (wnp (wnp (wnp (wnp f 0 2 nr.toInt64 2) 2 2 n.toInt64 2) 4 2 ct.toInt64 2) 6 4 en.toInt64 4) 10 2 st.toInt64 2
theorem lt5_in {f c1 : Nat → Int32} {nr n ct en st : Int32} : ∀ j, j < 12 → lt5 f nr n ct en st j = ltf nr n ct en st c1 j := by
  intro j hj
  unfold lt5 ltf
  by_cases h1 : j < 2
  · rw [if_pos h1, wnp, if_neg (by omega), wnp, if_neg (by omega), wnp, if_neg (by omega), wnp, if_neg (by omega), wnp, if_pos (by omega)]
    congr 1
  · rw [if_neg h1]
    by_cases h2 : j < 4
    · rw [if_pos h2, wnp, if_neg (by omega), wnp, if_neg (by omega), wnp, if_neg (by omega), wnp, if_pos (by omega)]
      congr 1; omega
    · rw [if_neg h2]
      by_cases h3 : j < 6
      · rw [if_pos h3, wnp, if_neg (by omega), wnp, if_neg (by omega), wnp, if_pos (by omega)]
        congr 1; omega
      · rw [if_neg h3]
        by_cases h4 : j < 10
        · rw [if_pos h4, wnp, if_neg (by omega), wnp, if_pos (by omega)]
          congr 1; omega
        · rw [if_neg h4, if_pos hj, wnp, if_pos (by omega)]
          congr 1; omega
theorem fb_lt5 {f : Nat → Int32} {nr n ct en st : Int32} (h : fb f) : fb (lt5 f nr n ct en st) := fb_wnp (fb_wnp (fb_wnp (fb_wnp (fb_wnp h))))
theorem ltf_hd {nr n ct en st : Int32} {c1 : Nat → Int32} {m k : Nat} (hk : k < 20) : ltf nr n ct en st c1 (12 + 20 * m + k) = if bitn st m = true then hb (hd c1 (nI m)) 21 k else 0 := by
  unfold ltf
  rw [if_neg (by omega), if_neg (by omega), if_neg (by omega), if_neg (by omega), if_neg (by omega), show (12 + 20 * m + k - 12) / 20 = m by omega, show (12 + 20 * m + k - 12) % 20 = k by omega]
/-- a head in its place, all of it: the letter agrees further -/
theorem ltt_s {g L f : Nat → Int32} {m : Nat} (hg : ∀ j, j < 12 + 20 * m → g j = L j) (hf : ∀ k, k < 20 → f (12 + 20 * m + k) = L (12 + 20 * m + k)) (ho : ∀ j, j < 12 + 20 * m → f j = g j) : ∀ j, j < 12 + 20 * (m + 1) → f j = L j := by
  intro j hj
  rcases Nat.lt_or_ge j (12 + 20 * m) with q | q
  · rw [ho j q, hg j q]
  · have e := hf (j - (12 + 20 * m)) (by omega)
    rwa [show 12 + 20 * m + (j - (12 + 20 * m)) = j by omega] at e
def cpo (f g : Nat → Int32) (d i : Nat) : Nat → Int32 := fun j => if d ≤ j ∧ j < d + i then f (j - d) else g j
theorem cpo_0 (f g : Nat → Int32) (d : Nat) : g = cpo f g d 0 := by
  funext j
  rw [cpo, if_neg (by omega)]
theorem cpo_s {f g z : Nat → Int32} {d i : Nat} {v : Int32} (h : z = cpo f g d i) (hv : v = f i) : upd z (d + i) v = cpo f g d (i + 1) := by
  subst h
  funext j
  unfold upd cpo
  by_cases h : j = d + i
  · rw [if_pos h, if_pos (by omega), show j - d = i by omega, hv]
  · rw [if_neg h]
    by_cases h2 : d ≤ j ∧ j < d + i
    · rw [if_pos h2, if_pos (by omega)]
    · rw [if_neg h2, if_neg (by omega)]
theorem fb_cpo {f g : Nat → Int32} {d i : Nat} (hf : fb f) (hg : fb g) : fb (cpo f g d i) := by
  intro j
  unfold cpo
  by_cases h : d ≤ j ∧ j < d + i
  · rw [if_pos h]; exact hf _
  · rw [if_neg h]; exact hg j
theorem fb_0 : fb (fun _ => 0) := fun _ => rfl
theorem ltr_of {g : Nat → Int32} {nr n ct en st : Int32} {c1 key : Nat → Int32} (hg : ∀ j, j < 172 → g j = ltf nr n ct en st c1 j) : ∀ j, j < 204 → cpo (hmac key g 172) g 172 32 j = ltr nr n ct en st c1 key j := by
  intro j hj
  unfold cpo ltr
  by_cases h : j < 172
  · rw [if_neg (by omega), if_pos h, hg j h]
  · rw [if_pos (by omega), if_neg h, hmac_congr hg]
theorem fb_ltf (nr n ct en st : Int32) (c1 : Nat → Int32) : fb (ltf nr n ct en st c1) := by
  intro j
  unfold ltf
  split
  · exact nb_fit _ _
  · split
    · exact nb_fit _ _
    · split
      · exact nb_fit _ _
      · split
        · exact nb_fit _ _
        · split
          · exact nb_fit _ _
          · split
            · exact hb_fit _ _ _
            · rfl
theorem fb_ltr (nr n ct en st : Int32) (c1 key : Nat → Int32) : fb (ltr nr n ct en st c1 key) := by
  intro j
  unfold ltr
  split
  · exact fb_ltf _ _ _ _ _ _ j
  · exact fb_hmac _ _ _ _
theorem cpo_at {f g : Nat → Int32} {d i k : Nat} (h : k < i) : cpo f g d i (d + k) = f k := by rw [cpo, if_pos (by omega), show d + k - d = k by omega]
theorem cpo_lo {f g : Nat → Int32} {d i j : Nat} (h : j < d) : cpo f g d i j = g j := by rw [cpo, if_neg (by omega)]
theorem fb_c0 : fb (fun _ => nI 0) := fun _ => rfl
/-- how many places of a list stand for a meter -/
def lc (L : Nat → Bool) (m : Nat) : Nat → Nat
  | 0 => 0
  | s + 1 => lc L m s + (if L (8 * s + m) = true then 1 else 0)
theorem lc_t {L : Nat → Bool} {m i : Nat} (h : L (8 * i + m) = true) : lc L m i + 1 = lc L m (i + 1) := by rw [lc, if_pos h]
theorem lc_f {L : Nat → Bool} {m i : Nat} (h : L (8 * i + m) = false) : lc L m i + 0 = lc L m (i + 1) := by rw [lc, if_neg (by rw [h]; decide)]
theorem lc_le (L : Nat → Bool) (m : Nat) : ∀ s, lc L m s ≤ s
  | 0 => Nat.le_refl 0
  | s + 1 => by
    have := lc_le L m s
    rw [lc]
    split <;> omega
def sty (v : Int32) : Bool := decide (v = (-1)) || decide (v = nI 3)
def ans (lst : Bool) (day en : Int32) (ix cn : Nat) (j : Int32) : Int32 := if lst = false ∨ ¬ day ≤ en then (-2) else if j ≤ nI ix ∨ nI (ix + 50) < j ∨ ¬ j ≤ nI cn then (-3) else nI 0
def knf (q : Nat → Bool) : Nat → Bool
  | 0 => false
  | k + 1 => knf q k || q k
theorem knf_s {q : Nat → Bool} {k : Nat} {b : Bool} (h : knf q k = false) (hb : b = q k) (hf : b = false) : knf q (k + 1) = false := by rw [knf, h, ← hb, hf]; rfl
theorem knf_t {q : Nat → Bool} {k : Nat} {b : Bool} (hb : b = q k) (ht : b = true) : ∀ n, k < n → knf q n = true
  | 0, h => absurd h (Nat.not_lt_zero _)
  | n + 1, h => by
    rw [knf]
    rcases Nat.lt_or_ge k n with e | e
    · rw [knf_t hb ht n e]; rfl
    · rw [show n = k by omega, ← hb, ht, Bool.or_true]
/-- a letter's code is the code by this key -/
def kq (L : Nat → Int32) (one two : Int64) : Bool := sb (hmac (kb one two) L 172) 0 L 172 32
theorem sb_ff {f g : Nat → Int32} {a b i : Nat} {z : Bool} (hz : z = sb f a g b i) (h : z = false) : false = sb f a g b (i + 1) := by rw [sb, ← hz, h]; rfl
theorem sb_tt {f g : Nat → Int32} {b i : Nat} {z : Bool} (hz : z = sb f 0 g b i) (h : z = true) (e : f i = g (b + i)) : true = sb f 0 g b (i + 1) := (sb_s (hz.symm.trans h) (by rw [Nat.zero_add]; exact e)).symm
theorem sb_tf {f g : Nat → Int32} {b i : Nat} {z : Bool} (hz : z = sb f 0 g b i) (h : z = true) (e : ¬ f i = g (b + i)) : false = sb f 0 g b (i + 1) := (sb_f (Nat.lt_succ_self i) (by rw [Nat.zero_add]; exact e)).symm
/-- r steps of a coin with index j towards the coin before, at a meter -/
def fw (c : Nat → Int32) (m : Int32) (j : Nat) : Nat → (Nat → Int32)
  | 0 => c
  | r + 1 => if j - r = 1 then hb (hd (fw c m j r) m) 21 else hb (fw c m j r) 20
theorem fw_h {c : Nat → Int32} {m : Int32} {j r r' : Nat} (h : j - r = 1) (e : r' = r + 1) : hb (hd (fw c m j r) m) 21 = fw c m j r' := by subst e; rw [fw, if_pos h]
theorem fw_c {c : Nat → Int32} {m : Int32} {j r r' : Nat} (h : ¬ j - r = 1) (e : r' = r + 1) : hb (fw c m j r) 20 = fw c m j r' := by subst e; rw [fw, if_neg h]
theorem fb_fw {c : Nat → Int32} {m : Int32} {j : Nat} (h : fb c) : ∀ r, fb (fw c m j r)
  | 0 => h
  | r + 1 => by
    rw [fw]
    split
    · exact fb_hb _ _
    · exact fb_hb _ _
theorem wi_b {v : Int32} {b : Nat} (hb : b ≤ 16) (h : wi v (nI 0) (nI b - nI 1) = true) : ∃ j : Nat, j < b ∧ v = nI j := by
  rcases Nat.eq_zero_or_pos b with e | e
  · subst e
    simp only [wi, Bool.and_eq_true, Bool.not_eq_true', decide_eq_false_iff_not] at h
    exfalso
    have h1 : (0 : Int) ≤ v.toInt := by
      have := Int32.le_iff_toInt_le.mp (Int32.not_lt.mp h.1)
      exact this
    have h2 : v.toInt ≤ -1 := by
      have := Int32.not_lt.mp h.2
      have := Int32.le_iff_toInt_le.mp this
      exact this
    omega
  · rw [pk_sub (by omega)] at h
    obtain ⟨j, -, h2, h3⟩ := wi_nat (by omega) (by omega) h
    exact ⟨j, by omega, h3⟩
theorem wi_bt {j b : Nat} (h : j < b) (hb : b ≤ 16) : wi (nI j) (nI 0) (nI b - nI 1) = true := by
  rw [pk_sub (by omega)]
  exact wi_t (by omega) (by omega) (by omega)
def monf (p0 : Int32) (c : Int64) : Bool := wi p0 (nI 0) (nI 7) && !decide (c < 1) && decide (c ≤ 1000000000)
