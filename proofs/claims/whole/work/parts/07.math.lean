/-! THE MATHEMATICS: SHA-256 over functions Nat → Int32 (bytes are Int32 in -128..127) -/
def us (x y : Int32) : Int32 := (x.toUInt32 >>> (y.toUInt32 &&& Int32.toUInt32 31)).toInt32
def uL (x : Int64) (y : Int32) : Int64 := (x.toUInt64 >>> (y.toInt64.toUInt64 &&& Int64.toUInt64 63)).toInt64
def ro (x k : Int32) : Int32 := us x k ||| x <<< ((nI 32 - k) &&& 31)
/-- a word out of four bytes -/
def w4 (a b c d : Int32) : Int32 := (a &&& nI 255) <<< (nI 24 &&& 31) ||| (b &&& nI 255) <<< (nI 16 &&& 31) ||| (c &&& nI 255) <<< (nI 8 &&& 31) ||| d &&& nI 255
def s0 (x : Int32) : Int32 := ro x (nI 7) ^^^ ro x (nI 18) ^^^ us x (nI 3)
def s1 (x : Int32) : Int32 := ro x (nI 17) ^^^ ro x (nI 19) ^^^ us x (nI 10)
/-- the word t, out of the words before it -/
def wx (row : Nat → Int32) (at_ t : Nat) (w : Nat → Int32) : Int32 :=
  if t < 16 then w4 (row (at_ + 4 * t)) (row (at_ + 4 * t + 1)) (row (at_ + 4 * t + 2)) (row (at_ + 4 * t + 3))
  else s1 (w (t - 2)) + w (t - 7) + s0 (w (t - 15)) + w (t - 16)
/-- the words after t steps -/
def wA (row : Nat → Int32) (at_ : Nat) : Nat → (Nat → Int32)
  | 0 => fun _ => 0
  | t + 1 => upd (wA row at_ t) t (wx row at_ t (wA row at_ t))
def S1 (e : Int32) : Int32 := ro e (nI 6) ^^^ ro e (nI 11) ^^^ ro e (nI 25)
def S0 (a : Int32) : Int32 := ro a (nI 2) ^^^ ro a (nI 13) ^^^ ro a (nI 22)
def chx (e f g : Int32) : Int32 := e &&& f ^^^ (e ^^^ (-1)) &&& g
def maj (a b c : Int32) : Int32 := a &&& b ^^^ a &&& c ^^^ b &&& c
def up1 (v : Nat → Int32) (k w : Int32) : Int32 := v 7 + S1 (v 4) + chx (v 4) (v 5) (v 6) + k + w
def dn1 (v : Nat → Int32) : Int32 := S0 (v 0) + maj (v 0) (v 1) (v 2)
/-- a round -/
def rd (v : Nat → Int32) (k w : Int32) : Nat → Int32 := fun j => match j with
  | 0 => up1 v k w + dn1 v
  | 4 => v 3 + up1 v k w
  | j + 1 => v j
def rds (h w : Nat → Int32) : Nat → (Nat → Int32)
  | 0 => h
  | t + 1 => rd (rds h w t) (k_cu t) (w t)
/-- a block -/
def blk (h row : Nat → Int32) (at_ : Nat) : Nat → Int32 := fun k => h k + rds h (wA row at_ 64) 64 k
def hsh (row : Nat → Int32) : Nat → (Nat → Int32)
  | 0 => k_sq
  | b + 1 => blk (hsh row b) row (64 * b)
/-- byte k of a long, the lowest is 0 -/
def nb (v : Int64) (k : Nat) : Int32 := bx (uL v (nI (8 * k))).toInt32
theorem nb_fit (v : Int64) (k : Nat) : bx (nb v k) = nb v k := bx_bx _
/-- a number written into a row, i of its k bytes -/
def wnp (f : Nat → Int32) (a k : Nat) (v : Int64) (i : Nat) : Nat → Int32 := fun j => if a ≤ j ∧ j < a + i then nb v (k - 1 - (j - a)) else f j
theorem wnp_0 (f : Nat → Int32) (a k : Nat) (v : Int64) : f = wnp f a k v 0 := by
  funext j
  rw [wnp, if_neg (by omega)]
theorem wnp_s {f g : Nat → Int32} {a k : Nat} {v : Int64} {i : Nat} (hg : g = wnp f a k v i) : upd g (a + i) (nb v (k - 1 - i)) = wnp f a k v (i + 1) := by
  subst hg
  funext j
  unfold upd wnp
  by_cases h : j = a + i
  · rw [if_pos h, if_pos (by omega), show j - a = i by omega]
  · rw [if_neg h]
    by_cases h2 : a ≤ j ∧ j < a + i
    · rw [if_pos h2, if_pos (by omega)]
    · rw [if_neg h2, if_neg (by omega)]
theorem fb_wnp {f : Nat → Int32} {a k : Nat} {v : Int64} {i : Nat} (h : fb f) : fb (wnp f a k v i) := by
  intro j
  unfold wnp
  by_cases h2 : a ≤ j ∧ j < a + i
  · rw [if_pos h2]; exact nb_fit _ _
  · rw [if_neg h2]; exact h j
theorem fb_upd {f : Nat → Int32} {k : Nat} {v : Int32} (h : fb f) (hv : bx v = v) : fb (upd f k v) := by
  intro j
  unfold upd
  by_cases h2 : j = k
  · rw [if_pos h2]; exact hv
  · rw [if_neg h2]; exact h j
theorem fb_cpy {f g : Nat → Int32} {sp dp n : Nat} (hf : fb f) (hg : fb g) : fb (va_cpy f g sp dp n) := by
  intro j
  unfold va_cpy
  by_cases h2 : dp ≤ j ∧ j < dp + n
  · rw [if_pos h2]; exact hf _
  · rw [if_neg h2]; exact hg j
/-- number >= least && number <= most, as the class asks it -/
def wi (v lo hi : Int32) : Bool := !decide (v < lo) && !decide (hi < v)
theorem wi_nat {v : Int32} {a b : Nat} (ha : a < 2 ^ 31) (hb : b < 2 ^ 31) (h : wi v (nI a) (nI b) = true) : ∃ j : Nat, a ≤ j ∧ j ≤ b ∧ v = nI j := by
  simp only [wi, Bool.and_eq_true, Bool.not_eq_true', decide_eq_false_iff_not] at h
  have h0 : ¬ v < 0 := fun q => h.1 (Int32.lt_of_lt_of_le q (nI_pos' ha))
  obtain ⟨j, hj, rfl⟩ := nI_of h0
  refine ⟨j, ?_, ?_, rfl⟩
  · exact Nat.le_of_not_lt fun q => h.1 ((nI_ltI hj ha).mpr q)
  · exact Nat.le_of_not_lt fun q => h.2 ((nI_ltI hb hj).mpr q)
theorem wi_t {j a b : Nat} (h1 : a ≤ j) (h2 : j ≤ b) (hb : b < 2 ^ 31) : wi (nI j) (nI a) (nI b) = true := by
  simp only [wi, Bool.and_eq_true, Bool.not_eq_true', decide_eq_false_iff_not]
  exact ⟨fun q => absurd ((nI_ltI (by omega) (by omega)).mp q) (by omega), fun q => absurd ((nI_ltI (by omega) (by omega)).mp q) (by omega)⟩
theorem wx_lo {row w : Nat → Int32} {a t : Nat} (h : t < 16) : wx row a t w = w4 (row (a + 4 * t)) (row (a + 4 * t + 1)) (row (a + 4 * t + 2)) (row (a + 4 * t + 3)) := by rw [wx, if_pos h]
theorem wx_hi {row w : Nat → Int32} {a t : Nat} (h : ¬ t < 16) : wx row a t w = s1 (w (t - 2)) + w (t - 7) + s0 (w (t - 15)) + w (t - 16) := by rw [wx, if_neg h]
theorem wA_s {row f : Nat → Int32} {a t : Nat} {v : Int32} (hf : ∀ j, j < t → f j = wA row a t j) (hv : v = wx row a t (wA row a t)) : ∀ j, j < t + 1 → upd f t v j = wA row a (t + 1) j := by
  intro j hj
  show upd f t v j = upd (wA row a t) t (wx row a t (wA row a t)) j
  unfold upd
  by_cases h : j = t
  · rw [if_pos h, if_pos h, hv]
  · rw [if_neg h, if_neg h]; exact hf j (by omega)
theorem wA_congr {r r' : Nat → Int32} {a a' : Nat} (h : ∀ j, j < 64 → r (a + j) = r' (a' + j)) : ∀ t, wA r a t = wA r' a' t
  | 0 => rfl
  | t + 1 => by
    have ih := wA_congr h t
    show upd (wA r a t) t (wx r a t (wA r a t)) = upd (wA r' a' t) t (wx r' a' t (wA r' a' t))
    rw [ih]
    suffices e : wx r a t (wA r' a' t) = wx r' a' t (wA r' a' t) by rw [e]
    generalize wA r' a' t = z
    by_cases ht : t < 16
    · rw [wx_lo ht, wx_lo ht]
      have e0 := h (4 * t) (by omega)
      have e1 := h (4 * t + 1) (by omega)
      have e2 := h (4 * t + 2) (by omega)
      have e3 := h (4 * t + 3) (by omega)
      simp only [← Nat.add_assoc] at e1 e2 e3
      rw [e0, e1, e2, e3]
    · rw [wx_hi ht, wx_hi ht]
theorem rd_congr {v v' : Nat → Int32} (h : ∀ k, k < 8 → v k = v' k) (a b : Int32) : ∀ k, k < 8 → rd v a b k = rd v' a b k := by
  have hu : up1 v a b = up1 v' a b := by unfold up1; rw [h 7 (by omega), h 4 (by omega), h 5 (by omega), h 6 (by omega)]
  have hd : dn1 v = dn1 v' := by unfold dn1; rw [h 0 (by omega), h 1 (by omega), h 2 (by omega)]
  intro k hk
  match k, hk with
  | 0, _ => show up1 v a b + dn1 v = up1 v' a b + dn1 v'; rw [hu, hd]
  | 1, _ => exact h 0 (by omega)
  | 2, _ => exact h 1 (by omega)
  | 3, _ => exact h 2 (by omega)
  | 4, _ => show v 3 + up1 v a b = v' 3 + up1 v' a b; rw [hu, h 3 (by omega)]
  | 5, _ => exact h 4 (by omega)
  | 6, _ => exact h 5 (by omega)
  | 7, _ => exact h 6 (by omega)
  | n + 8, q => exact absurd q (by omega)
theorem rds_congr {h h' w w' : Nat → Int32} (hh : ∀ k, k < 8 → h k = h' k) : ∀ t, (∀ j, j < t → w j = w' j) → ∀ k, k < 8 → rds h w t k = rds h' w' t k
  | 0, _, k, hk => hh k hk
  | t + 1, hw, k, hk => by
    have ih := rds_congr hh t (fun j hj => hw j (by omega))
    show rd (rds h w t) (k_cu t) (w t) k = rd (rds h' w' t) (k_cu t) (w' t) k
    rw [hw t (by omega)]
    exact rd_congr ih _ _ k hk
theorem hsh_congr {r r' : Nat → Int32} : ∀ b, (∀ j, j < 64 * b → r j = r' j) → hsh r b = hsh r' b
  | 0, _ => rfl
  | b + 1, h => by
    have ih := hsh_congr b (fun j hj => h j (by omega))
    show blk (hsh r b) r (64 * b) = blk (hsh r' b) r' (64 * b)
    rw [ih]
    unfold blk
    rw [wA_congr (r := r) (r' := r') (a := 64 * b) (a' := 64 * b) (fun j hj => h (64 * b + j) (by omega))]
/-- behind a block: the sums of the next one -/
theorem hsh_s {r sm w z : Nat → Int32} {b : Nat} (hs : ∀ k, k < 8 → sm k = hsh r b k) (hw : ∀ j, j < 64 → w j = wA r (64 * b) 64 j) (hz : ∀ k, k < 8 → z k = sm k + rds sm w 64 k) : ∀ k, k < 8 → z k = hsh r (b + 1) k := by
  intro k hk
  rw [hz k hk, hs k hk, rds_congr hs 64 hw k hk]
  rfl
/-- where the padded row of n bytes ends -/
def pe (n : Nat) : Nat := (n + 72) / 64 * 64
def pad (row : Nat → Int32) (n : Nat) : Nat → Int32 := fun j => if j < n then row j else if j = n then (-128) else if j < pe n - 8 then 0 else nb (lN (8 * n)) (pe n - 1 - j)
/-- byte k of HASH of the first n bytes of a row -/
def hb (row : Nat → Int32) (n k : Nat) : Int32 := bx (us (hsh (pad row n) (pe n / 64) (k / 4)) (nI (24 - 8 * (k % 4))))
theorem hb_fit (row : Nat → Int32) (n k : Nat) : bx (hb row n k) = hb row n k := bx_bx _
theorem pad_congr {r r' : Nat → Int32} {n : Nat} (h : ∀ j, j < n → r j = r' j) : pad r n = pad r' n := by
  funext j
  unfold pad
  by_cases hj : j < n
  · rw [if_pos hj, if_pos hj, h j hj]
  · rw [if_neg hj, if_neg hj]
theorem hb_congr {r r' : Nat → Int32} {n : Nat} (h : ∀ j, j < n → r j = r' j) (k : Nat) : hb r n k = hb r' n k := by
  unfold hb
  rw [pad_congr h]
/-- the first i bytes of a HASH written at a place -/
def hbp (to : Nat → Int32) (a : Nat) (row : Nat → Int32) (n i : Nat) : Nat → Int32 := fun j => if a ≤ j ∧ j < a + i then hb row n (j - a) else to j
theorem hbp_0 (to : Nat → Int32) (a : Nat) (row : Nat → Int32) (n : Nat) : to = hbp to a row n 0 := by
  funext j
  rw [hbp, if_neg (by omega)]
theorem hbp_s {to g : Nat → Int32} {a : Nat} {row : Nat → Int32} {n i : Nat} {v : Int32} (hg : g = hbp to a row n i) (hv : v = hb row n i) : upd g (a + i) v = hbp to a row n (i + 1) := by
  subst hg
  funext j
  unfold upd hbp
  by_cases h : j = a + i
  · rw [if_pos h, if_pos (by omega), show j - a = i by omega, hv]
  · rw [if_neg h]
    by_cases h2 : a ≤ j ∧ j < a + i
    · rw [if_pos h2, if_pos (by omega)]
    · rw [if_neg h2, if_neg (by omega)]
theorem fb_hbp {to : Nat → Int32} {a : Nat} {row : Nat → Int32} {n i : Nat} (h : fb to) : fb (hbp to a row n i) := by
  intro j
  unfold hbp
  by_cases h2 : a ≤ j ∧ j < a + i
  · rw [if_pos h2]; exact hb_fit _ _ _
  · rw [if_neg h2]; exact h j
/-- zeros from a to i -/
def zf (f : Nat → Int32) (a i : Nat) : Nat → Int32 := fun j => if a ≤ j ∧ j < i then 0 else f j
theorem zf_0 (f : Nat → Int32) (a : Nat) : f = zf f a a := by
  funext j
  rw [zf, if_neg (by omega)]
theorem zf_s {f g : Nat → Int32} {a i : Nat} (ha : a ≤ i) (hg : g = zf f a i) : upd g i 0 = zf f a (i + 1) := by
  subst hg
  funext j
  unfold upd zf
  by_cases h : j = i
  · rw [if_pos h, if_pos (by omega)]
  · rw [if_neg h]
    by_cases h2 : a ≤ j ∧ j < i
    · rw [if_pos h2, if_pos (by omega)]
    · rw [if_neg h2, if_neg (by omega)]
theorem lN8 {n : Nat} (h : n < 2 ^ 20) : (nI n).toInt64 * 8 = lN (8 * n) := by
  rw [nI_l (by omega), show (8 : Int64) = lN 8 from rfl, lN_mul, Nat.mul_comm]
/-- the class's padded row -/
theorem pad_class {row : Nat → Int32} {n : Nat} (hn : n ≤ 247) {v : Int64} (hv : v = lN (8 * n)) : ∀ j, j < pe n → zf (upd (wnp row (pe n - 8) 8 v 8) n (-128)) (n + 1) (pe n - 8) j = pad row n j := by
  subst hv
  intro j hj
  have h9 : n + 9 ≤ pe n := by unfold pe; omega
  unfold zf upd pad wnp
  by_cases h1 : j < n
  · rw [if_neg (by omega), if_neg (by omega), if_neg (by omega), if_pos h1]
  · by_cases h2 : j = n
    · rw [if_neg (by omega), if_pos h2, if_neg h1, if_pos h2]
    · by_cases h3 : j < pe n - 8
      · rw [if_pos (by omega), if_neg h1, if_neg h2, if_pos h3]
      · rw [if_neg (by omega), if_neg h2, if_pos (by omega), if_neg h1, if_neg h2, if_neg h3]
        congr 1
        omega
theorem hbp_congr {to r r' : Nat → Int32} {a n i : Nat} (h : ∀ j, j < n → r j = r' j) : hbp to a r n i = hbp to a r' n i := by
  funext j
  unfold hbp
  rw [hb_congr h]
theorem cpy_in {f g : Nat → Int32} {a n : Nat} : ∀ j, j < n → va_cpy f g a 0 n j = f (a + j) := fun j hj => by rw [va_cpy, if_pos (by omega), Nat.sub_zero]
/-- the row of a key and a pad -/
def kx (key : Nat → Int32) (pd : Int32) (j : Nat) : Int32 := bx ((if j < 16 then key j else nI 0) ^^^ pd)
def kpf (row key : Nat → Int32) (pd : Int32) (i : Nat) : Nat → Int32 := fun j => if j < i then kx key pd j else row j
theorem kpf_0 (row key : Nat → Int32) (pd : Int32) : row = kpf row key pd 0 := by
  funext j
  rw [kpf, if_neg (by omega)]
theorem kpf_s {row key g : Nat → Int32} {pd v : Int32} {i : Nat} (hg : g = kpf row key pd i) (hv : v = kx key pd i) : upd g i v = kpf row key pd (i + 1) := by
  subst hg
  funext j
  unfold upd kpf
  by_cases h : j = i
  · rw [if_pos h, if_pos (by omega), hv, h]
  · rw [if_neg h]
    by_cases h2 : j < i
    · rw [if_pos h2, if_pos (by omega)]
    · rw [if_neg h2, if_neg (by omega)]
/-- CODE of the first k bytes of a text by a key -/
def hm1 (key tx : Nat → Int32) : Nat → Int32 := fun j => if j < 64 then kx key (nI 54) j else tx (j - 64)
def hm2 (key tx : Nat → Int32) (k : Nat) : Nat → Int32 := fun j => if j < 64 then kx key (nI 92) j else hb (hm1 key tx) (64 + k) (j - 64)
def hmac (key tx : Nat → Int32) (k j : Nat) : Int32 := hb (hm2 key tx k) 96 j
def cdm (cd key tx : Nat → Int32) (k : Nat) : Nat → Int32 := fun j => if j < 32 then hmac key tx k j else cd j
theorem fb_cdm {cd key tx : Nat → Int32} {k : Nat} (h : fb cd) : fb (cdm cd key tx k) := by
  intro j
  unfold cdm
  by_cases h2 : j < 32
  · rw [if_pos h2]; exact hb_fit _ _ _
  · rw [if_neg h2]; exact h j
theorem cpy_key {row key tx : Nat → Int32} {pd : Int32} {k : Nat} : ∀ j, j < 64 + k → va_cpy tx (kpf row key pd 64) 0 64 k j = if j < 64 then kx key pd j else tx (j - 64) := fun j hj => by
  unfold va_cpy kpf
  by_cases h : j < 64
  · rw [if_neg (by omega), if_pos h, if_pos h]
  · rw [if_pos (by omega), if_neg h, Nat.zero_add]
theorem cdm_of {cd key tx row row2 : Nat → Int32} {k : Nat} : hbp (hbp cd 0 (va_cpy tx (kpf row key (nI 54) 64) 0 64 k) (64 + k) 32) 0 (va_cpy (hbp cd 0 (va_cpy tx (kpf row key (nI 54) 64) 0 64 k) (64 + k) 32) (kpf row2 key (nI 92) 64) 0 64 32) 96 32 = cdm cd key tx k := by
  have h1 : ∀ j, j < 96 → va_cpy (hbp cd 0 (va_cpy tx (kpf row key (nI 54) 64) 0 64 k) (64 + k) 32) (kpf row2 key (nI 92) 64) 0 64 32 j = hm2 key tx k j := by
    intro j hj
    rw [cpy_key (k := 32) j hj]
    unfold hm2
    by_cases h : j < 64
    · rw [if_pos h, if_pos h]
    · rw [if_neg h, if_neg h]
      unfold hbp
      rw [if_pos (by omega), Nat.sub_zero]
      exact hb_congr (fun q hq => cpy_key q hq) _
  rw [hbp_congr h1]
  funext j
  unfold hbp cdm hmac
  by_cases h : j < 32
  · rw [if_pos (by omega), if_pos h, Nat.sub_zero]
  · rw [if_neg (by omega), if_neg (by omega), if_neg h]
theorem wA_t {row w : Nat → Int32} {a t : Nat} (hw : ∀ j, j < t → w j = wA row a t j) (h : 16 ≤ t) : s1 (w (t - 2)) + w (t - 7) + s0 (w (t - 15)) + w (t - 16) = wx row a t (wA row a t) := by
  rw [wx_hi (by omega), hw _ (by omega), hw (t - 7) (by omega), hw (t - 15) (by omega), hw (t - 16) (by omega)]
/-- the eight sums behind the rounds -/
def s8 (sm v : Nat → Int32) : Nat → Int32 := upd (upd (upd (upd (upd (upd (upd (upd sm 0 (sm 0 + v 0)) 1 (sm 1 + v 1)) 2 (sm 2 + v 2)) 3 (sm 3 + v 3)) 4 (sm 4 + v 4)) 5 (sm 5 + v 5)) 6 (sm 6 + v 6)) 7 (sm 7 + v 7)
theorem s8_at (sm v : Nat → Int32) : ∀ k, k < 8 → s8 sm v k = sm k + v k := by
  intro k hk
  match k, hk with
  | 0, _ => rfl
  | 1, _ => rfl
  | 2, _ => rfl
  | 3, _ => rfl
  | 4, _ => rfl
  | 5, _ => rfl
  | 6, _ => rfl
  | 7, _ => rfl
  | n + 8, q => exact absurd q (by omega)
theorem upd_s {f g : Nat → Int32} {i : Nat} {v : Int32} (hf : ∀ j, j < i → f j = g j) (hv : v = g i) : ∀ j, j < i + 1 → upd f i v j = g j := by
  intro j hj
  unfold upd
  by_cases h : j = i
  · rw [if_pos h, hv, h]
  · rw [if_neg h]; exact hf j (by omega)
theorem sh_s {v w : Nat → Int32} {i : Nat} (h0 : 0 < i) (hi : i ≤ 7) (h : ∀ j, j < 8 → w j = if i < j then v (j - 1) else v j) : ∀ j, j < 8 → upd w i (w (i - 1)) j = if i - 1 < j then v (j - 1) else v j := by
  intro j hj
  unfold upd
  by_cases e : j = i
  · rw [if_pos e, h _ (by omega), if_neg (by omega), if_pos (by omega), e]
  · rw [if_neg e, h j hj]
    by_cases q : i < j
    · rw [if_pos q, if_pos (by omega)]
    · rw [if_neg q, if_neg (by omega)]
theorem rd_sh {hh w ww v x : Nat → Int32} {i : Nat} (hv : ∀ j, j < 8 → v j = rds hh ww i j) (hw : w i = ww i) (hx : ∀ j, j < 8 → x j = if 0 < j then v (j - 1) else v j) :
    ∀ j, j < 8 → upd (upd x 4 (x 4 + up1 v (k_cu i) (w i))) 0 (up1 v (k_cu i) (w i) + dn1 v) j = rds hh ww (i + 1) j := by
  intro j hj
  show _ = rd (rds hh ww i) (k_cu i) (ww i) j
  rw [← rd_congr hv _ _ j hj, hw]
  match j, hj with
  | 0, _ => rfl
  | 1, _ => exact hx 1 (by omega)
  | 2, _ => exact hx 2 (by omega)
  | 3, _ => exact hx 3 (by omega)
  | 4, _ => show x 4 + _ = v 3 + _; rw [hx 4 (by omega)]; rfl
  | 5, _ => exact hx 5 (by omega)
  | 6, _ => exact hx 6 (by omega)
  | 7, _ => exact hx 7 (by omega)
  | n + 8, q => exact absurd q (by omega)
theorem ad_s {hh v x : Nat → Int32} {i : Nat} (hi : i < 8) (h : ∀ j, j < 8 → x j = if j < i then hh j + v j else hh j) : ∀ j, j < 8 → upd x i (x i + v i) j = if j < i + 1 then hh j + v j else hh j := by
  intro j hj
  unfold upd
  by_cases e : j = i
  · rw [if_pos e, h i hi, if_neg (by omega), if_pos (by omega), e]
  · rw [if_neg e, h j hj]
    by_cases q : j < i
    · rw [if_pos q, if_pos (by omega)]
    · rw [if_neg q, if_neg (by omega)]
/-- equal bytes -/
def sb (f : Nat → Int32) (a : Nat) (g : Nat → Int32) (b : Nat) : Nat → Bool
  | 0 => true
  | k + 1 => sb f a g b k && decide (f (a + k) = g (b + k))
theorem sb_s {f g : Nat → Int32} {a b i : Nat} (h : sb f a g b i = true) (e : f (a + i) = g (b + i)) : sb f a g b (i + 1) = true := by
  show (sb f a g b i && decide (f (a + i) = g (b + i))) = true
  rw [h, e]; simp
theorem sb_iff {f g : Nat → Int32} {a b : Nat} : ∀ k, sb f a g b k = true ↔ ∀ i, i < k → f (a + i) = g (b + i)
  | 0 => by simp [sb]
  | k + 1 => by
    show (sb f a g b k && decide (f (a + k) = g (b + k))) = true ↔ _
    rw [Bool.and_eq_true, sb_iff k, decide_eq_true_eq]
    constructor
    · rintro ⟨h1, h2⟩ i hi
      rcases Nat.lt_or_ge i k with q | q
      · exact h1 i q
      · rw [show i = k by omega]; exact h2
    · intro h
      exact ⟨fun i hi => h i (by omega), h k (by omega)⟩
theorem sb_f {f g : Nat → Int32} {a b i k : Nat} (hi : i < k) (e : ¬ f (a + i) = g (b + i)) : sb f a g b k = false := by
  cases q : sb f a g b k with
  | false => rfl
  | true => exact absurd ((sb_iff k).mp q i hi) e
/-- a coin and a meter's number behind it -/
def hd (c : Nat → Int32) (v : Int32) : Nat → Int32 := fun j => if j < 20 then c j else bx v
theorem nb_0 (v : Int32) : nb v.toInt64 0 = bx v := by
  unfold nb
  congr 1
  have e : uL v.toInt64 (nI (8 * 0)) = v.toInt64 := by
    unfold uL
    show (v.toInt64.toUInt64 >>> ((0 : Int32).toInt64.toUInt64 &&& Int64.toUInt64 63)).toInt64 = v.toInt64
    rw [show ((0 : Int32).toInt64.toUInt64 &&& Int64.toUInt64 63) = 0 by decide]
    simp
  rw [e]
  simp
theorem hd_in {f row : Nat → Int32} {a : Nat} {mt : Int32} : ∀ j, j < 21 → wnp (va_cpy f row a 0 20) 20 1 mt.toInt64 1 j = hd (fun j => f (a + j)) mt j := fun j hj => by
  unfold wnp hd
  by_cases h : j < 20
  · rw [if_neg (by omega), if_pos h, cpy_in j h]
  · rw [if_pos (by omega), if_neg h, show 1 - 1 - (j - 20) = 0 by omega, nb_0]
theorem arr_P {D : va_G} {cl : List vw_C} {ws : va_W} {H : Heap} {a n : Nat} {cA : ClassId} {f g : Nat → Int32} (h : va_P D cl ws H) (k : Nat) (hk : ws[k]? = some (a, .inl (cA, n, .inl f))) (e : ∀ j, j < n → f j = g j) : va_P D cl (ws.set k (a, .inl (cA, n, .inl g))) H := by
  intro i q hi
  by_cases hik : i = k
  · subst hik
    rw [List.getElem?_set_self (List.getElem?_eq_some_iff.mp hk).1] at hi
    cases hi
    have h1 : H[a]? = some (vp_cell cA (n, .inl f)) := h i _ hk
    show H[a]? = some (vp_cell cA (n, .inl g))
    rw [h1]
    congr 1
    show arrV cA n (fun j => .int (f j)) = arrV cA n (fun j => .int (g j))
    unfold arrV
    congr 2
    funext j
    show Value.int (f j.val) = Value.int (g j.val)
    rw [e j.val j.isLt]
  · rw [List.getElem?_set_ne (Ne.symm hik)] at hi
    exact h i q hi
theorem upd_bI (f : Nat → Bool) (k : Nat) (b : Bool) : upd (fun j => bI (f j)) k (bI b) = fun j => bI (va_up f k b j) := by
  funext j
  unfold upd va_up
  by_cases h : j = k
  · rw [if_pos h, if_pos h]
  · rw [if_neg h, if_neg h]
theorem upd_nI (f : Nat → Nat) (k v : Nat) : upd (fun j => nI (f j)) k (nI v) = fun j => nI (va_up f k v j) := by
  funext j
  unfold upd va_up
  by_cases h : j = k
  · rw [if_pos h, if_pos h]
  · rw [if_neg h, if_neg h]
/-- the first i places of f over g -/
def cp (f g : Nat → Int32) (i : Nat) : Nat → Int32 := fun j => if j < i then f j else g j
theorem cp_0 (f g : Nat → Int32) : g = cp f g 0 := by
  funext j
  rw [cp, if_neg (by omega)]
theorem cp_s {f g z : Nat → Int32} {i : Nat} (h : z = cp f g i) : upd z i (f i) = cp f g (i + 1) := by
  subst h
  funext j
  unfold upd cp
  by_cases h : j = i
  · rw [if_pos h, if_pos (by omega), h]
  · rw [if_neg h]
    by_cases h2 : j < i
    · rw [if_pos h2, if_pos (by omega)]
    · rw [if_neg h2, if_neg (by omega)]
theorem fb_cp {f g : Nat → Int32} {i : Nat} (hf : fb f) (hg : fb g) : fb (cp f g i) := by
  intro j
  unfold cp
  by_cases h : j < i
  · rw [if_pos h]; exact hf j
  · rw [if_neg h]; exact hg j
theorem cp_in {f g : Nat → Int32} {i : Nat} : ∀ j, j < i → cp f g i j = f j := fun j hj => by rw [cp, if_pos hj]
theorem cpy_0 (f g : Nat → Int32) (d : Nat) : g = va_cpy f g 0 d 0 := by
  funext j
  rw [va_cpy, if_neg (by omega)]
theorem cpy_s {f g z : Nat → Int32} {d i : Nat} (h : z = va_cpy f g 0 d i) : upd z (d + i) (f i) = va_cpy f g 0 d (i + 1) := by
  subst h
  funext j
  unfold upd va_cpy
  by_cases h : j = d + i
  · rw [if_pos h, if_pos (by omega), show 0 + (j - d) = i by omega]
  · rw [if_neg h]
    by_cases h2 : d ≤ j ∧ j < d + i
    · rw [if_pos h2, if_pos (by omega)]
    · rw [if_neg h2, if_neg (by omega)]
theorem hbp_in {to row : Nat → Int32} {n i : Nat} : ∀ j, j < i → hbp to 0 row n i j = hb row n j := fun j hj => by rw [hbp, if_pos (by omega), Nat.sub_zero]
theorem fb_hb (row : Nat → Int32) (n : Nat) : fb (hb row n) := fun j => hb_fit row n j
/-- a seed's bytes; the coins of a chain: chn 0 is the last -/
def sdb (sd : Int64) : Nat → Int32 := fun j => nb sd (7 - j)
def chn (sd : Int64) : Nat → (Nat → Int32)
  | 0 => hb (sdb sd) 8
  | k + 1 => hb (chn sd k) 20
theorem fb_chn (sd : Int64) : ∀ k, fb (chn sd k)
  | 0 => fb_hb _ _
  | _ + 1 => fb_hb _ _
/-- a key's bytes -/
def kb (one two : Int64) : Nat → Int32 := fun j => if j < 8 then nb one (7 - j) else nb two (15 - j)
theorem fb_kb (one two : Int64) : fb (kb one two) := by
  intro j
  unfold kb
  by_cases h : j < 8
  · rw [if_pos h]; exact nb_fit _ _
  · rw [if_neg h]; exact nb_fit _ _
theorem fb_hmac (key tx : Nat → Int32) (k : Nat) : fb (hmac key tx k) := fun j => hb_fit _ _ j
theorem hd_ref {cn row : Nat → Int32} {mt : Nat} : ∀ j, j < 21 → upd (cp cn row 20) 20 (bx (nI mt)) j = hd cn (nI mt) j := fun j hj => by
  unfold upd cp hd
  by_cases h : j < 20
  · rw [if_neg (by omega), if_pos h, if_pos h]
  · rw [if_pos (by omega), if_neg h]
theorem chn_s {sd : Int64} {a b : Nat} (h : b = a + 1) : hb (chn sd a) 20 = chn sd b := by subst h; rfl
