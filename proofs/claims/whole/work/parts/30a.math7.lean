/-! scrolls of the class: their coins in one row, their letter -/
def cnf (sd : Int64) (n : Nat) : Nat → Int32 := fun j => chn sd (n - 1 - j / 20) (j % 20)
theorem fb_cnf (sd : Int64) (n : Nat) : fb (cnf sd n) := fun j => fb_chn sd _ _
theorem mint_0 {cf row : Nat → Int32} {sd : Int64} {n : Nat} (hn : 1 ≤ n) : ∀ j, (n - 1) * 20 ≤ j → j < n * 20 → hbp cf ((n - 1) * 20) (wnp row 0 8 sd 8) 8 20 j = cnf sd n j := by
  intro j h1 h2
  rw [hbp, if_pos (by omega), cnf, show n - 1 - j / 20 = 0 by omega, show j % 20 = j - (n - 1) * 20 by omega]
  show hb _ 8 _ = hb (sdb sd) 8 _
  apply hb_congr
  intro z hz
  rw [wnp, if_pos (by omega), sdb]
  congr 1
theorem mint_s {f : Nat → Int32} {sd : Int64} {n i : Nat} (hi : 1 ≤ i) (hn : i ≤ n - 1) (h : ∀ j, i * 20 ≤ j → j < n * 20 → f j = cnf sd n j) : ∀ j, (i - 1) * 20 ≤ j → j < n * 20 → hbp f ((i - 1) * 20) (fun j => f ((i + 1 - 1) * 20 + j)) 20 20 j = cnf sd n j := by
  intro j h1 h2
  by_cases q : j < i * 20
  · rw [hbp, if_pos (by omega), cnf, show n - 1 - j / 20 = (n - 1 - i) + 1 by omega, show j % 20 = j - (i - 1) * 20 by omega]
    show hb _ 20 _ = hb (chn sd (n - 1 - i)) 20 _
    apply hb_congr
    intro z hz
    rw [h _ (by omega) (by omega), cnf, show n - 1 - ((i + 1 - 1) * 20 + z) / 20 = n - 1 - i by omega, show ((i + 1 - 1) * 20 + z) % 20 = z by omega]
  · rw [hbp, if_neg (by omega)]
    exact h j (by omega) h2
theorem fb_hb0 : fb (fun _ => (0 : Int32)) := fun _ => rfl
/-- a head of the class's letter in its place -/
theorem hd_cls {g L c1 cf : Nat → Int32} {m : Nat} {v : Int32} (hg : ∀ j, j < 12 + 20 * m → g j = L j) (hc : ∀ z, z < 20 → cf z = c1 z) (hL : ∀ k, k < 20 → L (12 + 20 * m + k) = hb (hd c1 v) 21 k) : ∀ j, j < 12 + 20 * (m + 1) → hbp g (12 + m * 20) (hd (fun j => cf ((1 - 1) * 20 + j)) v) 21 20 j = L j := by
  intro j hj
  by_cases q : j < 12 + 20 * m
  · rw [hbp, if_neg (by omega)]; exact hg j q
  · have e := hL (j - (12 + 20 * m)) (by omega)
    rw [show 12 + 20 * m + (j - (12 + 20 * m)) = j by omega] at e
    rw [hbp, if_pos (by omega), e, show j - (12 + m * 20) = j - (12 + 20 * m) by omega]
    apply hb_congr
    intro z hz
    unfold hd
    by_cases q2 : z < 20
    · rw [if_pos q2, if_pos q2]
      show cf ((1 - 1) * 20 + z) = c1 z
      rw [show (1 - 1) * 20 + z = z by omega, hc z q2]
    · rw [if_neg q2, if_neg q2]
theorem no_hd {g L : Nat → Int32} {m : Nat} (hg : ∀ j, j < 12 + 20 * m → g j = L j) (hz : ∀ j, 12 + 20 * m ≤ j → g j = 0) (hL : ∀ k, k < 20 → L (12 + 20 * m + k) = 0) : ∀ j, j < 12 + 20 * (m + 1) → g j = L j := by
  intro j hj
  by_cases q : j < 12 + 20 * m
  · exact hg j q
  · have e := hL (j - (12 + 20 * m)) (by omega)
    rw [show 12 + 20 * m + (j - (12 + 20 * m)) = j by omega] at e
    rw [hz j (by omega), e]
theorem lt5_z {nr n ct en st : Int32} : ∀ j, 12 + 20 * 0 ≤ j → lt5 (fun _ => 0) nr n ct en st j = 0 := by
  intro j hj
  unfold lt5
  rw [wnp, if_neg (by omega), wnp, if_neg (by omega), wnp, if_neg (by omega), wnp, if_neg (by omega), wnp, if_neg (by omega)]
theorem hbp_z {g r : Nat → Int32} {m : Nat} (hz : ∀ j, 12 + 20 * m ≤ j → g j = 0) : ∀ j, 12 + 20 * (m + 1) ≤ j → hbp g (12 + m * 20) r 21 20 j = 0 := fun j hj => by rw [hbp, if_neg (by omega)]; exact hz j (by omega)
theorem ltr_cls {g cd key c1 : Nat → Int32} {nr n ct en st : Int32} (hg : ∀ j, j < 12 + 20 * 8 → g j = ltf nr n ct en st c1 j) : ∀ j, j < 204 → va_cpy (cdm cd key g 172) g 0 172 32 j = ltr nr n ct en st c1 key j := by
  intro j hj
  unfold va_cpy ltr
  by_cases h : j < 172
  · rw [if_neg (by omega), if_pos h]; exact hg j (by omega)
  · rw [if_pos (by omega), if_neg h, cdm, if_pos (by omega), Nat.zero_add]
    exact hmac_congr (fun z hz => hg z (by omega)) _
theorem gs_ge (d c : Int32) : gs d c ≤ d := by
  unfold gs
  split
  · rename_i h; exact Int32.le_of_lt h
  · exact Int32.le_refl d
theorem gs_ov {ov d c : Int32} (h : d ≤ gs d c) : ov + (d - gs d c) = ov := by
  rw [Int32.le_antisymm (gs_ge d c) h]
  simp
theorem gs_bl {bl : Bool} {d c : Int32} (h : d ≤ gs d c) : (bl || decide (gs d c < d)) = bl := by rw [decide_eq_false (Int32.not_lt.mpr h), Bool.or_false]
theorem gs_bt {bl : Bool} {d c : Int32} (h : ¬ d ≤ gs d c) : (bl || decide (gs d c < d)) = true := by rw [decide_eq_true (Int32.not_le.mp h), Bool.or_true]
