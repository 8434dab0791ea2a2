/-! emptying a meter -/
def bmask (Bk : Nat → Bool) : Nat → Int32
  | 0 => nI 0
  | s + 1 => bmask Bk s ||| (if Bk s = true then nI 1 <<< (nI s &&& 31) else nI 0)
theorem bmask_u {Bk : Nat → Bool} {ba b1 : Nat → Int32} {mt s : Nat} {v : Int32} (h : b1 = upd ba mt (bmask Bk s)) (hv : v = if Bk s = true then nI 1 <<< (nI s &&& 31) else nI 0) : upd b1 mt (b1 mt ||| v) = upd ba mt (bmask Bk (s + 1)) := by
  subst h
  funext j
  unfold upd
  by_cases e : j = mt
  · rw [if_pos e, if_pos e, if_pos rfl, hv]; rfl
  · rw [if_neg e, if_neg e, if_neg e]
def emR (rd : Nat → Int32) (L : Nat → Bool) (ix : Nat → Nat) (mt s : Nat) : Nat → Int32 := fun j => if j % 8 = mt ∧ j / 8 < s then (if L j = true then nI (ix j) else rd j) else rd j
def emL (L : Nat → Bool) (en : Nat → Nat) (dy mt s : Nat) : Nat → Bool := fun j => if j % 8 = mt ∧ j / 8 < s then (L j && decide (dy ≤ en (j / 8))) else L j
theorem emL_at {L : Nat → Bool} {en : Nat → Nat} {dy mt s : Nat} (hm : mt < 8) {z : Nat → Bool} (hz : z = emL L en dy mt s) : z (8 * s + mt) = L (8 * s + mt) := by rw [hz, emL, if_neg (by omega)]
theorem emR_0 (rd : Nat → Int32) (L : Nat → Bool) (ix : Nat → Nat) (mt : Nat) : rd = emR rd L ix mt 0 := by
  funext j
  rw [emR, if_neg (by omega)]
theorem emL_0 (L : Nat → Bool) (en : Nat → Nat) (dy mt : Nat) : L = emL L en dy mt 0 := by
  funext j
  rw [emL, if_neg (by omega)]
theorem emR_in {rd : Nat → Int32} {L : Nat → Bool} {ix : Nat → Nat} {mt s j : Nat} (h : j % 8 = mt ∧ j / 8 < s) : emR rd L ix mt s j = if L j = true then nI (ix j) else rd j := by unfold emR; exact if_pos h
theorem emR_out {rd : Nat → Int32} {L : Nat → Bool} {ix : Nat → Nat} {mt s j : Nat} (h : ¬ (j % 8 = mt ∧ j / 8 < s)) : emR rd L ix mt s j = rd j := by unfold emR; exact if_neg h
theorem emR_s {rd z : Nat → Int32} {L : Nat → Bool} {ix : Nat → Nat} {mt s : Nat} {v : Int32} (hm : mt < 8) (hz : z = emR rd L ix mt s) (hv : v = if L (8 * s + mt) = true then nI (ix (8 * s + mt)) else z (8 * s + mt)) : upd z (8 * s + mt) v = emR rd L ix mt (s + 1) := by
  subst hz
  funext j
  rw [emR_out (j := 8 * s + mt) (by omega)] at hv
  unfold upd
  by_cases e : j = 8 * s + mt
  · rw [if_pos e, hv, emR_in (j := j) (s := s + 1) (by omega), e]
  · rw [if_neg e]
    by_cases h2 : j % 8 = mt ∧ j / 8 < s
    · rw [emR_in h2, emR_in (by omega)]
    · rw [emR_out h2, emR_out (by omega)]
theorem emL_s {z L : Nat → Bool} {en : Nat → Nat} {dy mt s : Nat} {v : Bool} (hm : mt < 8) (hz : z = emL L en dy mt s) (hv : v = (z (8 * s + mt) && decide (dy ≤ en s))) : va_up z (8 * s + mt) v = emL L en dy mt (s + 1) := by
  have e0 := emL_at hm hz
  funext j
  unfold va_up
  by_cases e : j = 8 * s + mt
  · rw [if_pos e, hv, e0, emL, if_pos (by omega), e, show (8 * s + mt) / 8 = s by omega]
  · rw [if_neg e, hz, emL, emL]
    by_cases h2 : j % 8 = mt ∧ j / 8 < s
    · rw [if_pos h2, if_pos (by omega)]
    · rw [if_neg h2, if_neg (by omega)]
