/-! settling: x = (gone, over, blocked, kept, town) of a scroll; a = (gone, over, blocked, closed, purses, kept, town, count) of all -/
def gs (d c : Int32) : Int32 := if c < d then c else d
theorem gs_le {d c : Int32} (h : c ≤ d) : c = gs d c := by
  unfold gs
  by_cases q : c < d
  · rw [if_pos q]
  · rw [if_neg q]; exact Int32.le_antisymm h (Int32.not_lt.mp q)
theorem gs_lt {d c : Int32} (h : ¬ c ≤ d) : d = gs d c := by
  unfold gs
  rw [if_neg (fun q => h (Int32.le_of_lt q))]
abbrev SX : Type := Int32 × Int32 × Bool × Int64 × Int64
def st1 (n ct d : Int32) (x : SX) : SX := (x.1 + gs d (n - x.1), x.2.1 + (d - gs d (n - x.1)), x.2.2.1 || decide (gs d (n - x.1) < d), x.2.2.2.1 - (gs d (n - x.1)).toInt64 * ct.toInt64, x.2.2.2.2 + (gs d (n - x.1)).toInt64 * ct.toInt64)
def stm (n ct : Int32) (dd : Nat → Int32) (x : SX) : Nat → SX
  | 0 => x
  | m + 1 => st1 n ct (dd m) (stm n ct dd x m)
abbrev SA : Type := (Nat → Int32) × (Nat → Int32) × (Nat → Bool) × (Nat → Bool) × (Nat → Int64) × Int64 × Int64 × Nat
/-- scroll s, all its meters -/
def stY (cs : Nat → Nat) (ct rd se : Nat → Int32) (a : SA) (s : Nat) : SX := stm (nI (cs s)) (ct s) (fun z => rd (8 * s + z) - se (8 * s + z)) (a.1 s, a.2.1 s, a.2.2.1 s, a.2.2.2.2.2.1, a.2.2.2.2.2.2.1) 8
def stR (cs : Nat → Nat) (ct : Nat → Int32) (y : SX) (s : Nat) : Int64 := (nI (cs s) - y.1).toInt64 * (ct s).toInt64
def stS (cs : Nat → Nat) (ct rd se : Nat → Int32) (en ow : Nat → Nat) (dy : Nat) (a : SA) (s : Nat) : SA :=
  if en s + 7 < dy ∧ a.2.2.2.1 s = false then
    (upd a.1 s (nI (cs s)), upd a.2.1 s (stY cs ct rd se a s).2.1, va_up a.2.2.1 s (stY cs ct rd se a s).2.2.1, va_up a.2.2.2.1 s true, vp_updL a.2.2.2.2.1 (ow s) (a.2.2.2.2.1 (ow s) + stR cs ct (stY cs ct rd se a s) s), (stY cs ct rd se a s).2.2.2.1 - stR cs ct (stY cs ct rd se a s) s, (stY cs ct rd se a s).2.2.2.2, a.2.2.2.2.2.2.2 + 1)
  else (upd a.1 s (stY cs ct rd se a s).1, upd a.2.1 s (stY cs ct rd se a s).2.1, va_up a.2.2.1 s (stY cs ct rd se a s).2.2.1, a.2.2.2.1, a.2.2.2.2.1, (stY cs ct rd se a s).2.2.2.1, (stY cs ct rd se a s).2.2.2.2, a.2.2.2.2.2.2.2)
theorem stS_y {cs : Nat → Nat} {ct rd se : Nat → Int32} {en ow : Nat → Nat} {dy : Nat} {a : SA} {s : Nat} (h : en s + 7 < dy ∧ a.2.2.2.1 s = false) : stS cs ct rd se en ow dy a s = (upd a.1 s (nI (cs s)), upd a.2.1 s (stY cs ct rd se a s).2.1, va_up a.2.2.1 s (stY cs ct rd se a s).2.2.1, va_up a.2.2.2.1 s true, vp_updL a.2.2.2.2.1 (ow s) (a.2.2.2.2.1 (ow s) + stR cs ct (stY cs ct rd se a s) s), (stY cs ct rd se a s).2.2.2.1 - stR cs ct (stY cs ct rd se a s) s, (stY cs ct rd se a s).2.2.2.2, a.2.2.2.2.2.2.2 + 1) := by unfold stS; exact if_pos h
theorem stS_n {cs : Nat → Nat} {ct rd se : Nat → Int32} {en ow : Nat → Nat} {dy : Nat} {a : SA} {s : Nat} (h : ¬ (en s + 7 < dy ∧ a.2.2.2.1 s = false)) : stS cs ct rd se en ow dy a s = (upd a.1 s (stY cs ct rd se a s).1, upd a.2.1 s (stY cs ct rd se a s).2.1, va_up a.2.2.1 s (stY cs ct rd se a s).2.2.1, a.2.2.2.1, a.2.2.2.2.1, (stY cs ct rd se a s).2.2.2.1, (stY cs ct rd se a s).2.2.2.2, a.2.2.2.2.2.2.2) := by unfold stS; exact if_neg h
def stA (cs : Nat → Nat) (ct rd se : Nat → Int32) (en ow : Nat → Nat) (dy : Nat) (a : SA) : Nat → SA
  | 0 => a
  | s + 1 => stS cs ct rd se en ow dy (stA cs ct rd se en ow dy a s) s
theorem upd_at (f : Nat → Int32) (k : Nat) (v : Int32) : upd f k v k = v := by unfold upd; exact if_pos rfl
theorem upd_upd (f : Nat → Int32) (k : Nat) (v w : Int32) : upd (upd f k v) k w = upd f k w := by
  funext j
  unfold upd
  by_cases h : j = k
  · rw [if_pos h, if_pos h]
  · rw [if_neg h, if_neg h, if_neg h]
theorem upd_id (f : Nat → Int32) (k : Nat) : f = upd f k (f k) := by
  funext j
  unfold upd
  by_cases h : j = k
  · rw [if_pos h, h]
  · rw [if_neg h]
theorem vup_id {α : Type} (f : Nat → α) (k : Nat) : f = va_up f k (f k) := by
  funext j
  unfold va_up
  by_cases h : j = k
  · rw [if_pos h, h]
  · rw [if_neg h]
