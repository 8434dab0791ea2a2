/-- minutes forgotten at the first i meters -/
def fg (mia : Nat → Nat → Int32) (i : Nat) : Nat → Nat → Int32 := fun m z => if m < i then nI 0 else mia m z
theorem fg_0 (mia : Nat → Nat → Int32) : fg mia 0 = mia := by funext m z; exact if_neg (Nat.not_lt_zero m)
theorem fg_at (mia : Nat → Nat → Int32) (i : Nat) : fg mia (i + 1) i = fun _ => nI 0 := by funext z; exact if_pos (Nat.lt_succ_self i)
theorem fg_ne (mia : Nat → Nat → Int32) {i k : Nat} (h : k ≠ i) : fg mia (i + 1) k = fg mia i k := by
  funext z
  unfold fg
  by_cases q : k < i
  · rw [if_pos (by omega), if_pos q]
  · rw [if_neg (by omega), if_neg q]
/-- emptying: the list, the barred ones, what was read, after i scrolls -/
def eol (ol : Nat → Bool) (en : Nat → Int32) (dy i : Nat) : Nat → Bool := fun j => if j < i then ol j && decide (nI dy ≤ en j) else ol j
def ebk (bl bk : Nat → Bool) (i : Nat) : Nat → Bool := fun j => if j < i then bl j else bk j
def erd (rd : Nat → Nat → Int32) (ol : Nat → Bool) (ix : Nat → Nat) (mt i : Nat) : Nat → Nat → Int32 := fun s => if s < i then (if ol s = true then upd (rd s) mt (nI (ix s)) else rd s) else rd s
theorem eol_0 (ol : Nat → Bool) (en : Nat → Int32) (dy : Nat) : ol = eol ol en dy 0 := by funext j; exact (if_neg (Nat.not_lt_zero j)).symm
theorem ebk_0 (bl bk : Nat → Bool) : bk = ebk bl bk 0 := by funext j; exact (if_neg (Nat.not_lt_zero j)).symm
theorem erd_0 (rd : Nat → Nat → Int32) (ol : Nat → Bool) (ix : Nat → Nat) (mt : Nat) : erd rd ol ix mt 0 = rd := by funext s; exact if_neg (Nat.not_lt_zero s)
theorem eol_i (ol : Nat → Bool) (en : Nat → Int32) (dy i : Nat) : eol ol en dy i i = ol i := if_neg (Nat.lt_irrefl i)
theorem erd_i (rd : Nat → Nat → Int32) (ol : Nat → Bool) (ix : Nat → Nat) (mt i : Nat) : erd rd ol ix mt i i = rd i := if_neg (Nat.lt_irrefl i)
theorem erd_s (rd : Nat → Nat → Int32) (ol : Nat → Bool) (ix : Nat → Nat) (mt i : Nat) : erd rd ol ix mt (i + 1) i = if ol i = true then upd (rd i) mt (nI (ix i)) else rd i := if_pos (Nat.lt_succ_self i)
theorem erd_ne (rd : Nat → Nat → Int32) (ol : Nat → Bool) (ix : Nat → Nat) (mt : Nat) {i k : Nat} (h : k ≠ i) : erd rd ol ix mt (i + 1) k = erd rd ol ix mt i k := by
  unfold erd
  by_cases q : k < i
  · rw [if_pos (by omega), if_pos q]
  · rw [if_neg (by omega), if_neg q]
theorem eol_up {ol : Nat → Bool} {en : Nat → Int32} {dy i : Nat} {v : Bool} (h : (ol i && decide (nI dy ≤ en i)) = v) : va_up (eol ol en dy i) i v = eol ol en dy (i + 1) := by
  funext j
  unfold va_up eol
  by_cases e : j = i
  · subst e; rw [if_pos rfl, if_pos (Nat.lt_succ_self j), h]
  · rw [if_neg e]
    by_cases q : j < i
    · rw [if_pos q, if_pos (by omega)]
    · rw [if_neg q, if_neg (by omega)]
theorem eol_same {ol : Nat → Bool} {en : Nat → Int32} {dy i : Nat} (h : (ol i && decide (nI dy ≤ en i)) = ol i) : eol ol en dy i = eol ol en dy (i + 1) := by
  rw [← eol_up h]
  funext j
  unfold va_up
  by_cases e : j = i
  · subst e; rw [if_pos rfl, eol_i]
  · rw [if_neg e]
theorem ebk_up (bl bk : Nat → Bool) (i : Nat) : va_up (ebk bl bk i) i (bl i) = ebk bl bk (i + 1) := by
  funext j
  unfold va_up ebk
  by_cases e : j = i
  · subst e; rw [if_pos rfl, if_pos (Nat.lt_succ_self j)]
  · rw [if_neg e]
    by_cases q : j < i
    · rw [if_pos q, if_pos (by omega)]
    · rw [if_neg q, if_neg (by omega)]
theorem cnt_pos {f : Nat → Bool} {k : Nat} (h : f k = true) : ∀ n, k < n → 1 ≤ cnt f n
  | 0, q => absurd q (Nat.not_lt_zero k)
  | n + 1, q => by
    rw [cnt]
    by_cases e : k = n
    · subst e; rw [if_pos h]; omega
    · have := cnt_pos h n (by omega); omega
theorem cnt_strike {f : Nat → Bool} {k : Nat} (h : f k = true) : ∀ n, k < n → cnt (va_up f k false) n = cnt f n - 1
  | 0, q => absurd q (Nat.not_lt_zero k)
  | n + 1, q => by
    rw [cnt, cnt]
    by_cases e : k = n
    · subst e
      rw [va_up_self, if_pos h, if_neg (by decide)]
      have : ∀ m, m ≤ k → cnt (va_up f k false) m = cnt f m := by
        intro m
        induction m with
        | zero => intro _; rfl
        | succ m ih => intro hm; rw [cnt, cnt, ih (by omega), va_up_ne _ _ (by omega)]
      rw [this k (Nat.le_refl k)]
      omega
    · rw [cnt_strike h n (by omega), va_up_ne _ _ (by omega)]
      have := cnt_pos h n (by omega)
      omega
theorem mn_wk {wk : Nat} (h : wk < 2 ^ 31) : (if nI 2 < nI wk then nI 2 else nI wk) = nI (min wk 2) := by
  by_cases q : 2 < wk
  · rw [if_pos ((nI_ltI (by decide) h).mpr q), Nat.min_eq_right (by omega)]
  · rw [if_neg (fun z => q ((nI_ltI (by decide) h).mp z)), Nat.min_eq_left (by omega)]
