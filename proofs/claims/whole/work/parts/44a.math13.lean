/-! settling, by the class -/
theorem sub_le7 {a b : Nat} (ha : a < 2 ^ 30) (hb : b < 2 ^ 30) : nI a - nI b ≤ nI 7 ↔ a ≤ b + 7 := by
  rw [Int32.le_iff_toInt_le, pk_sub_toInt ha hb, nI_toInt (by decide)]
  omega
theorem upd_ne' (f : Nat → Int32) {k j : Nat} (v : Int32) (h : j ≠ k) : upd f k v j = f j := by unfold upd; exact if_neg h
def ese (rdf sef : Nat → Int32) (i : Nat) : Nat → Nat → Int32 := fun s z => if s < i then rdf (8 * s + z) else sef (8 * s + z)
def c8 (f g : Nat → Int32) (i : Nat) : Nat → Int32 := fun j => if j < i then f j else g j
theorem ese_0 (rdf sef : Nat → Int32) : ese rdf sef 0 = fun s z => sef (8 * s + z) := by funext s z; exact if_neg (Nat.not_lt_zero s)
theorem ese_c8 (rdf sef : Nat → Int32) (i : Nat) : c8 (fun z => rdf (8 * i + z)) (fun z => sef (8 * i + z)) 0 = ese rdf sef i i := by
  funext z
  unfold c8 ese
  rw [if_neg (Nat.not_lt_zero z), if_neg (Nat.lt_irrefl i)]
theorem ese_s (rdf sef : Nat → Int32) (i : Nat) : ese rdf sef (i + 1) i = fun z => rdf (8 * i + z) := by funext z; exact if_pos (Nat.lt_succ_self i)
theorem ese_ne (rdf sef : Nat → Int32) {i k : Nat} (h : k ≠ i) : ese rdf sef (i + 1) k = ese rdf sef i k := by
  funext z
  unfold ese
  by_cases q : k < i
  · rw [if_pos (by omega), if_pos q]
  · rw [if_neg (by omega), if_neg q]
theorem c8_i (f g : Nat → Int32) (i : Nat) : c8 f g i i = g i := if_neg (Nat.lt_irrefl i)
theorem c8_s (f g : Nat → Int32) (i : Nat) : upd (c8 f g i) i (f i) = c8 f g (i + 1) := by
  funext j
  unfold upd c8
  by_cases e : j = i
  · subst e; rw [if_pos rfl, if_pos (Nat.lt_succ_self j)]
  · rw [if_neg e]
    by_cases q : j < i
    · rw [if_pos q, if_pos (by omega)]
    · rw [if_neg q, if_neg (by omega)]
theorem c8_8 (f g : Nat → Int32) : ∀ j, j < 8 → c8 f g 8 j = f j := fun j hj => if_pos hj
