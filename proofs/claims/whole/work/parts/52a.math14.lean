def fo (c : Nat → Int32) (i : Nat) (p q r s : Int32) : Nat → Int32 := upd (upd (upd (upd c i p) (i + 1) q) (i + 2) r) (i + 3) s
theorem fo_s {c K : Nat → Int32} {i : Nat} {p q r s : Int32} (h : ∀ j, j < i → c j = K j) (h0 : K i = p) (h1 : K (i + 1) = q) (h2 : K (i + 2) = r) (h3 : K (i + 3) = s) : ∀ j, j < i + 4 → fo c i p q r s j = K j := by
  intro j hj
  unfold fo upd
  rcases (show j < i ∨ j = i ∨ j = i + 1 ∨ j = i + 2 ∨ j = i + 3 by omega) with e | e | e | e | e
  · rw [if_neg (by omega), if_neg (by omega), if_neg (by omega), if_neg (by omega)]; exact h j e
  · rw [if_neg (by omega), if_neg (by omega), if_neg (by omega), if_pos e, e, h0]
  · rw [if_neg (by omega), if_neg (by omega), if_pos e, e, h1]
  · rw [if_neg (by omega), if_pos e, e, h2]
  · rw [if_pos e, e, h3]
