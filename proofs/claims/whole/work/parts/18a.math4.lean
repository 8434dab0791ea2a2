/-! counting, buying, emptying -/
theorem tb6 {p : Int32} (h0 : ¬ p = nI 0) (h1 : ¬ p = nI 1) (h2 : ¬ p = nI 2) (h3 : ¬ p = nI 3) (h4 : ¬ p = nI 4) (h5 : ¬ p = nI 5) : p.toInt < 0 ∨ 5 < p.toInt := by
  have e : ∀ k : Nat, k < 6 → p.toInt ≠ (k : Int) := by
    intro k hk q
    have : p = nI k := Int32.toInt_inj.mp (by rw [q, nI_toInt (by omega)])
    rcases (show k = 0 ∨ k = 1 ∨ k = 2 ∨ k = 3 ∨ k = 4 ∨ k = 5 by omega) with r | r | r | r | r | r <;> subst r
    · exact h0 this
    · exact h1 this
    · exact h2 this
    · exact h3 this
    · exact h4 this
    · exact h5 this
  have a0 := e 0 (by omega)
  have a1 := e 1 (by omega)
  have a2 := e 2 (by omega)
  have a3 := e 3 (by omega)
  have a4 := e 4 (by omega)
  have a5 := e 5 (by omega)
  omega
def buyv (p0 p1 p2 p3 p5 : Int32) (wk b : Nat) (pu : Nat → Int64) : Prop := wi p0 (nI 0) (nI 7) = true ∧ 0 < wk ∧ ¬ b = 16 ∧ wi p1 (nI 1) (nI 60) = true ∧ wi p2 (nI 1) (nI 1000) = true ∧ wi p3 (nI 1) (nI 255) = true ∧ wi p5 (nI 1) (nI 60) = true ∧ p1.toInt64 * p2.toInt64 ≤ pu (cN p0)
