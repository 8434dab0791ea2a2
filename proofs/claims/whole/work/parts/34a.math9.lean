/-! the town: what the class answers before a coin is looked at -/
theorem ans_m2 {lst : Bool} {day en : Int32} {ix cn : Nat} {j : Int32} (h : (lst && decide (day ≤ en)) = false) : ans lst day en ix cn j = (-2) := by
  unfold ans
  rw [if_pos]
  cases lst
  · exact Or.inl rfl
  · exact Or.inr (of_decide_eq_false (by simpa using h))
theorem ans_h {lst : Bool} {day en : Int32} {ix cn : Nat} {j : Int32} (h : (lst && decide (day ≤ en)) = true) : ans lst day en ix cn j = if j ≤ nI ix ∨ nI (ix + 50) < j ∨ ¬ j ≤ nI cn then (-3) else nI 0 := by
  rw [Bool.and_eq_true_iff] at h
  unfold ans
  rw [if_neg]
  intro q
  rcases q with q | q
  · rw [h.1] at q; exact absurd q (by decide)
  · exact q (of_decide_eq_true h.2)
/-- pay: the index is above the last one, at most 50 above -/
theorem ans_p3 {lst : Bool} {day en : Int32} {ix cn k : Nat} (h : (lst && decide (day ≤ en)) = true) (hc : cn ≤ 60) (hx : ix ≤ 60) (h1 : 1 ≤ k) (h2 : k ≤ 50) (hw : wi (nI (ix + k)) (nI 1) (nI cn) = false) : ans lst day en ix cn (nI (ix + k)) = (-3) := by
  rw [ans_h h, if_pos]
  refine Or.inr (Or.inr fun q => ?_)
  have := (nI_leI (by omega) (by omega)).mp q
  rw [wi_t (by omega) this (by omega)] at hw
  exact absurd hw (by decide)
theorem ans_p0 {lst : Bool} {day en : Int32} {ix cn k : Nat} (h : (lst && decide (day ≤ en)) = true) (hc : cn ≤ 60) (hx : ix ≤ 60) (h1 : 1 ≤ k) (h2 : k ≤ 50) (hw : wi (nI (ix + k)) (nI 1) (nI cn) = true) : ans lst day en ix cn (nI (ix + k)) = nI 0 ∧ ix + k ≤ cn := by
  obtain ⟨j, a1, a2, a3⟩ := wi_nat (by omega) (by omega) hw
  have e : ix + k = j := by
    rcases Nat.lt_or_ge j (2 ^ 31) with q | q
    · exact (nI_eq (by omega) q).mp a3
    · omega
  subst e
  refine ⟨?_, a2⟩
  rw [ans_h h, if_neg]
  rintro (q | q | q)
  · exact absurd ((nI_leI (by omega) (by omega)).mp q) (by omega)
  · exact absurd ((nI_ltI (by omega) (by omega)).mp q) (by omega)
  · exact q ((nI_leI (by omega) (by omega)).mpr a2)
/-- offer: any index -/
theorem ans_o3 {lst : Bool} {day en j : Int32} {ix cn : Nat} (h : (lst && decide (day ≤ en)) = true) (hc : cn ≤ 60) (hx : ix ≤ 60) (hw : wi j (nI 1) (nI cn) = false ∨ wi j (nI (ix + 1)) (nI (ix + 50)) = false) : ans lst day en ix cn j = (-3) := by
  rw [ans_h h, if_pos]
  by_cases a : j ≤ nI ix
  · exact Or.inl a
  · by_cases b : j ≤ nI cn
    · obtain ⟨n, rfl, n1, n2⟩ := j_of (by omega) (by omega) a b
      refine Or.inr (Or.inl ((nI_ltI (by omega) (by omega)).mpr ?_))
      rcases hw with w | w
      · rw [wi_t (by omega) n2 (by omega)] at w; exact absurd w (by decide)
      · rcases Nat.lt_or_ge (ix + 50) n with q | q
        · exact q
        · rw [wi_t (by omega) q (by omega)] at w; exact absurd w (by decide)
    · exact Or.inr (Or.inr b)
theorem ans_o0 {lst : Bool} {day en : Int32} {ix cn n : Nat} (h : (lst && decide (day ≤ en)) = true) (hc : cn ≤ 60) (hx : ix ≤ 60) (h1 : ix + 1 ≤ n) (h2 : n ≤ ix + 50) (h3 : n ≤ cn) : ans lst day en ix cn (nI n) = nI 0 := by
  rw [ans_h h, if_neg]
  rintro (q | q | q)
  · exact absurd ((nI_leI (by omega) (by omega)).mp q) (by omega)
  · exact absurd ((nI_ltI (by omega) (by omega)).mp q) (by omega)
  · exact q ((nI_leI (by omega) (by omega)).mpr h3)
/-- what a hand-over does: PH SB ST MIN r .. -/
def HDs (SB ST : Bool) (MIN r : Int32) (wr wr2 : Int32) (la la1 la2 : Nat → Int32) (ix ix1 ix2 : Nat → Nat) (mi mi1 mi2 : Nat → Int32) : Prop :=
  (SB = false ∧ r = (-4) ∧ wr2 = wr ∧ la2 = la ∧ ix2 = ix ∧ mi2 = mi) ∨ (SB = true ∧ ST = false ∧ r = (-5) ∧ wr2 = nI 3 ∧ la2 = la ∧ ix2 = ix ∧ mi2 = mi) ∨ (SB = true ∧ ST = true ∧ r = MIN ∧ wr2 = nI 3 ∧ la2 = la1 ∧ ix2 = ix1 ∧ mi2 = mi1)
/-- an answer of pay or offer: refused before, or handed over -/
def PYs (AN : Int32) (SB ST : Bool) (MIN r : Int32) (wr wr2 : Int32) (la la1 la2 : Nat → Int32) (ix ix1 ix2 : Nat → Nat) (mi mi1 mi2 : Nat → Int32) : Prop :=
  (¬ AN = nI 0 ∧ r = AN ∧ wr2 = wr ∧ la2 = la ∧ ix2 = ix ∧ mi2 = mi) ∨ (AN = nI 0 ∧ HDs SB ST MIN r wr wr2 la la1 la2 ix ix1 ix2 mi mi1 mi2)
theorem m2_ne : ¬ ((-2 : Int32) = nI 0) := by decide
theorem m3_ne : ¬ ((-3 : Int32) = nI 0) := by decide
theorem insf_st {lst kn bit late bar full st : Bool} (h : ¬ insf true lst kn bit late bar full true = 0) : insf true lst kn bit late bar full st = insf true lst kn bit late bar full true := by
  cases lst <;> cases kn <;> cases bit <;> cases late <;> cases bar <;> cases full <;> first | rfl | exact absurd rfl h
theorem insf_n5 (lst kn bit late bar full : Bool) : insf true lst kn bit late bar full true ≠ (-5) := by
  cases lst <;> cases kn <;> cases bit <;> cases late <;> cases bar <;> cases full <;> decide
theorem insf_s5 {lst kn bit late bar full st : Bool} (h : insf true lst kn bit late bar full true = 0) (hs : st = false) : insf true lst kn bit late bar full st = (-5) := by
  subst hs
  revert h
  cases lst <;> cases kn <;> cases bit <;> cases late <;> cases bar <;> cases full <;> decide
theorem insf_s0 {lst kn bit late bar full st : Bool} (h : insf true lst kn bit late bar full true = 0) (hs : st = true) : insf true lst kn bit late bar full st = nI 0 := by
  subst hs
  exact h
