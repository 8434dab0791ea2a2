/-! paying: the answer and what changes -/
def payf (OK : Bool) (AN : Int32) (SB ST : Bool) (MIN : Int32) : Int32 := if OK = false then (-1) else if ¬ AN = nI 0 then AN else if SB = false then (-4) else if ST = false then (-5) else MIN
def PKs (OK : Bool) (AN : Int32) (SB ST : Bool) (MIN r : Int32) (wr wr1 wr2 la la1 la2 : Nat → Int32) (ix ix1 ix2 : Nat → Nat) (mi mi1 mi2 : Nat → Int32) : Prop :=
  r = payf OK AN SB ST MIN ∧ ((OK = true ∧ AN = nI 0 ∧ SB = true ∧ ST = true ∧ wr2 = wr1 ∧ la2 = la1 ∧ ix2 = ix1 ∧ mi2 = mi1) ∨ (OK = true ∧ AN = nI 0 ∧ SB = true ∧ ST = false ∧ wr2 = wr1 ∧ la2 = la ∧ ix2 = ix ∧ mi2 = mi) ∨ (¬ (OK = true ∧ AN = nI 0 ∧ SB = true) ∧ wr2 = wr ∧ la2 = la ∧ ix2 = ix ∧ mi2 = mi))
theorem tk_of {OK : Bool} {AN MIN r : Int32} {SB ST : Bool} {wr wr1 wr2 la la1 la2 : Nat → Int32} {ix ix1 ix2 : Nat → Nat} {mi mi1 mi2 : Nat → Int32} (ok : OK = true) (an : AN = nI 0)
    (h : (SB = false ∧ r = (-4) ∧ wr2 = wr ∧ la2 = la ∧ ix2 = ix ∧ mi2 = mi) ∨ (SB = true ∧ ST = false ∧ r = (-5) ∧ wr2 = wr1 ∧ la2 = la ∧ ix2 = ix ∧ mi2 = mi) ∨ (SB = true ∧ ST = true ∧ r = MIN ∧ wr2 = wr1 ∧ la2 = la1 ∧ ix2 = ix1 ∧ mi2 = mi1)) : PKs OK AN SB ST MIN r wr wr1 wr2 la la1 la2 ix ix1 ix2 mi mi1 mi2 := by
  have e : payf OK AN SB ST MIN = if SB = false then (-4) else if ST = false then (-5) else MIN := by rw [payf, if_neg (by rw [ok]; decide), if_neg (fun q => q an)]
  rcases h with ⟨h1, h2, h3, h4, h5, h6⟩ | ⟨h1, h0, h2, h3, h4, h5, h6⟩ | ⟨h1, h0, h2, h3, h4, h5, h6⟩
  · exact ⟨by rw [e, if_pos h1, h2], Or.inr (Or.inr ⟨fun q => by rw [h1] at q; exact absurd q.2.2 (by decide), h3, h4, h5, h6⟩)⟩
  · exact ⟨by rw [e, if_neg (by rw [h1]; decide), if_pos h0, h2], Or.inr (Or.inl ⟨ok, an, h1, h0, h3, h4, h5, h6⟩)⟩
  · exact ⟨by rw [e, if_neg (by rw [h1]; decide), if_neg (by rw [h0]; decide), h2], Or.inl ⟨ok, an, h1, h0, h3, h4, h5, h6⟩⟩
theorem pks_no {OK : Bool} {AN MIN : Int32} {SB ST : Bool} {wr wr1 la la1 : Nat → Int32} {ix ix1 : Nat → Nat} {mi mi1 : Nat → Int32} (ok : OK = false) : PKs OK AN SB ST MIN (-1) wr wr1 wr la la1 la ix ix1 ix mi mi1 mi := ⟨by rw [payf, if_pos ok], Or.inr (Or.inr ⟨fun q => by rw [ok] at q; exact absurd q.1 (by decide), rfl, rfl, rfl, rfl⟩)⟩
theorem pks_an {OK : Bool} {AN MIN : Int32} {SB ST : Bool} {wr wr1 la la1 : Nat → Int32} {ix ix1 : Nat → Nat} {mi mi1 : Nat → Int32} (ok : OK = true) (an : ¬ AN = nI 0) : PKs OK AN SB ST MIN AN wr wr1 wr la la1 la ix ix1 ix mi mi1 mi := ⟨by rw [payf, if_neg (by rw [ok]; decide), if_pos an], Or.inr (Or.inr ⟨fun q => an q.2.1, rfl, rfl, rfl, rfl⟩)⟩
theorem ans_0 {lst : Bool} {day en : Int32} {ix cn j : Nat} (hj : j < 2 ^ 31) (hx : ix < 2 ^ 30) (hc : cn < 2 ^ 31) (h : ans lst day en ix cn (nI j) = 0) : lst = true ∧ day ≤ en ∧ ix < j ∧ j ≤ ix + 50 ∧ j ≤ cn := by
  unfold ans at h
  by_cases h1 : lst = false ∨ ¬ day ≤ en
  · rw [if_pos h1] at h; exact absurd h (by decide)
  · rw [if_neg h1] at h
    by_cases h2 : nI j ≤ nI ix ∨ nI (ix + 50) < nI j ∨ ¬ nI j ≤ nI cn
    · rw [if_pos h2] at h; exact absurd h (by decide)
    · simp only [not_or, Decidable.not_not] at h1 h2
      refine ⟨by cases lst; exact absurd rfl h1.1; rfl, h1.2, ?_, ?_, ?_⟩
      · exact Nat.lt_of_not_le fun q => h2.1 ((nI_leI hj (by omega)).mpr q)
      · exact Nat.le_of_not_lt fun q => h2.2.1 ((nI_ltI (by omega) hj).mpr q)
      · exact (nI_leI hj hc).mp h2.2.2
theorem ans_00 {lst : Bool} {day en : Int32} {ix cn : Nat} {j : Int32} (h : ans lst day en ix cn j = 0) : ¬ j ≤ nI ix ∧ j ≤ nI cn := by
  unfold ans at h
  by_cases h1 : lst = false ∨ ¬ day ≤ en
  · rw [if_pos h1] at h; exact absurd h (by decide)
  · rw [if_neg h1] at h
    by_cases h2 : j ≤ nI ix ∨ nI (ix + 50) < j ∨ ¬ j ≤ nI cn
    · rw [if_pos h2] at h; exact absurd h (by decide)
    · simp only [not_or, Decidable.not_not] at h2
      exact ⟨h2.1, h2.2.2⟩
def okp (p0 p1 p2 p3 : Int32) (b : Nat) : Bool := (wi p0 (nI 0) (nI b - nI 1) && wi p1 (nI 0) (nI 7)) && wi p3 (nI 0) (nI 15) && wi p2 (nI 1) (nI 50)
def oko (p0 p1 p3 : Int32) (b : Nat) : Bool := (wi p0 (nI 0) (nI b - nI 1) && wi p1 (nI 0) (nI 7)) && wi p3 (nI 0) (nI 15)
theorem j_of {j : Int32} {a c : Nat} (ha : a < 2 ^ 31) (hc : c < 2 ^ 31) (h1 : ¬ j ≤ nI a) (h2 : j ≤ nI c) : ∃ n : Nat, j = nI n ∧ a < n ∧ n ≤ c := by
  have h0 : ¬ j < 0 := fun q => h1 (Int32.le_of_lt (Int32.lt_of_lt_of_le q (nI_pos' ha)))
  obtain ⟨n, hn, rfl⟩ := nI_of h0
  exact ⟨n, rfl, Nat.lt_of_not_le fun q => h1 ((nI_leI hn ha).mpr q), (nI_leI hn hc).mp h2⟩
/-- the sum of the purses -/
def psum (f : Nat → Int64) : Nat → Int64
  | 0 => 0
  | k + 1 => psum f k + f k
def accf (p0 : Int32) (sum kp tw : Int64) (pu : Nat → Int64) : Int64 := if p0 = 0 then sum else if p0 = nI 1 then kp else if p0 = nI 2 then tw else if wi p0 (nI 10) (nI 17) = true then pu (cN p0 - 10) else (-1)
/-- a count over the first n -/
def cnt (f : Nat → Bool) : Nat → Nat
  | 0 => 0
  | k + 1 => cnt f k + (if f k = true then 1 else 0)
theorem cnt_t {f : Nat → Bool} {k c : Nat} (hc : c = cnt f k) (h : f k = true) : c + 1 = cnt f (k + 1) := by rw [cnt, if_pos h, hc]
theorem cnt_f {f : Nat → Bool} {k c : Nat} (hc : c = cnt f k) (h : f k = false) : c + 0 = cnt f (k + 1) := by rw [cnt, if_neg (by rw [h]; decide), hc]
theorem cnt_le (f : Nat → Bool) : ∀ n, cnt f n ≤ n
  | 0 => Nat.le_refl 0
  | n + 1 => by
    have := cnt_le f n
    rw [cnt]
    split <;> omega
def lsum (L : Nat → Bool) : Nat → Nat
  | 0 => 0
  | m + 1 => lsum L m + lc L m 16
def cntf (p0 : Int32) (v0 v1 v2 v3 v4 v5 : Int32) : Int32 := if p0 = nI 0 then v0 else if p0 = nI 1 then v1 else if p0 = nI 2 then v2 else if p0 = nI 3 then v3 else if p0 = nI 4 then v4 else if p0 = nI 5 then v5 else (-1)
