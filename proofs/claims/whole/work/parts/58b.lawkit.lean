/-! the law's walk: what stays with the calls -/
section
variable {r : RS}
theorem bw_id : r.b = r.b ∧ r.wk ≤ r.wk + 1 := ⟨rfl, Nat.le_succ _⟩
theorem bw_newWeek {one two : Int64} : (s_newWeek r one two).b = r.b ∧ (s_newWeek r one two).wk ≤ r.wk + 1 := ⟨rfl, Nat.le_refl _⟩
theorem bw_today {p0 : Int32} : (s_today r p0).b = r.b ∧ (s_today r p0).wk ≤ r.wk + 1 := by unfold s_today; split <;> exact ⟨rfl, Nat.le_succ _⟩
theorem bw_money {p0 : Int32} {c9 : Int64} : (s_money r p0 c9).b = r.b ∧ (s_money r p0 c9).wk ≤ r.wk + 1 := by unfold s_money; split <;> exact ⟨rfl, Nat.le_succ _⟩
theorem bw_poke {p0 p1 : Int32} : (s_poke r p0 p1).b = r.b ∧ (s_poke r p0 p1).wk ≤ r.wk + 1 := by unfold s_poke; split <;> exact ⟨rfl, Nat.le_succ _⟩
theorem bw_power {p0 p1 : Int32} : (s_power r p0 p1).b = r.b ∧ (s_power r p0 p1).wk ≤ r.wk + 1 := by unfold s_power; split <;> exact ⟨rfl, Nat.le_succ _⟩
theorem bw_empty {p0 : Int32} : (s_empty r p0).b = r.b ∧ (s_empty r p0).wk ≤ r.wk + 1 := by unfold s_empty; split <;> exact ⟨rfl, Nat.le_succ _⟩
theorem bw_settle : (s_settle r).b = r.b ∧ (s_settle r).wk ≤ r.wk + 1 := ⟨rfl, Nat.le_succ _⟩
theorem bw_ins {p0 p1 : Int32} : (s_ins r p0 p1).b = r.b ∧ (s_ins r p0 p1).wk ≤ r.wk + 1 := by
  unfold s_ins
  split
  · exact ⟨rfl, Nat.le_succ _⟩
  · split <;> exact ⟨rfl, Nat.le_succ _⟩
theorem bw_pt {OK : Bool} {AN : Int32} {s m pl k : Nat} {c : Nat → Int32} : (s_pt r OK AN s m pl k c).b = r.b ∧ (s_pt r OK AN s m pl k c).wk ≤ r.wk + 1 := by
  unfold s_pt
  split
  · split <;> exact ⟨rfl, Nat.le_succ _⟩
  · exact ⟨rfl, Nat.le_succ _⟩
theorem bw_pay {p0 p1 p2 p3 : Int32} : (s_pay r p0 p1 p2 p3).b = r.b ∧ (s_pay r p0 p1 p2 p3).wk ≤ r.wk + 1 := bw_pt
theorem bw_offer {p0 p1 p2 p3 : Int32} : (s_offer r p0 p1 p2 p3).b = r.b ∧ (s_offer r p0 p1 p2 p3).wk ≤ r.wk + 1 := bw_pt
theorem bw_buy {p0 p1 p2 p3 p5 : Int32} {p4 : Int64} : (s_buy r p0 p1 p2 p3 p4 p5).b = r.b + 1 ∧ (s_buy r p0 p1 p2 p3 p4 p5).wk ≤ r.wk + 1 := ⟨rfl, Nat.le_succ _⟩
theorem mem_c {t : Nat → ClassId} {T h : Nat → Nat} {mq : Nat → Nat → Nat} {ma : Nat → Option Nat} {j : CJ} {w : va_W} : (T 0, Sum.inr (3, tO T h (nI r.wk) (nI r.dy) (nI r.b) r.kp r.tw)) ∈ cW t T h mq ma j r ++ w := List.mem_append_left _ (List.mem_append_left _ List.mem_cons_self)
theorem mem_r {t : Nat → ClassId} {a : Nat → Nat} {j : RJ} {w : va_W} : (a 0, Sum.inr (4, mO a j.th (nI r.dy) r.kp r.tw (nI r.wk) r.k1 r.k2 r.o1 r.o2 (nI r.b))) ∈ w ++ rW t a j r := List.mem_append_right _ List.mem_cons_self
end
/-- two ints of the script as a long -/
def lg2 (x y : Int32) : Int64 := (x.toInt64 <<< ((nI 32).toInt64 &&& 63)) ||| (y.toInt64 &&& 4294967295)
