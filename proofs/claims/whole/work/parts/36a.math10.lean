/-! the town's smaller answers -/
def cb2 (p1 p2 : Int32) (n : Nat) (cf : Nat → Int32) : Int32 := if wi p1 (nI 1) (nI n) = true ∧ wi p2 (nI 0) (nI 19) = true then cf ((cN p1 - 1) * 20 + cN p2) &&& nI 255 else (-1)
def lb2 (p1 : Int32) (lt : Nat → Int32) : Int32 := if wi p1 (nI 0) (nI 203) = true then lt (cN p1) &&& nI 255 else (-1)
def sp2 (l : Bool) (i : Nat) : Int32 := if l = true then nI i else (-1)
def mn2 (p1 : Int32) (mi : Nat → Int32) : Int32 := if wi p1 (nI 0) (nI 15) = true then mi (cN p1) else (-1)
theorem kb_w2 {f : Nat → Int32} {one two : Int64} : ∀ j, j < 16 → wnp (wnp f 0 8 one 8) 8 8 two 8 j = kb one two j := by
  intro j hj
  unfold kb
  by_cases h : j < 8
  · rw [wnp, if_neg (by omega), wnp, if_pos (by omega), if_pos h]; congr 1
  · rw [wnp, if_pos (by omega), if_neg h, show 8 - 1 - (j - 8) = 15 - j by omega]
theorem cpy_16 {f g : Nat → Int32} : ∀ j, j < 16 → va_cpy f g 0 0 16 j = f j := by
  intro j hj
  unfold va_cpy
  rw [if_pos (by omega), Nat.sub_zero, Nat.zero_add]
