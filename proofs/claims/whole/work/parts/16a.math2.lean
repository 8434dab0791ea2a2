/-! the answers of the public methods, as functions of numbers and rows -/
def cN (p : Int32) : Nat := p.toNatClampNeg
theorem cN_nI {j : Nat} (h : j < 2 ^ 31) : cN (nI j) = j := nI_clamp h
def cbf (p0 p1 p2 : Int32) (b : Nat) (cs : Nat → Nat) (V : Nat → Nat → Nat → Int32) : Int32 := if wi p0 (nI 0) (nI b - nI 1) = true ∧ wi p1 (nI 1) (nI (cs (cN p0))) = true ∧ wi p2 (nI 0) (nI 19) = true then V (cN p0) (cN p1) (cN p2) &&& nI 255 else (-1)
def lbf (p0 p1 : Int32) (b : Nat) (V : Nat → Nat → Int32) : Int32 := if wi p0 (nI 0) (nI b - nI 1) = true ∧ wi p1 (nI 0) (nI 203) = true then V (cN p0) (cN p1) &&& nI 255 else (-1)
def spf (p0 p1 : Int32) (b : Nat) (L : Nat → Bool) (ix : Nat → Nat) : Int32 := if (wi p0 (nI 0) (nI b - nI 1) && wi p1 (nI 0) (nI 7)) = true ∧ L (8 * cN p0 + cN p1) = true then nI (ix (8 * cN p0 + cN p1)) else (-1)
def ovf (p0 : Int32) (b : Nat) (ov : Nat → Int32) : Int32 := if wi p0 (nI 0) (nI b - nI 1) = true then ov (cN p0) else (-1)
def mnf (p0 p1 : Int32) (mi : Nat → Int32) : Int32 := if wi p0 (nI 0) (nI 7) = true ∧ wi p1 (nI 0) (nI 15) = true then mi (16 * cN p0 + cN p1) else (-1)
theorem bit_ne {y : Int32} (h : ¬ y &&& nI 1 = 0) : y &&& nI 1 = nI 1 := by
  rcases pk_andE y (m := nI 1) 1 (by decide) with ⟨j, hj, e⟩
  rw [e] at h ⊢
  rcases (show j = 0 ∨ j = 1 by omega) with q | q
  · subst q; exact absurd rfl h
  · rw [q]
def insf (pr lst kn bit late bar full st : Bool) : Int32 := if pr = false then (-1) else if lst = true then nI 1 else if kn = false then nI 2 else if bit = false then nI 3 else if late = true then nI 4 else if bar = true then nI 5 else if full = true then nI 6 else if st = false then (-5) else nI 0
theorem insf_m {pr lst kn bit late bar full st : Bool} (h : pr = false) : insf pr lst kn bit late bar full st = (-1) := by rw [insf, if_pos h]
theorem insf_1 {pr lst kn bit late bar full st : Bool} (h : pr = true) (h1 : lst = true) : insf pr lst kn bit late bar full st = nI 1 := by subst h; subst h1; rfl
theorem insf_2 {pr lst kn bit late bar full st : Bool} (h : pr = true) (h1 : lst = false) (h2 : kn = false) : insf pr lst kn bit late bar full st = nI 2 := by subst h; subst h1; subst h2; rfl
theorem insf_3 {pr lst kn bit late bar full st : Bool} (h : pr = true) (h1 : lst = false) (h2 : kn = true) (h3 : bit = false) : insf pr lst kn bit late bar full st = nI 3 := by subst h; subst h1; subst h2; subst h3; rfl
theorem insf_4 {pr lst kn bit late bar full st : Bool} (h : pr = true) (h1 : lst = false) (h2 : kn = true) (h3 : bit = true) (h4 : late = true) : insf pr lst kn bit late bar full st = nI 4 := by subst h; subst h1; subst h2; subst h3; subst h4; rfl
theorem insf_5 {pr lst kn bit late bar full st : Bool} (h : pr = true) (h1 : lst = false) (h2 : kn = true) (h3 : bit = true) (h4 : late = false) (h5 : bar = true) : insf pr lst kn bit late bar full st = nI 5 := by subst h; subst h1; subst h2; subst h3; subst h4; subst h5; rfl
theorem insf_6 {pr lst kn bit late bar full st : Bool} (h : pr = true) (h1 : lst = false) (h2 : kn = true) (h3 : bit = true) (h4 : late = false) (h5 : bar = false) (h6 : full = true) : insf pr lst kn bit late bar full st = nI 6 := by subst h; subst h1; subst h2; subst h3; subst h4; subst h5; subst h6; rfl
theorem insf_7 {pr lst kn bit late bar full st : Bool} (h : pr = true) (h1 : lst = false) (h2 : kn = true) (h3 : bit = true) (h4 : late = false) (h5 : bar = false) (h6 : full = false) (h7 : st = false) : insf pr lst kn bit late bar full st = (-5) := by subst h; subst h1; subst h2; subst h3; subst h4; subst h5; subst h6; subst h7; rfl
theorem insf_0 {pr lst kn bit late bar full st : Bool} (h : pr = true) (h1 : lst = false) (h2 : kn = true) (h3 : bit = true) (h4 : late = false) (h5 : bar = false) (h6 : full = false) (h7 : st = true) : insf pr lst kn bit late bar full st = nI 0 := by subst h; subst h1; subst h2; subst h3; subst h4; subst h5; subst h6; subst h7; rfl
theorem nle_t {a b : Int32} (h : ¬ a ≤ b) : (!decide (a ≤ b)) = true := by rw [decide_eq_false h]; rfl
theorem nle_f {a b : Int32} (h : a ≤ b) : (!decide (a ≤ b)) = false := by rw [decide_eq_true h]; rfl
