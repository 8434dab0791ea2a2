/-! meters of the class -/
theorem sb_congr {f f' g : Nat → Int32} {a b : Nat} : ∀ k, (∀ i, i < k → f (a + i) = f' (a + i)) → sb f a g b k = sb f' a g b k
  | 0, _ => rfl
  | k + 1, h => by
    show (sb f a g b k && decide (f (a + k) = g (b + k))) = (sb f' a g b k && decide (f' (a + k) = g (b + k)))
    rw [sb_congr k (fun i hi => h i (by omega)), h k (by omega)]
theorem sb_cdm {cd key lt g : Nat → Int32} {b : Nat} : sb (cdm cd key lt 172) 0 g b 32 = sb (hmac key lt 172) 0 g b 32 := sb_congr 32 (fun i hi => by rw [cdm, if_pos (by omega)])
theorem nb_t {b : Bool} (h : (!b) = false) : b = true := by cases b; exact absurd h (by decide); rfl
theorem nb_f {b : Bool} (h : (!b) = true) : b = false := by cases b; rfl; exact absurd h (by decide)
def pl3 (wr : Int32) : Bool := !decide (wr < nI 3)
def kqk (key lt : Nat → Int32) : Bool := sb (hmac key lt 172) 0 lt 172 32
def kn2 (a b : Bool) (ks : Nat) : Bool := knf (fun k => if k = 0 then a else b) ks
theorem kn_0 {a b : Bool} {ks : Nat} (h : ks < 1) : kn2 a b ks = false := by rw [show ks = 0 by omega]; rfl
theorem kn_1 {a b : Bool} {ks : Nat} (h1 : 1 ≤ ks) (ha : a = true) : kn2 a b ks = true := knf_t (q := fun k => if k = 0 then a else b) (k := 0) (b := a) rfl ha ks (by omega)
theorem kn_2 {a b : Bool} {ks : Nat} (h1 : 2 ≤ ks) (hb : b = true) : kn2 a b ks = true := knf_t (q := fun k => if k = 0 then a else b) (k := 1) (b := b) rfl hb ks (by omega)
theorem kn_1f {a b : Bool} {ks : Nat} (ha : a = false) (h : ks < 2) : kn2 a b ks = false := by
  rcases (show ks = 0 ∨ ks = 1 by omega) with e | e
  · rw [e]; rfl
  · rw [e, ha]; rfl
theorem kn_2f {a b : Bool} {ks : Nat} (ha : a = false) (hb : b = false) (h : ks ≤ 2) : kn2 a b ks = false := by
  rcases (show ks = 0 ∨ ks = 1 ∨ ks = 2 by omega) with e | e | e
  · rw [e]; rfl
  · rw [e, ha]; rfl
  · rw [e, ha, hb]; rfl
theorem cut0 {c : Nat → Int32} : ∀ j, j < 20 → hbp c 0 (fun j => c (0 + j)) 20 20 j = hb c 20 j := fun j hj => by
  rw [hbp_in j hj]
  exact hb_congr (fun z hz => by rw [Nat.zero_add]) _
theorem head0 {c : Nat → Int32} {v : Int32} : ∀ j, j < 20 → hbp c 0 (hd (fun j => c (0 + j)) v) 21 20 j = hb (hd c v) 21 j := fun j hj => by
  rw [hbp_in j hj]
  exact hb_congr (fun z hz => by unfold hd; show (if z < 20 then c (0 + z) else bx v) = _; rw [Nat.zero_add]) _
