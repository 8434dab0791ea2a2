/-! the class's words and the reference's, side by side -/
theorem cN_of {p : Int32} (h : ¬ p < 0) : nI (cN p) = p := by
  obtain ⟨n, hn, e⟩ := nI_of h
  rw [e, cN_nI hn]
theorem knf_congr {q q' : Nat → Bool} : ∀ n, (∀ k, k < n → q k = q' k) → knf q n = knf q' n
  | 0, _ => rfl
  | n + 1, h => by rw [knf, knf, knf_congr n (fun k hk => h k (by omega)), h n (by omega)]
theorem kn_eq {lt : Nat → Int32} {f g : Nat → Int64} {m ks : Nat} (h : ks ≤ 2) : knf (fun k => kq lt (f (2 * m + k)) (g (2 * m + k))) ks = kn2 (kqk (kb (f (2 * m)) (g (2 * m))) lt) (kqk (kb (f (2 * m + 1)) (g (2 * m + 1))) lt) ks := by
  unfold kn2
  apply knf_congr
  intro k hk
  rcases (show k = 0 ∨ k = 1 by omega) with e | e
  · subst e; rfl
  · subst e; rfl
theorem pl3_wrc {v : Int32} (h : v = (-1) ∨ wi v (nI 0) (nI 3) = true) : pl3 (if v = (-1) then nI 3 else v) = sty v := by
  rcases h with h | h
  · subst h; decide
  · obtain ⟨j, -, hj, rfl⟩ := wi_nat (by decide) (by decide) h
    rcases (show j = 0 ∨ j = 1 ∨ j = 2 ∨ j = 3 by omega) with e | e | e | e <;> subst e <;> decide
theorem lc_cnt (L : Nat → Bool) (m : Nat) : ∀ n, lc L m n = cnt (fun s => L (8 * s + m)) n
  | 0 => rfl
  | n + 1 => by rw [lc, cnt, lc_cnt L m n]
theorem lc_congr {L L' : Nat → Bool} {m : Nat} : ∀ n, (∀ s, s < n → L (8 * s + m) = L' (8 * s + m)) → lc L m n = lc L' m n
  | 0, _ => rfl
  | n + 1, h => by rw [lc, lc, lc_congr n (fun s hs => h s (by omega)), h n (by omega)]
theorem lc_mono {L L' : Nat → Bool} {m : Nat} : ∀ n, (∀ s, s < n → L (8 * s + m) = true → L' (8 * s + m) = true) → lc L m n ≤ lc L' m n
  | 0, _ => Nat.le_refl 0
  | n + 1, h => by
    rw [lc, lc]
    have h1 := lc_mono n (fun s hs => h s (by omega))
    by_cases q : L (8 * n + m) = true
    · rw [if_pos q, if_pos (h n (by omega) q)]; omega
    · rw [if_neg q]; omega
theorem cnt_congr {f g : Nat → Bool} : ∀ n, (∀ s, s < n → f s = g s) → cnt f n = cnt g n
  | 0, _ => rfl
  | n + 1, h => by rw [cnt, cnt, cnt_congr n (fun s hs => h s (by omega)), h n (by omega)]
theorem lc_ne {L : Nat → Bool} {s m k : Nat} {v : Bool} (hm : m < 8) (hk : k < 8) (h : k ≠ m) (n : Nat) : lc (va_up L (8 * s + m) v) k n = lc L k n := lc_congr n (fun z _ => va_up_ne _ _ (by omega))
theorem lc_up {L : Nat → Bool} {s m : Nat} (h : L (8 * s + m) = false) : ∀ n, s < n → lc (va_up L (8 * s + m) true) m n = lc L m n + 1
  | 0, q => absurd q (Nat.not_lt_zero s)
  | n + 1, q => by
    rw [lc, lc]
    by_cases e : s = n
    · subst e
      rw [va_up_self, if_pos rfl, h, if_neg (by decide), lc_congr s (fun z hz => va_up_ne L true (show 8 * z + m ≠ 8 * s + m by omega))]
    · rw [lc_up h n (by omega), va_up_ne _ _ (show 8 * n + m ≠ 8 * s + m by omega)]
      omega
/-- the coins that a meter keeps -/
theorem la_up {f c la : Nat → Int32} {sp s m : Nat} (hf : ∀ k, k < 20 → f (sp + k) = c k) (z : Nat) : va_cpy f (fun z => la (20 * (8 * (z / 20) + m) + z % 20)) sp (s * 20) 20 z = cpo c la (20 * (8 * s + m)) 20 (20 * (8 * (z / 20) + m) + z % 20) := by
  unfold va_cpy cpo
  by_cases h : s * 20 ≤ z ∧ z < s * 20 + 20
  · rw [if_pos h, if_pos (by omega), hf _ (by omega)]
    congr 1
    omega
  · rw [if_neg h, if_neg (by omega)]
theorem la_ne {c la : Nat → Int32} {s m k : Nat} (hm : m < 8) (hk : k < 8) (h : k ≠ m) (z : Nat) : la (20 * (8 * (z / 20) + k) + z % 20) = cpo c la (20 * (8 * s + m)) 20 (20 * (8 * (z / 20) + k) + z % 20) := by
  unfold cpo
  rw [if_neg (by omega)]
theorem ix_up {α : Type} {f : Nat → α} {s m : Nat} {v : α} (z : Nat) : va_up (fun s => f (8 * s + m)) s v z = va_up f (8 * s + m) v (8 * z + m) := by
  unfold va_up
  by_cases h : z = s
  · rw [if_pos h, if_pos (by omega)]
  · rw [if_neg h, if_neg (by omega)]
theorem ix_ne {α : Type} {f : Nat → α} {s m k : Nat} {v : α} (hm : m < 8) (hk : k < 8) (h : k ≠ m) (z : Nat) : f (8 * z + k) = va_up f (8 * s + m) v (8 * z + k) := (va_up_ne _ _ (by omega)).symm
theorem mi_up {f : Nat → Int32} {m p : Nat} {v : Int32} (z : Nat) : upd (fun z => f (16 * m + z)) p v z = upd f (16 * m + p) v (16 * m + z) := by
  unfold upd
  by_cases h : z = p
  · rw [if_pos h, if_pos (by omega)]
  · rw [if_neg h, if_neg (by omega)]
theorem mi_ne {f : Nat → Int32} {m k p z : Nat} {v : Int32} (hp : p < 16) (hz : z < 16) (h : k ≠ m) : f (16 * k + z) = upd f (16 * m + p) v (16 * k + z) := by
  unfold upd
  rw [if_neg (by omega)]
/-- a coin on its way back -/
theorem fw_congr {c c' : Nat → Int32} {m : Int32} {j : Nat} (h : ∀ z, z < 20 → c z = c' z) : ∀ r z, z < 20 → fw c m j r z = fw c' m j r z
  | 0, z, hz => h z hz
  | r + 1, z, hz => by
    have ih := fw_congr (m := m) (j := j) h r
    rw [fw, fw]
    split
    · apply hb_congr
      intro i hi
      unfold hd
      by_cases q : i < 20
      · rw [if_pos q, if_pos q]; exact ih i q
      · rw [if_neg q, if_neg q]
    · apply hb_congr
      intro i hi
      exact ih i hi
theorem sb_congr2 {f f' g g' : Nat → Int32} {a a' b b' : Nat} : ∀ k, (∀ i, i < k → f (a + i) = f' (a' + i)) → (∀ i, i < k → g (b + i) = g' (b' + i)) → sb f a g b k = sb f' a' g' b' k
  | 0, _, _ => rfl
  | k + 1, h, h2 => by
    show (sb f a g b k && decide (f (a + k) = g (b + k))) = (sb f' a' g' b' k && decide (f' (a' + k) = g' (b' + k)))
    rw [sb_congr2 k (fun i hi => h i (by omega)) (fun i hi => h2 i (by omega)), h k (by omega), h2 k (by omega)]
theorem cnf_at {sd : Int64} {n k z : Nat} (hk : 1 ≤ k) (hz : z < 20) : cnf sd n ((k - 1) * 20 + z) = chn sd (n - k) z := by
  unfold cnf
  rw [show n - 1 - ((k - 1) * 20 + z) / 20 = n - k by omega, show ((k - 1) * 20 + z) % 20 = z by omega]
theorem sb_kp {c c' la : Nat → Int32} {m s k d : Nat} (h : ∀ z, z < 20 → c z = c' z) : sb (fw c (nI m) k d) 0 (fun z => la (20 * (8 * (z / 20) + m) + z % 20)) (s * 20) 20 = sb (fw c' (nI m) k d) 0 la (20 * (8 * s + m)) 20 := by
  refine sb_congr2 20 (fun i hi => ?_) (fun i hi => ?_)
  · rw [Nat.zero_add]; exact fw_congr h d i hi
  · show la _ = la _
    congr 1
    omega
theorem mn_com (a c : Int32) : a * c * nI 2 = nI 2 * c * a := by rw [Int32.mul_comm (a * c), Int32.mul_comm a c, Int32.mul_assoc]
/-- the bits of the barred scrolls -/
theorem b_one : ∀ i, i < 32 → bt (nI 1) i = decide (i = 0) := by decide +kernel
theorem bitn_bt {v : Int32} {n : Nat} (hn : n < 32) : bitn v n = bt v n := by
  have e0 : bt (v >>> (nI n &&& 31) &&& nI 1) 0 = bt v n := by rw [b_and, b_sshr n hn v (by decide), if_pos (by omega), b_one 0 (by decide)]; simp
  unfold bitn
  cases h : bt v n with
  | false =>
    apply decide_eq_false
    intro q
    rw [q, h, b_one 0 (by decide)] at e0
    exact absurd e0 (by decide)
  | true =>
    apply decide_eq_true
    apply b_ext
    intro i hi
    rw [b_and, b_one i hi]
    by_cases q : i = 0
    · subst q; rw [b_sshr n hn v (by decide), if_pos (by omega), Nat.add_zero, h]; simp
    · rw [decide_eq_false q, Bool.and_false]
theorem b_1s : ∀ s, s < 16 → ∀ j, j < 16 → bt (nI 1 <<< (nI s &&& 31)) j = decide (j = s) := by decide +kernel
theorem bmask_bt (Bk : Nat → Bool) {j : Nat} (hj : j < 16) : ∀ n, n ≤ 16 → bt (bmask Bk n) j = (decide (j < n) && Bk j)
  | 0, _ => by rw [bmask]; exact b_0 j
  | n + 1, hn => by
    rw [bmask, b_or, bmask_bt Bk hj n (by omega)]
    by_cases q : Bk n = true
    · rw [if_pos q, b_1s n (by omega) j hj]
      by_cases e : j = n
      · subst e; rw [decide_eq_true rfl, q]; simp
      · rw [decide_eq_false e, Bool.or_false]
        by_cases e2 : j < n
        · rw [decide_eq_true e2, decide_eq_true (by omega)]
        · rw [decide_eq_false e2, decide_eq_false (by omega)]
    · rw [if_neg q, show bt (nI 0) j = false from b_0 j, Bool.or_false]
      by_cases e : j = n
      · subst e; rw [decide_eq_false (by omega), Bool.eq_false_iff.mpr q]; simp
      · by_cases e2 : j < n
        · rw [decide_eq_true e2, decide_eq_true (by omega)]
        · rw [decide_eq_false e2, decide_eq_false (by omega)]
theorem bmask_bit (Bk : Nat → Bool) {j : Nat} (hj : j < 16) : bitn (bmask Bk 16) j = Bk j := by rw [bitn_bt (by omega), bmask_bt Bk hj 16 (by omega), decide_eq_true hj, Bool.true_and]
/-- emptying -/
theorem em_rd {rd : Nat → Int32} {L : Nat → Bool} {ix : Nat → Nat} {mt b s z : Nat} (hs : s < b) (hb : b ≤ 16) (hz : z < 8) : erd (fun s z => rd (8 * s + z)) (fun s => L (8 * s + mt)) (fun s => ix (8 * s + mt)) mt b s z = emR rd L ix mt 16 (8 * s + z) := by
  unfold erd
  rw [if_pos hs]
  by_cases e : z = mt
  · subst e
    rw [emR_in (by omega)]
    by_cases q : L (8 * s + z) = true
    · rw [if_pos q, if_pos q, upd_at]
    · rw [if_neg q, if_neg q]
  · rw [emR_out (by omega)]
    by_cases q : L (8 * s + mt) = true
    · rw [if_pos q, upd_ne' _ _ e]
    · rw [if_neg q]
theorem em_ol {L : Nat → Bool} {en : Nat → Nat} {dy mt b s : Nat} (hm : mt < 8) (hs : s < 16) (hd : dy ≤ 1000000) (he : en s < 2 ^ 30) (hz : b ≤ s → L (8 * s + mt) = false) : eol (fun s => L (8 * s + mt)) (fun s => nI (en s)) dy b s = emL L en dy mt 16 (8 * s + mt) := by
  unfold eol emL
  rw [if_pos (show (8 * s + mt) % 8 = mt ∧ (8 * s + mt) / 8 < 16 by omega), show (8 * s + mt) / 8 = s by omega]
  by_cases q : s < b
  · rw [if_pos q]
    congr 1
    exact decide_eq_decide.mpr (nI_leI (by omega) (by omega))
  · rw [if_neg q, hz (by omega), Bool.false_and]
    exact hz (by omega)
theorem emL_ne {L : Nat → Bool} {en : Nat → Nat} {dy mt k s : Nat} (hm : mt < 8) (hk : k < 8) (h : k ≠ mt) : L (8 * s + k) = emL L en dy mt 16 (8 * s + k) := by
  unfold emL
  rw [if_neg (by omega)]
theorem emR_ne {rd : Nat → Int32} {L : Nat → Bool} {ix : Nat → Nat} {j : Nat} {mt : Nat} (h : L j = false) : emR rd L ix mt 16 j = rd j := by
  unfold emR
  by_cases q : j % 8 = mt ∧ j / 8 < 16
  · rw [if_pos q, if_neg (by rw [h]; decide)]
  · rw [if_neg q]
theorem em_bk {Bk : Nat → Bool} {v : Int32} {b s : Nat} (hs : s < 16) (hb : b ≤ s → Bk s = false ∧ bitn v s = false) : ebk Bk (fun s => bitn v s) b s = bitn (bmask Bk 16) s := by
  unfold ebk
  rw [bmask_bit Bk hs]
  by_cases q : s < b
  · rw [if_pos q]
  · rw [if_neg q, (hb (by omega)).1]
    exact (hb (by omega)).2
theorem up2 {f : Nat → Int64} {a b : Int64} {m : Nat} : vp_updL (vp_updL f (2 * m) a) (2 * m + 1) b (2 * m) = a ∧ vp_updL (vp_updL f (2 * m) a) (2 * m + 1) b (2 * m + 1) = b := by
  unfold vp_updL
  exact ⟨by rw [if_neg (by omega), if_pos rfl], by rw [if_pos rfl]⟩
theorem up2_ne {f : Nat → Int64} {a b : Int64} {m k : Nat} (h : k ≠ m) : vp_updL (vp_updL f (2 * m) a) (2 * m + 1) b (2 * k) = f (2 * k) ∧ vp_updL (vp_updL f (2 * m) a) (2 * m + 1) b (2 * k + 1) = f (2 * k + 1) := by
  unfold vp_updL
  exact ⟨by rw [if_neg (by omega), if_neg (by omega)], by rw [if_neg (by omega), if_neg (by omega)]⟩
theorem nb_00 (k : Nat) : nb 0 k = 0 := by
  unfold nb
  have : uL 0 (nI (8 * k)) = 0 := by
    unfold uL
    generalize ((nI (8 * k)).toInt64.toUInt64 &&& Int64.toUInt64 63) = z
    have : (Int64.toUInt64 0) >>> z = 0 := by
      apply UInt64.toBitVec_inj.mp
      rw [UInt64.toBitVec_shiftRight]
      show (0#64) >>> _ = 0#64
      exact BitVec.zero_ushiftRight
    rw [this]
    rfl
  rw [this]
  rfl
theorem kb_0 : kb 0 0 = fun _ => 0 := by
  funext j
  unfold kb
  split <;> exact nb_00 _
theorem nsum_eq (L : Nat → Bool) : ∀ n, nsum (fun m => lc L m 16) n = lsum L n
  | 0 => rfl
  | n + 1 => by rw [nsum, lsum, nsum_eq L n]
/-- settling leaves alone what is above -/
theorem stA_out {cs : Nat → Nat} {ct rd se : Nat → Int32} {en ow : Nat → Nat} {dy : Nat} {a : SA} {j : Nat} : ∀ n, n ≤ j → (stA cs ct rd se en ow dy a n).1 j = a.1 j ∧ (stA cs ct rd se en ow dy a n).2.1 j = a.2.1 j ∧ (stA cs ct rd se en ow dy a n).2.2.1 j = a.2.2.1 j ∧ (stA cs ct rd se en ow dy a n).2.2.2.1 j = a.2.2.2.1 j
  | 0, _ => ⟨rfl, rfl, rfl, rfl⟩
  | n + 1, h => by
    obtain ⟨h1, h2, h3, h4⟩ := stA_out (cs := cs) (ct := ct) (rd := rd) (se := se) (en := en) (ow := ow) (dy := dy) (a := a) (j := j) n (by omega)
    rw [stA]
    by_cases q : en n + 7 < dy ∧ (stA cs ct rd se en ow dy a n).2.2.2.1 n = false
    · rw [stS_y q]
      exact ⟨(upd_ne' _ _ (show j ≠ n by omega)).trans h1, (upd_ne' _ _ (show j ≠ n by omega)).trans h2, (va_up_ne _ _ (show j ≠ n by omega)).trans h3, (va_up_ne _ _ (show j ≠ n by omega)).trans h4⟩
    · rw [stS_n q]
      exact ⟨(upd_ne' _ _ (show j ≠ n by omega)).trans h1, (upd_ne' _ _ (show j ≠ n by omega)).trans h2, (va_up_ne _ _ (show j ≠ n by omega)).trans h3, h4⟩
theorem cb_eq {p1 p2 : Int32} {n : Nat} {sd : Int64} (hn : n ≤ 60) : cb2 p1 p2 n (cnf sd n) = if wi p1 (nI 1) (nI n) = true ∧ wi p2 (nI 0) (nI 19) = true then chn sd (n - cN p1) (cN p2) &&& nI 255 else (-1) := by
  unfold cb2
  by_cases h : wi p1 (nI 1) (nI n) = true ∧ wi p2 (nI 0) (nI 19) = true
  · rw [if_pos h, if_pos h]
    obtain ⟨j, j1, j2, rfl⟩ := wi_nat (by decide) (by omega) h.1
    obtain ⟨i, -, i2, rfl⟩ := wi_nat (by decide) (by decide) h.2
    rw [cN_nI (by omega), cN_nI (by omega), cnf_at (by omega) (by omega)]
  · rw [if_neg h, if_neg h]
