/-! the state stays good -/
section
variable {r : RS}
theorem ok_newWeek {one two : Int64} (ok : Ok r) : Ok (s_newWeek r one two) := ok
theorem ok_today {p0 : Int32} (ok : Ok r) : Ok (s_today r p0) := by
  unfold s_today
  split
  · rename_i hv
    obtain ⟨hb16, hdy, hrest⟩ := ok
    refine ⟨hb16, ?_, hrest⟩
    show cN p0 ≤ 1000000
    have h : ¬ (p0 < nI r.dy ∨ nI 1000000 < p0) := by
      intro q
      rw [v_today, decide_eq_true q] at hv
      exact absurd hv (by decide)
    have h0 : ¬ p0 < 0 := fun q => h (Or.inl (Int32.lt_of_lt_of_le q (nI_pos' (by omega))))
    obtain ⟨n, hn, rfl⟩ := nI_of h0
    rw [cN_nI hn]
    exact Nat.le_of_not_lt fun q => h (Or.inr ((nI_ltI (by decide) hn).mpr q))
  · exact ok
theorem ok_money {p0 : Int32} {c9 : Int64} (ok : Ok r) : Ok (s_money r p0 c9) := by
  unfold s_money
  split <;> exact ok
theorem ok_buy {p0 p1 p2 p3 p5 : Int32} {p4 : Int64} (ok : Ok r) (hv : buyv p0 p1 p2 p3 p5 r.wk r.b r.pu) : Ok (s_buy r p0 p1 p2 p3 p4 p5) := by
  obtain ⟨hb16, hdy, hcs, how, hen, hix, hks, hbf, hla, hz, hz8, hbar, hwr, hlc⟩ := ok
  obtain ⟨v0, vk, vb, v1, v2, v3, v5, vp⟩ := hv
  obtain ⟨o, -, ho, rfl⟩ := wi_nat (by decide) (by decide) v0
  obtain ⟨n, hn1, hn2, rfl⟩ := wi_nat (by decide) (by decide) v1
  obtain ⟨dd, hd1, hd2, rfl⟩ := wi_nat (by decide) (by decide) v5
  rw [s_buy, cN_nI (by omega), cN_nI (by omega), cN_nI (by omega)]
  refine ⟨show r.b + 1 ≤ 16 by omega, hdy, fun j => ?_, fun j => ?_, fun j => ?_, hix, hks, hbf, hla, fun j hj => hz j (by have hj : r.b + 1 ≤ j := hj; omega), fun j hj => hz8 j (by have hj : 8 * (r.b + 1) ≤ j := hj; omega), fun m j hj h16 => hbar m j (by have hj : r.b + 1 ≤ j := hj; omega) h16, hwr, hlc⟩
  · show va_up r.cs r.b n j ≤ 60
    unfold va_up
    split
    · exact hn2
    · exact hcs j
  · show va_up r.ow r.b o j < 8
    unfold va_up
    split
    · omega
    · exact how j
  · show va_up r.en r.b (r.dy + dd) j < 2 ^ 30
    unfold va_up
    split
    · omega
    · exact hen j
theorem wr_cut {f : Nat → Int32} {m : Nat} {v : Int32} (h : ∀ k, f k = (-1) ∨ wi (f k) (nI 0) (nI 3) = true) (hv : v = (-1) ∨ wi v (nI 0) (nI 3) = true) (k : Nat) : upd f m v k = (-1) ∨ wi (upd f m v k) (nI 0) (nI 3) = true := by
  by_cases e : k = m
  · rw [e, upd_at]; exact hv
  · rw [upd_ne' _ _ e]; exact h k
theorem ok_cut {m : Nat} {v : Int32} (ok : Ok r) (hv : v = (-1) ∨ wi v (nI 0) (nI 3) = true) : Ok (s_cut r m v) := by
  obtain ⟨hb16, hdy, hcs, how, hen, hix, hks, hbf, hla, hz, hz8, hbar, hwr, hlc⟩ := ok
  exact ⟨hb16, hdy, hcs, how, hen, hix, hks, hbf, hla, hz, hz8, hbar, wr_cut hwr hv, hlc⟩
theorem ok_power {p0 p1 : Int32} (ok : Ok r) : Ok (s_power r p0 p1) := by
  unfold s_power
  split
  · rename_i h
    exact ok_cut ok (Or.inr (Bool.and_eq_true_iff.mp h).2)
  · exact ok
theorem ok_poke {p0 p1 : Int32} (ok : Ok r) : Ok (s_poke r p0 p1) := by
  unfold s_poke
  split
  · obtain ⟨hb16, hdy, hcs, how, hen, hix, hks, hbf, hrest⟩ := ok
    exact ⟨hb16, hdy, hcs, how, hen, hix, hks, fb_upd hbf (bx_bx _), hrest⟩
  · exact ok
theorem insf_000 {pr lst kn bit late bar full st : Bool} (h : insf pr lst kn bit late bar full st = nI 0) : pr = true ∧ lst = false ∧ full = false := by
  revert h
  cases pr <;> cases lst <;> cases kn <;> cases bit <;> cases late <;> cases bar <;> cases full <;> cases st <;> decide
theorem ok_ins {p0 p1 : Int32} (ok : Ok r) : Ok (s_ins r p0 p1) := by
  unfold s_ins
  split
  · rename_i hv
    obtain ⟨hb16, hdy, hcs, how, hen, hix, hks, hbf, hla, hz, hz8, hbar, hwr, hlc⟩ := id ok
    obtain ⟨h1, h2, h3⟩ := insf_000 hv
    rw [Bool.and_eq_true_iff] at h1
    obtain ⟨s, hs, rfl⟩ := wi_b hb16 h1.1
    obtain ⟨m, -, hm, rfl⟩ := wi_nat (by decide) (by decide) h1.2
    rw [cN_nI (by omega), cN_nI (by omega)] at h2
    rw [cN_nI (by omega)] at h3
    rw [cN_nI (by omega), cN_nI (by omega)]
    have hwr' := wr_cut (m := m) (v := (-1)) hwr (Or.inl rfl)
    have hla' : fb (cpo (fun k => ltR r s (12 + 20 * m + k)) r.la (20 * (8 * s + m)) 20) := fb_cpo (fun k => fb_ltr _ _ _ _ _ _ _ (12 + 20 * m + k)) hla
    refine ⟨hb16, hdy, hcs, how, hen, fun k => ?_, hks, hbf, hla', hz, fun k hk => ⟨(hz8 k hk).1, (hz8 k hk).2.1, ?_⟩, hbar, hwr', fun k hk => ?_⟩
    · show va_up r.ix (8 * s + m) 0 k ≤ 60
      unfold va_up
      split
      · omega
      · exact hix k
    · have hk : 8 * r.b ≤ k := hk
      exact (va_up_ne _ _ (show k ≠ 8 * s + m by omega)).trans (hz8 k hk).2.2
    · show lc (va_up r.L (8 * s + m) true) k 16 ≤ 6
      by_cases e : k = m
      · rw [e, lc_up h2 16 (by omega)]
        have := of_decide_eq_false h3
        have := hlc m (by omega)
        omega
      · rw [lc_ne (by omega) hk e]; exact hlc k hk
  · split
    · exact ok_cut ok (Or.inl rfl)
    · exact ok
theorem ok_pt {OK : Bool} {AN : Int32} {s m pl k : Nat} {c : Nat → Int32} (ok : Ok r) (hc : fb c) (hk : OK = true → AN = nI 0 → k ≤ 60) : Ok (s_pt r OK AN s m pl k c) := by
  unfold s_pt
  split
  · rename_i h
    split
    · obtain ⟨hb16, hdy, hcs, how, hen, hix, hks, hbf, hla, hz, hz8, hbar, hwr, hlc⟩ := id ok
      have hwr' := wr_cut (m := m) (v := (-1)) hwr (Or.inl rfl)
      have hla' : fb (cpo c r.la (20 * (8 * s + m)) 20) := fb_cpo hc hla
      refine ⟨hb16, hdy, hcs, how, hen, fun z => ?_, hks, hbf, hla', hz, hz8, hbar, hwr', hlc⟩
      show va_up r.ix (8 * s + m) k z ≤ 60
      unfold va_up
      split
      · exact hk h.1 h.2.1
      · exact hix z
    · exact ok_cut ok (Or.inl rfl)
  · exact ok
theorem ok_pay {p0 p1 p2 p3 : Int32} (ok : Ok r) : Ok (s_pay r p0 p1 p2 p3) := by
  refine ok_pt ok (fb_chn _ _) (fun h1 h2 => ?_)
  obtain ⟨hb16, hdy, hcs, how, hen, hix, hks, hbf, hla, hz, hz8, hbar, hwr, hlc⟩ := id ok
  unfold okp at h1
  rw [Bool.and_eq_true_iff] at h1
  obtain ⟨k, hk1, hk2, rfl⟩ := wi_nat (by decide) (by decide) h1.2
  have h3 := hix (8 * cN p0 + cN p1)
  have h4 := hcs (cN p0)
  have e : cN (nI k) = k := cN_nI (by omega)
  rw [e] at h2 ⊢
  have h5 := ans_0 (show r.ix (8 * cN p0 + cN p1) + k < 2 ^ 31 by omega) (by omega) (by omega) h2
  show r.ix (8 * cN p0 + cN p1) + k ≤ 60
  omega
theorem ok_offer {p0 p1 p2 p3 : Int32} (ok : Ok r) : Ok (s_offer r p0 p1 p2 p3) := by
  obtain ⟨hb16, hdy, hcs, how, hen, hix, hks, hbf, hla, hz, hz8, hbar, hwr, hlc⟩ := id ok
  refine ok_pt ok hbf (fun h1 h2 => ?_)
  have h3 := hix (8 * cN p0 + cN p1)
  have h4 := hcs (cN p0)
  obtain ⟨q1, q2⟩ := ans_00 h2
  obtain ⟨n, rfl, n1, n2⟩ := j_of (by omega) (by omega) q1 q2
  rw [cN_nI (by omega)]
  omega
theorem ok_empty {p0 : Int32} (ok : Ok r) : Ok (s_empty r p0) := by
  unfold s_empty
  split
  · rename_i hv
    obtain ⟨hb16, hdy, hcs, how, hen, hix, hks, hbf, hla, hz, hz8, hbar, hwr, hlc⟩ := id ok
    obtain ⟨m, -, hm, rfl⟩ := wi_nat (by decide) (by decide) hv
    rw [cN_nI (by omega)]
    refine ⟨hb16, hdy, hcs, how, hen, hix, fun k => ?_, hbf, hla, hz, fun k hk => ⟨?_, (hz8 k hk).2.1, ?_⟩, fun k z hz1 hz2 => ?_, hwr, fun k hk => ?_⟩
    · show va_up r.ks m (min r.wk 2) k ≤ 2
      unfold va_up
      split
      · omega
      · exact hks k
    · exact (emR_ne (hz8 k hk).2.2).trans (hz8 k hk).1
    · show emL r.L r.en r.dy m 16 k = false
      unfold emL
      rw [(hz8 k hk).2.2]
      simp
    · show bitn (upd r.ba m (bmask r.Bk 16) k) z = false
      by_cases e : k = m
      · rw [e, upd_at, bmask_bit r.Bk hz2]; exact (hz z hz1).2.2.1
      · rw [upd_ne' _ _ e]; exact hbar k z hz1 hz2
    · refine Nat.le_trans (lc_mono 16 (fun z _ h => ?_)) (hlc k hk)
      have h : emL r.L r.en r.dy m 16 (8 * z + k) = true := h
      unfold emL at h
      split at h
      · exact (Bool.and_eq_true_iff.mp h).1
      · exact h
  · exact ok
theorem ok_settle (ok : Ok r) : Ok (s_settle r) := by
  obtain ⟨hb16, hdy, hcs, how, hen, hix, hks, hbf, hla, hz, hz8, hbar, hwr, hlc⟩ := id ok
  refine ⟨hb16, hdy, hcs, how, hen, hix, hks, hbf, hla, fun k hk => ?_, fun k hk => ⟨(hz8 k hk).1, ?_, (hz8 k hk).2.2⟩, hbar, hwr, hlc⟩
  · have q := stA_out (cs := r.cs) (ct := r.ct) (rd := r.rd) (se := r.se) (en := r.en) (ow := r.ow) (dy := r.dy) (a := (r.go, r.ov, r.Bk, r.Cl, r.pu, r.kp, r.tw, 0)) r.b hk
    have q2 := hz k hk
    exact ⟨q.1.trans q2.1, q.2.1.trans q2.2.1, q.2.2.1.trans q2.2.2.1, q.2.2.2.trans q2.2.2.2⟩
  · have hk : 8 * r.b ≤ k := hk
    show cp r.rd r.se (8 * r.b) k = 0
    unfold cp
    rw [if_neg (by omega)]
    exact (hz8 k hk).2.1
end
/-- the state at the start -/
def r0 : RS := (0, 0, 0, 0, 0, 0, 0, 0, 0, fun _ => 0, fun _ => 0, fun _ => 0, fun _ => 0, fun _ => 0, fun _ => 0, fun _ => 0, fun _ => 0, fun _ => 0, fun _ => 0, fun _ => 0, fun _ => false, fun _ => false, fun _ => 0, fun _ => 0, fun _ => 0, fun _ => 0, fun _ => 0, fun _ => 0, fun _ => (-1), fun _ => false, fun _ => 0, fun _ => 0, fun _ => 0, fun _ => 0)
def j0R : RJ := (0, fun _ => 0, fun _ => 0, fun _ => 0, fun _ => 0, fun _ => 0, fun _ => 0, fun _ => 0, fun _ => 0)
def j0C : CJ := (fun _ _ => 0, fun _ => none, 0, fun _ => 0, fun _ => 0, fun _ => 0, fun _ => 0, fun _ => 0)
theorem okR_0 : okR j0R := ⟨fun _ => rfl, fun _ => rfl, fun _ => rfl, fun _ => rfl⟩
theorem okC_0 : okC r0 j0C := ⟨fun s hs => absurd hs (Nat.not_lt_zero s), fun _ => rfl, fun _ => rfl⟩
theorem lc_0 (m : Nat) : ∀ n, lc (fun _ => false) m n = 0
  | 0 => rfl
  | n + 1 => by rw [lc, lc_0 m n]; rfl
theorem bitn_0 {j : Nat} (h : j < 16) : bitn 0 j = false := by rw [bitn_bt (by omega)]; exact b_0 j
theorem ok_0 : Ok r0 := ⟨Nat.zero_le _, Nat.zero_le _, fun _ => Nat.zero_le _, fun _ => (by decide : 0 < 8), fun _ => (by decide : 0 < 2 ^ 30), fun _ => Nat.zero_le _, fun _ => Nat.zero_le _, fun _ => rfl, fun _ => rfl, fun _ _ => ⟨rfl, rfl, rfl, rfl⟩, fun _ _ => ⟨rfl, rfl, rfl⟩, fun _ _ _ h => bitn_0 h, fun _ => Or.inl rfl, fun m _ => by show lc (fun _ => false) m 16 ≤ 6; rw [lc_0]; exact Nat.zero_le _⟩
theorem go_r0 {D : va_G} {t : Nat → ClassId} (u : Nat → Nat) {w : va_W} (hw : w = rW t u j0R r0) : Go D w (rW t u j0R r0) := hw ▸ Go.rf
theorem go_c0 {D : va_G} {t : Nat → ClassId} {T h : Nat → Nat} {mq : Nat → Nat → Nat} {ma : Nat → Option Nat} : Go D ([(T 0, .inr (3, tO T h (nI 0) (nI 0) (nI 0) 0 0)), (T 1, .inl (t 2, 8, .inr (.inl (fun _ => 0)))), (T 2, .inl (t 4, 16, .inr (.inr (.inr (.inr (fun _ => none)))))), (T 3, .inl (t 5, 8, .inr (.inr (.inr (.inr ma))))), (T 4, .inl (t 0, 20, .inl (fun _ => 0))), (T 5, .inl (t 0, 16, .inl (fun _ => 0))), (T 6, .inl (t 0, 16, .inl (fun _ => 0))), (h 0, .inr (0, hO h 0)), (h 1, .inl (t 0, 32, .inl (fun _ => 0))), (h 2, .inl (t 0, 20, .inl (fun _ => 0))), (h 3, .inl (t 0, 256, .inl (fun _ => 0))), (h 4, .inl (t 1, 64, .inl (fun _ => 0))), (h 5, .inl (t 1, 8, .inl (fun _ => 0)))] ++ (pool (meW t mq (fun _ => 0) (fun _ => 0) (fun _ => nI 3) (fun _ _ => 0) (fun _ _ => 0) (fun _ _ => false) (fun _ _ => false) (fun _ _ => 0) (fun _ _ => 0) (fun _ _ => 0)) 8)) (cW t T h mq ma j0C r0) := by
  have ek : ∀ z, (fun _ : Nat => (0 : Int32)) z = kb 0 0 z := fun z => by rw [kb_0]
  unfold cW
  refine Go.app ?_ (Go.pl (fun k hk => me_go rfl ?_ rfl (fun z _ => ek z) (fun z _ => ek z) (fun z hz => ?_) (fun _ _ => rfl) (fun _ _ => rfl) (fun _ _ => rfl) (fun _ _ => rfl)))
  · refine Go.cons Ge.rf (Go.cons Ge.rf (Go.cons Ge.rf (Go.cons Ge.rf (Go.cons Ge.rf (Go.cons (Ge.arr (fun z _ => ek z)) (Go.cons (Ge.arr (fun z _ => ek z)) (Go.cons Ge.rf (Go.cons Ge.rf (Go.cons Ge.rf (Go.cons Ge.rf (Go.cons Ge.rf (Go.cons Ge.rf Go.nil))))))))))))
  · exact (lc_0 k 16).symm
  · exact (bitn_0 hz).symm
