/-! the reference's methods over the state -/
set_option maxHeartbeats 1000000 in
set_option maxRecDepth 100000 in
theorem rf_newWeek (l : Launch) (D : va_G) (t : Nat → ClassId) (x : Nat → Nat) (a : Nat → Nat) (j : RJ) (r : RS) (one two : Int64) (ok : Ok r) (hj : okR j) : Ct l D t x yX4_newWeek wsX4_newWeek r_X4_newWeek [.ref (a 0), .long one, .long two] (rW t a j r) RJ okR (fun _ => some (.int (nI (r.wk + 1)))) (fun j9 => rW t a j9 (s_newWeek r one two)) 0 0 := by
  obtain ⟨hb16, hdy, hcs, how, hen, hix, hks, hbf, hla, hz, hz8, hbar, hwr, hlc⟩ := id ok
  have hc := c_X4_newWeek l D t x a j.th (nI r.dy) r.kp r.tw (nI r.wk) r.k1 r.k2 r.o1 r.o2 (nI r.b) one two
  rw [nI_add] at hc
  refine ct_go (ct_fr (wr := [(a 1, .inl (t 1, 64, .inl k_cu)), (a 2, .inl (t 1, 8, .inl k_sq)), (a 3, .inl (t 0, 448, .inl j.row)), (a 4, .inl (t 1, 64, .inl j.w)), (a 5, .inl (t 1, 8, .inl j.hh)), (a 6, .inl (t 1, 8, .inl j.nw)), (a 7, .inl (t 0, 32, .inl j.hs)), (a 8, .inl (t 0, 20, .inl j.cn)), (a 9, .inl (t 0, 32, .inl j.cd)), (a 10, .inl (t 0, 204, .inl j.lt)), (a 11, .inl (t 0, 20, .inl r.bf)), (a 12, .inl (t 2, 8, .inr (.inl r.pu))), (a 13, .inl (t 1, 16, .inl (fun j9 => nI (r.ow j9)))), (a 14, .inl (t 1, 16, .inl (fun j9 => nI (r.cs j9)))), (a 15, .inl (t 1, 16, .inl r.ct)), (a 16, .inl (t 1, 16, .inl r.st)), (a 17, .inl (t 2, 16, .inr (.inl r.sds))), (a 18, .inl (t 1, 16, .inl (fun j9 => nI (r.en j9)))), (a 19, .inl (t 2, 16, .inr (.inl r.wo))), (a 20, .inl (t 2, 16, .inr (.inl r.wt))), (a 21, .inl (t 1, 16, .inl r.go)), (a 22, .inl (t 1, 16, .inl r.ov)), (a 23, .inl (t 3, 16, .inl (fun j9 => bI (r.Bk j9)))), (a 24, .inl (t 3, 16, .inl (fun j9 => bI (r.Cl j9)))), (a 25, .inl (t 1, 128, .inl r.rd)), (a 26, .inl (t 1, 128, .inl r.se)), (a 27, .inl (t 1, 8, .inl (fun j9 => nI (r.ks j9)))), (a 28, .inl (t 2, 16, .inr (.inl r.mm1))), (a 29, .inl (t 2, 16, .inr (.inl r.mm2))), (a 30, .inl (t 1, 8, .inl r.ba)), (a 31, .inl (t 1, 8, .inl r.wr)), (a 32, .inl (t 3, 128, .inl (fun j9 => bI (r.L j9)))), (a 33, .inl (t 1, 128, .inl (fun j9 => nI (r.ix j9)))), (a 34, .inl (t 0, 2560, .inl r.la)), (a 35, .inl (t 1, 128, .inl r.mi))]) hc) (Go.pm (pm_ix 36 [0, 1, 2, 3, 4, 5, 6, 7, 8, 9, 10, 11, 12, 13, 14, 15, 16, 17, 18, 19, 20, 21, 22, 23, 24, 25, 26, 27, 28, 29, 30, 31, 32, 33, 34, 35] (by decide) rfl rfl)) (fun u hu => ?_)
  exact ⟨(nI 0, j.row, j.w, j.hh, j.nw, j.hs, j.cn, j.cd, j.lt), hj, rfl, Go.pm (pm_ix 36 [0, 1, 2, 3, 4, 5, 6, 7, 8, 9, 10, 11, 12, 13, 14, 15, 16, 17, 18, 19, 20, 21, 22, 23, 24, 25, 26, 27, 28, 29, 30, 31, 32, 33, 34, 35] (by decide) rfl rfl)⟩
set_option maxHeartbeats 1000000 in
set_option maxRecDepth 100000 in
theorem rf_today (l : Launch) (D : va_G) (t : Nat → ClassId) (x : Nat → Nat) (a : Nat → Nat) (j : RJ) (r : RS) (p0 : Int32) (ok : Ok r) (hj : okR j) : Ct l D t x yX4_today wsX4_today r_X4_today [.ref (a 0), .int p0] (rW t a j r) RJ okR (fun _ => some (.int (bI (v_today r p0)))) (fun j9 => rW t a j9 (s_today r p0)) 0 0 := by
  obtain ⟨hb16, hdy, hcs, how, hen, hix, hks, hbf, hla, hz, hz8, hbar, hwr, hlc⟩ := id ok
  have hc := c_X4_today l D t x a j.th (nI r.dy) r.kp r.tw (nI r.wk) r.k1 r.k2 r.o1 r.o2 (nI r.b) p0 r.mi
  refine ct_go (ct_fr (wr := [(a 1, .inl (t 1, 64, .inl k_cu)), (a 2, .inl (t 1, 8, .inl k_sq)), (a 3, .inl (t 0, 448, .inl j.row)), (a 4, .inl (t 1, 64, .inl j.w)), (a 5, .inl (t 1, 8, .inl j.hh)), (a 6, .inl (t 1, 8, .inl j.nw)), (a 7, .inl (t 0, 32, .inl j.hs)), (a 8, .inl (t 0, 20, .inl j.cn)), (a 9, .inl (t 0, 32, .inl j.cd)), (a 10, .inl (t 0, 204, .inl j.lt)), (a 11, .inl (t 0, 20, .inl r.bf)), (a 12, .inl (t 2, 8, .inr (.inl r.pu))), (a 13, .inl (t 1, 16, .inl (fun j9 => nI (r.ow j9)))), (a 14, .inl (t 1, 16, .inl (fun j9 => nI (r.cs j9)))), (a 15, .inl (t 1, 16, .inl r.ct)), (a 16, .inl (t 1, 16, .inl r.st)), (a 17, .inl (t 2, 16, .inr (.inl r.sds))), (a 18, .inl (t 1, 16, .inl (fun j9 => nI (r.en j9)))), (a 19, .inl (t 2, 16, .inr (.inl r.wo))), (a 20, .inl (t 2, 16, .inr (.inl r.wt))), (a 21, .inl (t 1, 16, .inl r.go)), (a 22, .inl (t 1, 16, .inl r.ov)), (a 23, .inl (t 3, 16, .inl (fun j9 => bI (r.Bk j9)))), (a 24, .inl (t 3, 16, .inl (fun j9 => bI (r.Cl j9)))), (a 25, .inl (t 1, 128, .inl r.rd)), (a 26, .inl (t 1, 128, .inl r.se)), (a 27, .inl (t 1, 8, .inl (fun j9 => nI (r.ks j9)))), (a 28, .inl (t 2, 16, .inr (.inl r.mm1))), (a 29, .inl (t 2, 16, .inr (.inl r.mm2))), (a 30, .inl (t 1, 8, .inl r.ba)), (a 31, .inl (t 1, 8, .inl r.wr)), (a 32, .inl (t 3, 128, .inl (fun j9 => bI (r.L j9)))), (a 33, .inl (t 1, 128, .inl (fun j9 => nI (r.ix j9)))), (a 34, .inl (t 0, 2560, .inl r.la))]) hc) (Go.pm (pm_ix 36 [0, 35, 1, 2, 3, 4, 5, 6, 7, 8, 9, 10, 11, 12, 13, 14, 15, 16, 17, 18, 19, 20, 21, 22, 23, 24, 25, 26, 27, 28, 29, 30, 31, 32, 33, 34] (by decide) rfl rfl)) (fun u hu => ?_)
  obtain ⟨b1, d1, mi1⟩ := u
  have hu : (b1 = false ∧ (p0 < nI r.dy ∨ nI 1000000 < p0) ∧ d1 = nI r.dy ∧ mi1 = r.mi) ∨ (b1 = true ∧ ¬ p0 < nI r.dy ∧ ¬ nI 1000000 < p0 ∧ d1 = p0 ∧ ((nI r.dy < p0 ∧ ∀ j, j < 128 → mi1 j = nI 0) ∨ (¬ nI r.dy < p0 ∧ mi1 = r.mi))) := hu
  rcases hu with ⟨h0, h1, h2, h3⟩ | ⟨h0, h1, h2, h3, h4⟩
  · have ev : v_today r p0 = false := by unfold v_today; rw [decide_eq_true h1]; rfl
    refine ⟨(nI 0, j.row, j.w, j.hh, j.nw, j.hs, j.cn, j.cd, j.lt), hj, by show some (Value.int (bI (v_today r p0))) = some (Value.int (bI b1)); rw [ev, h0], ?_⟩
    show Go D _ (rW t a (nI 0, j.row, j.w, j.hh, j.nw, j.hs, j.cn, j.cd, j.lt) (s_today r p0))
    rw [s_today, if_neg (by rw [ev]; decide)]
    subst d1; subst mi1
    exact Go.pm (pm_ix 36 [0, 2, 3, 4, 5, 6, 7, 8, 9, 10, 11, 12, 13, 14, 15, 16, 17, 18, 19, 20, 21, 22, 23, 24, 25, 26, 27, 28, 29, 30, 31, 32, 33, 34, 35, 1] (by decide) rfl rfl)
  · have ev : v_today r p0 = true := by unfold v_today; rw [decide_eq_false (fun q => q.elim h1 h2)]; rfl
    have e0 : nI (cN p0) = p0 := cN_of (fun q => h1 (Int32.lt_of_lt_of_le q (nI_pos' (by omega))))
    refine ⟨(nI 0, j.row, j.w, j.hh, j.nw, j.hs, j.cn, j.cd, j.lt), hj, by show some (Value.int (bI (v_today r p0))) = some (Value.int (bI b1)); rw [ev, h0], ?_⟩
    show Go D _ (rW t a (nI 0, j.row, j.w, j.hh, j.nw, j.hs, j.cn, j.cd, j.lt) (s_today r p0))
    rw [s_today, if_pos ev]
    subst d1
    refine Go.tr (w' := [(a 0, .inr (4, mO a (nI 0) (nI (cN p0)) r.kp r.tw (nI r.wk) r.k1 r.k2 r.o1 r.o2 (nI r.b))), (a 35, .inl (t 1, 128, .inl (if nI r.dy < p0 then fun _ => nI 0 else r.mi)))] ++ _) (Go.app (Go.cons (Ge.eq (by rw [e0])) (Go.cons (Ge.arr (fun j hj => ?_)) Go.nil)) Go.rf) (Go.pm (pm_ix 36 [0, 2, 3, 4, 5, 6, 7, 8, 9, 10, 11, 12, 13, 14, 15, 16, 17, 18, 19, 20, 21, 22, 23, 24, 25, 26, 27, 28, 29, 30, 31, 32, 33, 34, 35, 1] (by decide) rfl rfl))
    rcases h4 with ⟨h5, h6⟩ | ⟨h5, h6⟩
    · rw [if_pos h5]; exact h6 j hj
    · rw [if_neg h5]; exact congrFun h6 j
set_option maxHeartbeats 1000000 in
set_option maxRecDepth 100000 in
theorem rf_money (l : Launch) (D : va_G) (t : Nat → ClassId) (x : Nat → Nat) (a : Nat → Nat) (j : RJ) (r : RS) (p0 : Int32) (c9 : Int64) (ok : Ok r) (hj : okR j) : Ct l D t x yX4_money wsX4_money r_X4_money [.ref (a 0), .int p0, .long c9] (rW t a j r) RJ okR (fun _ => some (.int (bI (monf p0 c9)))) (fun j9 => rW t a j9 (s_money r p0 c9)) 0 0 := by
  obtain ⟨hb16, hdy, hcs, how, hen, hix, hks, hbf, hla, hz, hz8, hbar, hwr, hlc⟩ := id ok
  have hc := c_X4_money l D t x a j.th (nI r.dy) r.kp r.tw (nI r.wk) r.k1 r.k2 r.o1 r.o2 (nI r.b) p0 c9 r.pu
  refine ct_go (ct_fr (wr := [(a 1, .inl (t 1, 64, .inl k_cu)), (a 2, .inl (t 1, 8, .inl k_sq)), (a 3, .inl (t 0, 448, .inl j.row)), (a 4, .inl (t 1, 64, .inl j.w)), (a 5, .inl (t 1, 8, .inl j.hh)), (a 6, .inl (t 1, 8, .inl j.nw)), (a 7, .inl (t 0, 32, .inl j.hs)), (a 8, .inl (t 0, 20, .inl j.cn)), (a 9, .inl (t 0, 32, .inl j.cd)), (a 10, .inl (t 0, 204, .inl j.lt)), (a 11, .inl (t 0, 20, .inl r.bf)), (a 13, .inl (t 1, 16, .inl (fun j9 => nI (r.ow j9)))), (a 14, .inl (t 1, 16, .inl (fun j9 => nI (r.cs j9)))), (a 15, .inl (t 1, 16, .inl r.ct)), (a 16, .inl (t 1, 16, .inl r.st)), (a 17, .inl (t 2, 16, .inr (.inl r.sds))), (a 18, .inl (t 1, 16, .inl (fun j9 => nI (r.en j9)))), (a 19, .inl (t 2, 16, .inr (.inl r.wo))), (a 20, .inl (t 2, 16, .inr (.inl r.wt))), (a 21, .inl (t 1, 16, .inl r.go)), (a 22, .inl (t 1, 16, .inl r.ov)), (a 23, .inl (t 3, 16, .inl (fun j9 => bI (r.Bk j9)))), (a 24, .inl (t 3, 16, .inl (fun j9 => bI (r.Cl j9)))), (a 25, .inl (t 1, 128, .inl r.rd)), (a 26, .inl (t 1, 128, .inl r.se)), (a 27, .inl (t 1, 8, .inl (fun j9 => nI (r.ks j9)))), (a 28, .inl (t 2, 16, .inr (.inl r.mm1))), (a 29, .inl (t 2, 16, .inr (.inl r.mm2))), (a 30, .inl (t 1, 8, .inl r.ba)), (a 31, .inl (t 1, 8, .inl r.wr)), (a 32, .inl (t 3, 128, .inl (fun j9 => bI (r.L j9)))), (a 33, .inl (t 1, 128, .inl (fun j9 => nI (r.ix j9)))), (a 34, .inl (t 0, 2560, .inl r.la)), (a 35, .inl (t 1, 128, .inl r.mi))]) hc) (Go.pm (pm_ix 36 [0, 12, 1, 2, 3, 4, 5, 6, 7, 8, 9, 10, 11, 13, 14, 15, 16, 17, 18, 19, 20, 21, 22, 23, 24, 25, 26, 27, 28, 29, 30, 31, 32, 33, 34, 35] (by decide) rfl rfl)) (fun u hu => ?_)
  obtain ⟨b1, pu1⟩ := u
  obtain ⟨h0, h1⟩ := hu
  dsimp only at h0 h1
  refine ⟨(nI 0, j.row, j.w, j.hh, j.nw, j.hs, j.cn, j.cd, j.lt), hj, by show some (Value.int (bI (monf p0 c9))) = some (Value.int (bI b1)); rw [h0], ?_⟩
  show Go D _ (rW t a (nI 0, j.row, j.w, j.hh, j.nw, j.hs, j.cn, j.cd, j.lt) (s_money r p0 c9))
  rcases h1 with ⟨h2, h3⟩ | ⟨h2, k, hk, h4, h3⟩
  · rw [s_money, if_neg (by rw [← h0, h2]; decide)]
    subst pu1
    exact Go.pm (pm_ix 36 [0, 2, 3, 4, 5, 6, 7, 8, 9, 10, 11, 12, 1, 13, 14, 15, 16, 17, 18, 19, 20, 21, 22, 23, 24, 25, 26, 27, 28, 29, 30, 31, 32, 33, 34, 35] (by decide) rfl rfl)
  · have e0 : cN p0 = k := by rw [h4]; exact cN_nI (by omega)
    rw [s_money, if_pos (by rw [← h0, h2])]
    subst pu1; subst k
    exact Go.pm (pm_ix 36 [0, 2, 3, 4, 5, 6, 7, 8, 9, 10, 11, 12, 1, 13, 14, 15, 16, 17, 18, 19, 20, 21, 22, 23, 24, 25, 26, 27, 28, 29, 30, 31, 32, 33, 34, 35] (by decide) rfl rfl)
set_option maxHeartbeats 1000000 in
set_option maxRecDepth 100000 in
theorem rf_buyY (l : Launch) (D : va_G) (t : Nat → ClassId) (x : Nat → Nat) (a : Nat → Nat) (j : RJ) (r : RS) (p0 p1 p2 p3 : Int32) (p4 : Int64) (p5 : Int32) (ok : Ok r) (hj : okR j) (hwk : r.wk < 2 ^ 30) (hv : buyv p0 p1 p2 p3 p5 r.wk r.b r.pu) : Ct l D t x yX4_buy wsX4_buy r_X4_buy [.ref (a 0), .int p0, .int p1, .int p2, .int p3, .long p4, .int p5] (rW t a j r) RJ okR (fun _ => some (.int (nI r.b))) (fun j9 => rW t a j9 (s_buy r p0 p1 p2 p3 p4 p5)) 0 0 := by
  obtain ⟨hb16, hdy, hcs, how, hen, hix, hks, hbf, hla, hz, hz8, hbar, hwr, hlc⟩ := id ok
  have hc := c_X4_buy l D t x a j.th r.kp r.tw r.k1 r.k2 r.o1 r.o2 r.wk r.dy r.b r.pu r.ow r.cs r.ct r.st r.sds r.en r.wo r.wt p0 p1 p2 p3 p4 p5 hb16 hwk hdy
  refine ct_go (ct_fr (wr := [(a 1, .inl (t 1, 64, .inl k_cu)), (a 2, .inl (t 1, 8, .inl k_sq)), (a 3, .inl (t 0, 448, .inl j.row)), (a 4, .inl (t 1, 64, .inl j.w)), (a 5, .inl (t 1, 8, .inl j.hh)), (a 6, .inl (t 1, 8, .inl j.nw)), (a 7, .inl (t 0, 32, .inl j.hs)), (a 8, .inl (t 0, 20, .inl j.cn)), (a 9, .inl (t 0, 32, .inl j.cd)), (a 10, .inl (t 0, 204, .inl j.lt)), (a 11, .inl (t 0, 20, .inl r.bf)), (a 21, .inl (t 1, 16, .inl r.go)), (a 22, .inl (t 1, 16, .inl r.ov)), (a 23, .inl (t 3, 16, .inl (fun j9 => bI (r.Bk j9)))), (a 24, .inl (t 3, 16, .inl (fun j9 => bI (r.Cl j9)))), (a 25, .inl (t 1, 128, .inl r.rd)), (a 26, .inl (t 1, 128, .inl r.se)), (a 27, .inl (t 1, 8, .inl (fun j9 => nI (r.ks j9)))), (a 28, .inl (t 2, 16, .inr (.inl r.mm1))), (a 29, .inl (t 2, 16, .inr (.inl r.mm2))), (a 30, .inl (t 1, 8, .inl r.ba)), (a 31, .inl (t 1, 8, .inl r.wr)), (a 32, .inl (t 3, 128, .inl (fun j9 => bI (r.L j9)))), (a 33, .inl (t 1, 128, .inl (fun j9 => nI (r.ix j9)))), (a 34, .inl (t 0, 2560, .inl r.la)), (a 35, .inl (t 1, 128, .inl r.mi))]) hc) (Go.pm (pm_ix 36 [0, 12, 13, 14, 15, 16, 17, 18, 19, 20, 1, 2, 3, 4, 5, 6, 7, 8, 9, 10, 11, 21, 22, 23, 24, 25, 26, 27, 28, 29, 30, 31, 32, 33, 34, 35] (by decide) rfl rfl)) (fun u hu => ?_)
  rcases hu with ⟨h0, hu⟩ | ⟨h0, hu⟩
  · exact absurd hv h0
  · obtain ⟨v1, b1, kp1, pu1, ow1, cs1, ct1, st1, sds1, en1, wo1, wt1⟩ := u
    dsimp only at hu
    obtain ⟨ev1, eb1, ekp1, epu1, eow1, ecs1, ect1, est1, esds1, een1, ewo1, ewt1⟩ := hu
    subst v1 b1 kp1 pu1 ow1 cs1 ct1 st1 sds1 en1 wo1 wt1
    exact ⟨(nI 0, j.row, j.w, j.hh, j.nw, j.hs, j.cn, j.cd, j.lt), hj, rfl, Go.pm (pm_ix 36 [0, 10, 11, 12, 13, 14, 15, 16, 17, 18, 19, 20, 1, 2, 3, 4, 5, 6, 7, 8, 9, 21, 22, 23, 24, 25, 26, 27, 28, 29, 30, 31, 32, 33, 34, 35] (by decide) rfl rfl)⟩
set_option maxHeartbeats 1000000 in
set_option maxRecDepth 100000 in
theorem rf_buyN (l : Launch) (D : va_G) (t : Nat → ClassId) (x : Nat → Nat) (a : Nat → Nat) (j : RJ) (r : RS) (p0 p1 p2 p3 : Int32) (p4 : Int64) (p5 : Int32) (ok : Ok r) (hj : okR j) (hwk : r.wk < 2 ^ 30) (hv : ¬ buyv p0 p1 p2 p3 p5 r.wk r.b r.pu) : Ct l D t x yX4_buy wsX4_buy r_X4_buy [.ref (a 0), .int p0, .int p1, .int p2, .int p3, .long p4, .int p5] (rW t a j r) RJ okR (fun _ => some (.int (-1))) (fun j9 => rW t a j9 (r)) 0 0 := by
  obtain ⟨hb16, hdy, hcs, how, hen, hix, hks, hbf, hla, hz, hz8, hbar, hwr, hlc⟩ := id ok
  have hc := c_X4_buy l D t x a j.th r.kp r.tw r.k1 r.k2 r.o1 r.o2 r.wk r.dy r.b r.pu r.ow r.cs r.ct r.st r.sds r.en r.wo r.wt p0 p1 p2 p3 p4 p5 hb16 hwk hdy
  refine ct_go (ct_fr (wr := [(a 1, .inl (t 1, 64, .inl k_cu)), (a 2, .inl (t 1, 8, .inl k_sq)), (a 3, .inl (t 0, 448, .inl j.row)), (a 4, .inl (t 1, 64, .inl j.w)), (a 5, .inl (t 1, 8, .inl j.hh)), (a 6, .inl (t 1, 8, .inl j.nw)), (a 7, .inl (t 0, 32, .inl j.hs)), (a 8, .inl (t 0, 20, .inl j.cn)), (a 9, .inl (t 0, 32, .inl j.cd)), (a 10, .inl (t 0, 204, .inl j.lt)), (a 11, .inl (t 0, 20, .inl r.bf)), (a 21, .inl (t 1, 16, .inl r.go)), (a 22, .inl (t 1, 16, .inl r.ov)), (a 23, .inl (t 3, 16, .inl (fun j9 => bI (r.Bk j9)))), (a 24, .inl (t 3, 16, .inl (fun j9 => bI (r.Cl j9)))), (a 25, .inl (t 1, 128, .inl r.rd)), (a 26, .inl (t 1, 128, .inl r.se)), (a 27, .inl (t 1, 8, .inl (fun j9 => nI (r.ks j9)))), (a 28, .inl (t 2, 16, .inr (.inl r.mm1))), (a 29, .inl (t 2, 16, .inr (.inl r.mm2))), (a 30, .inl (t 1, 8, .inl r.ba)), (a 31, .inl (t 1, 8, .inl r.wr)), (a 32, .inl (t 3, 128, .inl (fun j9 => bI (r.L j9)))), (a 33, .inl (t 1, 128, .inl (fun j9 => nI (r.ix j9)))), (a 34, .inl (t 0, 2560, .inl r.la)), (a 35, .inl (t 1, 128, .inl r.mi))]) hc) (Go.pm (pm_ix 36 [0, 12, 13, 14, 15, 16, 17, 18, 19, 20, 1, 2, 3, 4, 5, 6, 7, 8, 9, 10, 11, 21, 22, 23, 24, 25, 26, 27, 28, 29, 30, 31, 32, 33, 34, 35] (by decide) rfl rfl)) (fun u hu => ?_)
  rcases hu with ⟨h0, hu⟩ | ⟨h0, hu⟩
  · skip
    obtain ⟨v1, b1, kp1, pu1, ow1, cs1, ct1, st1, sds1, en1, wo1, wt1⟩ := u
    dsimp only at hu
    obtain ⟨ev1, eb1, ekp1, epu1, eow1, ecs1, ect1, est1, esds1, een1, ewo1, ewt1⟩ := hu
    subst v1 b1 kp1 pu1 ow1 cs1 ct1 st1 sds1 en1 wo1 wt1
    exact ⟨(nI 0, j.row, j.w, j.hh, j.nw, j.hs, j.cn, j.cd, j.lt), hj, rfl, Go.pm (pm_ix 36 [0, 10, 11, 12, 13, 14, 15, 16, 17, 18, 19, 20, 1, 2, 3, 4, 5, 6, 7, 8, 9, 21, 22, 23, 24, 25, 26, 27, 28, 29, 30, 31, 32, 33, 34, 35] (by decide) rfl rfl)⟩
  · exact absurd h0 hv
set_option maxHeartbeats 1000000 in
set_option maxRecDepth 100000 in
theorem rf_insert (l : Launch) (D : va_G) (t : Nat → ClassId) (x : Nat → Nat) (a : Nat → Nat) (j : RJ) (r : RS) (p0 p1 : Int32) (ok : Ok r) (hj : okR j) : Ct l D t x yX4_insert wsX4_insert r_X4_insert [.ref (a 0), .int p0, .int p1] (rW t a j r) RJ okR (fun _ => some (.int (v_ins r p0 p1))) (fun j9 => rW t a j9 (s_ins r p0 p1)) 0 0 := by
  obtain ⟨hb16, hdy, hcs, how, hen, hix, hks, hbf, hla, hz, hz8, hbar, hwr, hlc⟩ := id ok
  have hc := c_X4_insert l D t x a j.th (nI r.dy) r.kp r.tw (nI r.wk) r.k1 r.k2 r.o1 r.o2 r.b j.row j.w j.hh j.nw j.hs j.cn j.cd j.lt r.ct (fun j9 => nI (r.en j9)) r.st r.cs r.sds r.wo r.wt r.ks r.mm1 r.mm2 r.L r.ix r.la r.ba r.wr p0 p1 hb16 hj.1 hj.2.1 hj.2.2.1 hj.2.2.2 (fun j _ => hcs j) hla (fun j _ => hks j)
  refine ct_go (ct_fr (wr := [(a 11, .inl (t 0, 20, .inl r.bf)), (a 12, .inl (t 2, 8, .inr (.inl r.pu))), (a 13, .inl (t 1, 16, .inl (fun j9 => nI (r.ow j9)))), (a 21, .inl (t 1, 16, .inl r.go)), (a 22, .inl (t 1, 16, .inl r.ov)), (a 23, .inl (t 3, 16, .inl (fun j9 => bI (r.Bk j9)))), (a 24, .inl (t 3, 16, .inl (fun j9 => bI (r.Cl j9)))), (a 25, .inl (t 1, 128, .inl r.rd)), (a 26, .inl (t 1, 128, .inl r.se)), (a 35, .inl (t 1, 128, .inl r.mi))]) hc) (Go.pm (pm_ix 36 [0, 1, 2, 3, 4, 5, 6, 7, 8, 14, 17, 10, 9, 15, 18, 16, 19, 20, 27, 28, 29, 32, 33, 34, 30, 31, 11, 12, 13, 21, 22, 23, 24, 25, 26, 35] (by decide) rfl rfl)) (fun u hu => ?_)
  obtain ⟨row1, w1, hh1, nw1, hs1, cn1, cd1, lt1, v1, L1, ix1, la1, wr1⟩ := u
  obtain ⟨g1, g2, g3, g4, -, ev, hc⟩ := hu
  have ev : v1 = v_ins r p0 p1 := ev
  dsimp only at g1 g2 g3 g4 hc
  refine ⟨(nI 0, row1, w1, hh1, nw1, hs1, cn1, cd1, lt1), ⟨g1, g2, g3, g4⟩, by show some (Value.int (v_ins r p0 p1)) = some (Value.int v1); rw [ev], ?_⟩
  show Go D _ (rW t a (nI 0, row1, w1, hh1, nw1, hs1, cn1, cd1, lt1) (s_ins r p0 p1))
  rcases hc with ⟨e1, e2, e3, e4, e5⟩ | ⟨e1, e2, e3, e4, e5⟩ | ⟨e1, e0, e2, e3, e4, e5⟩
  · rw [s_ins, if_pos (ev.symm.trans e1)]
    subst L1 ix1 la1 wr1
    exact Go.pm (pm_ix 36 [0, 1, 2, 3, 4, 5, 6, 7, 8, 12, 11, 26, 27, 28, 9, 13, 15, 10, 14, 16, 17, 29, 30, 31, 32, 33, 34, 18, 19, 20, 24, 25, 21, 22, 23, 35] (by decide) rfl rfl)
  · rw [s_ins, if_neg (by rw [← ev, e1]; decide), if_pos (ev.symm.trans e1)]
    subst L1 ix1 la1 wr1
    exact Go.pm (pm_ix 36 [0, 1, 2, 3, 4, 5, 6, 7, 8, 12, 11, 26, 27, 28, 9, 13, 15, 10, 14, 16, 17, 29, 30, 31, 32, 33, 34, 18, 19, 20, 24, 25, 21, 22, 23, 35] (by decide) rfl rfl)
  · rw [s_ins, if_neg (fun q => e1 (ev.trans q)), if_neg (fun q => e0 (ev.trans q))]
    subst L1 ix1 la1 wr1
    exact Go.pm (pm_ix 36 [0, 1, 2, 3, 4, 5, 6, 7, 8, 12, 11, 26, 27, 28, 9, 13, 15, 10, 14, 16, 17, 29, 30, 31, 32, 33, 34, 18, 19, 20, 24, 25, 21, 22, 23, 35] (by decide) rfl rfl)
set_option maxHeartbeats 1000000 in
set_option maxRecDepth 100000 in
theorem rf_pay (l : Launch) (D : va_G) (t : Nat → ClassId) (x : Nat → Nat) (a : Nat → Nat) (j : RJ) (r : RS) (p0 p1 p2 p3 : Int32) (ok : Ok r) (hj : okR j) : Ct l D t x yX4_pay wsX4_pay r_X4_pay [.ref (a 0), .int p0, .int p1, .int p2, .int p3] (rW t a j r) RJ okR (fun _ => some (.int (v_pay r p0 p1 p2 p3))) (fun j9 => rW t a j9 (s_pay r p0 p1 p2 p3)) 0 0 := by
  obtain ⟨hb16, hdy, hcs, how, hen, hix, hks, hbf, hla, hz, hz8, hbar, hwr, hlc⟩ := id ok
  have hc := c_X4_pay l D t x a j.th (nI r.dy) r.kp r.tw (nI r.wk) r.k1 r.k2 r.o1 r.o2 r.b j.row j.w j.hh j.nw j.hs j.cn r.bf r.ct r.wr r.la r.mi (fun j9 => nI (r.en j9)) r.cs r.sds r.ix r.L p0 p1 p2 p3 hb16 hj.1 hj.2.1 hbf hla (fun j _ => hcs j) (fun j _ => hix j)
  refine ct_go (ct_fr (wr := [(a 9, .inl (t 0, 32, .inl j.cd)), (a 10, .inl (t 0, 204, .inl j.lt)), (a 12, .inl (t 2, 8, .inr (.inl r.pu))), (a 13, .inl (t 1, 16, .inl (fun j9 => nI (r.ow j9)))), (a 16, .inl (t 1, 16, .inl r.st)), (a 19, .inl (t 2, 16, .inr (.inl r.wo))), (a 20, .inl (t 2, 16, .inr (.inl r.wt))), (a 21, .inl (t 1, 16, .inl r.go)), (a 22, .inl (t 1, 16, .inl r.ov)), (a 23, .inl (t 3, 16, .inl (fun j9 => bI (r.Bk j9)))), (a 24, .inl (t 3, 16, .inl (fun j9 => bI (r.Cl j9)))), (a 25, .inl (t 1, 128, .inl r.rd)), (a 26, .inl (t 1, 128, .inl r.se)), (a 27, .inl (t 1, 8, .inl (fun j9 => nI (r.ks j9)))), (a 28, .inl (t 2, 16, .inr (.inl r.mm1))), (a 29, .inl (t 2, 16, .inr (.inl r.mm2))), (a 30, .inl (t 1, 8, .inl r.ba))]) hc) (Go.pm (pm_ix 36 [0, 1, 2, 3, 4, 5, 6, 7, 8, 14, 17, 11, 15, 31, 34, 33, 35, 32, 18, 9, 10, 12, 13, 16, 19, 20, 21, 22, 23, 24, 25, 26, 27, 28, 29, 30] (by decide) rfl rfl)) (fun u hu => ?_)
  obtain ⟨row1, w1, hh1, nw1, hs1, cn1, v1, wr1, la1, ix1, mi1⟩ := u
  obtain ⟨g1, g2, -, ev, hc⟩ := hu
  have ev : v1 = v_pay r p0 p1 p2 p3 := ev
  dsimp only at g1 g2 hc
  refine ⟨(nI 0, row1, w1, hh1, nw1, hs1, cn1, j.cd, j.lt), ⟨g1, g2, hj.2.2.1, hj.2.2.2⟩, by show some (Value.int (v_pay r p0 p1 p2 p3)) = some (Value.int v1); rw [ev], ?_⟩
  show Go D _ (rW t a (nI 0, row1, w1, hh1, nw1, hs1, cn1, j.cd, j.lt) (s_pay r p0 p1 p2 p3))
  rw [s_pay, s_pt]
  rcases hc with ⟨h1, h2, h3, h4, e2, e3, e4, e5⟩ | ⟨h1, h2, h3, h4, e2, e3, e4, e5⟩ | ⟨h1, e2, e3, e4, e5⟩
  · have hk : okp p0 p1 p2 p3 r.b = true ∧ ant r (cN p0) (cN p1) (nI (kpy r (cN p0) (cN p1) (cN p2))) = nI 0 ∧ sbt r (cN p0) (cN p1) (kpy r (cN p0) (cN p1) (cN p2)) (cpay r (cN p0) (cN p1) (cN p2)) = true := ⟨h1, h2, h3⟩
    rw [if_pos hk, if_pos h4]
    subst wr1 la1 ix1 mi1
    exact Go.pm (pm_ix 36 [0, 1, 2, 3, 4, 5, 6, 7, 8, 19, 20, 11, 21, 22, 9, 12, 23, 10, 18, 24, 25, 26, 27, 28, 29, 30, 31, 32, 33, 34, 35, 13, 17, 15, 14, 16] (by decide) rfl rfl)
  · have hk : okp p0 p1 p2 p3 r.b = true ∧ ant r (cN p0) (cN p1) (nI (kpy r (cN p0) (cN p1) (cN p2))) = nI 0 ∧ sbt r (cN p0) (cN p1) (kpy r (cN p0) (cN p1) (cN p2)) (cpay r (cN p0) (cN p1) (cN p2)) = true := ⟨h1, h2, h3⟩
    rw [if_pos hk, if_neg (by rw [h4]; decide)]
    subst wr1 la1 ix1 mi1
    exact Go.pm (pm_ix 36 [0, 1, 2, 3, 4, 5, 6, 7, 8, 19, 20, 11, 21, 22, 9, 12, 23, 10, 18, 24, 25, 26, 27, 28, 29, 30, 31, 32, 33, 34, 35, 13, 17, 15, 14, 16] (by decide) rfl rfl)
  · have hk : ¬ (okp p0 p1 p2 p3 r.b = true ∧ ant r (cN p0) (cN p1) (nI (kpy r (cN p0) (cN p1) (cN p2))) = nI 0 ∧ sbt r (cN p0) (cN p1) (kpy r (cN p0) (cN p1) (cN p2)) (cpay r (cN p0) (cN p1) (cN p2)) = true) := h1
    rw [if_neg hk]
    subst wr1 la1 ix1 mi1
    exact Go.pm (pm_ix 36 [0, 1, 2, 3, 4, 5, 6, 7, 8, 19, 20, 11, 21, 22, 9, 12, 23, 10, 18, 24, 25, 26, 27, 28, 29, 30, 31, 32, 33, 34, 35, 13, 17, 15, 14, 16] (by decide) rfl rfl)
set_option maxHeartbeats 1000000 in
set_option maxRecDepth 100000 in
theorem rf_offer (l : Launch) (D : va_G) (t : Nat → ClassId) (x : Nat → Nat) (a : Nat → Nat) (j : RJ) (r : RS) (p0 p1 p2 p3 : Int32) (ok : Ok r) (hj : okR j) : Ct l D t x yX4_offer wsX4_offer r_X4_offer [.ref (a 0), .int p0, .int p1, .int p2, .int p3] (rW t a j r) RJ okR (fun _ => some (.int (v_offer r p0 p1 p2 p3))) (fun j9 => rW t a j9 (s_offer r p0 p1 p2 p3)) 0 0 := by
  obtain ⟨hb16, hdy, hcs, how, hen, hix, hks, hbf, hla, hz, hz8, hbar, hwr, hlc⟩ := id ok
  have hc := c_X4_offer l D t x a j.th (nI r.dy) r.kp r.tw (nI r.wk) r.k1 r.k2 r.o1 r.o2 r.b j.row j.w j.hh j.nw j.hs j.cn r.bf r.ct r.wr r.la r.mi (fun j9 => nI (r.en j9)) r.cs r.sds r.ix r.L p0 p1 p2 p3 hb16 hj.1 hj.2.1 hbf hla (fun j _ => hcs j) (fun j _ => hix j)
  refine ct_go (ct_fr (wr := [(a 9, .inl (t 0, 32, .inl j.cd)), (a 10, .inl (t 0, 204, .inl j.lt)), (a 12, .inl (t 2, 8, .inr (.inl r.pu))), (a 13, .inl (t 1, 16, .inl (fun j9 => nI (r.ow j9)))), (a 16, .inl (t 1, 16, .inl r.st)), (a 19, .inl (t 2, 16, .inr (.inl r.wo))), (a 20, .inl (t 2, 16, .inr (.inl r.wt))), (a 21, .inl (t 1, 16, .inl r.go)), (a 22, .inl (t 1, 16, .inl r.ov)), (a 23, .inl (t 3, 16, .inl (fun j9 => bI (r.Bk j9)))), (a 24, .inl (t 3, 16, .inl (fun j9 => bI (r.Cl j9)))), (a 25, .inl (t 1, 128, .inl r.rd)), (a 26, .inl (t 1, 128, .inl r.se)), (a 27, .inl (t 1, 8, .inl (fun j9 => nI (r.ks j9)))), (a 28, .inl (t 2, 16, .inr (.inl r.mm1))), (a 29, .inl (t 2, 16, .inr (.inl r.mm2))), (a 30, .inl (t 1, 8, .inl r.ba))]) hc) (Go.pm (pm_ix 36 [0, 1, 2, 3, 4, 5, 6, 7, 8, 14, 17, 11, 15, 31, 34, 33, 35, 32, 18, 9, 10, 12, 13, 16, 19, 20, 21, 22, 23, 24, 25, 26, 27, 28, 29, 30] (by decide) rfl rfl)) (fun u hu => ?_)
  obtain ⟨row1, w1, hh1, nw1, hs1, cn1, v1, wr1, la1, ix1, mi1⟩ := u
  obtain ⟨g1, g2, -, ev, hc⟩ := hu
  have ev : v1 = v_offer r p0 p1 p2 p3 := ev
  dsimp only at g1 g2 hc
  refine ⟨(nI 0, row1, w1, hh1, nw1, hs1, cn1, j.cd, j.lt), ⟨g1, g2, hj.2.2.1, hj.2.2.2⟩, by show some (Value.int (v_offer r p0 p1 p2 p3)) = some (Value.int v1); rw [ev], ?_⟩
  show Go D _ (rW t a (nI 0, row1, w1, hh1, nw1, hs1, cn1, j.cd, j.lt) (s_offer r p0 p1 p2 p3))
  rw [s_offer, s_pt]
  rcases hc with ⟨h1, h2, h3, h4, e2, e3, e4, e5⟩ | ⟨h1, h2, h3, h4, e2, e3, e4, e5⟩ | ⟨h1, e2, e3, e4, e5⟩
  · have hk : oko p0 p1 p3 r.b = true ∧ ant r (cN p0) (cN p1) p2 = nI 0 ∧ sbt r (cN p0) (cN p1) (cN p2) r.bf = true := ⟨h1, h2, h3⟩
    rw [if_pos hk, if_pos h4]
    subst wr1 la1 ix1 mi1
    exact Go.pm (pm_ix 36 [0, 1, 2, 3, 4, 5, 6, 7, 8, 19, 20, 11, 21, 22, 9, 12, 23, 10, 18, 24, 25, 26, 27, 28, 29, 30, 31, 32, 33, 34, 35, 13, 17, 15, 14, 16] (by decide) rfl rfl)
  · have hk : oko p0 p1 p3 r.b = true ∧ ant r (cN p0) (cN p1) p2 = nI 0 ∧ sbt r (cN p0) (cN p1) (cN p2) r.bf = true := ⟨h1, h2, h3⟩
    rw [if_pos hk, if_neg (by rw [h4]; decide)]
    subst wr1 la1 ix1 mi1
    exact Go.pm (pm_ix 36 [0, 1, 2, 3, 4, 5, 6, 7, 8, 19, 20, 11, 21, 22, 9, 12, 23, 10, 18, 24, 25, 26, 27, 28, 29, 30, 31, 32, 33, 34, 35, 13, 17, 15, 14, 16] (by decide) rfl rfl)
  · have hk : ¬ (oko p0 p1 p3 r.b = true ∧ ant r (cN p0) (cN p1) p2 = nI 0 ∧ sbt r (cN p0) (cN p1) (cN p2) r.bf = true) := h1
    rw [if_neg hk]
    subst wr1 la1 ix1 mi1
    exact Go.pm (pm_ix 36 [0, 1, 2, 3, 4, 5, 6, 7, 8, 19, 20, 11, 21, 22, 9, 12, 23, 10, 18, 24, 25, 26, 27, 28, 29, 30, 31, 32, 33, 34, 35, 13, 17, 15, 14, 16] (by decide) rfl rfl)
set_option maxHeartbeats 1000000 in
set_option maxRecDepth 100000 in
theorem rf_poke (l : Launch) (D : va_G) (t : Nat → ClassId) (x : Nat → Nat) (a : Nat → Nat) (j : RJ) (r : RS) (p0 p1 : Int32) (ok : Ok r) (hj : okR j) : Ct l D t x yX4_poke wsX4_poke r_X4_poke [.ref (a 0), .int p0, .int p1] (rW t a j r) RJ okR (fun _ => some (.int (bI (wi p0 (nI 0) (nI 19))))) (fun j9 => rW t a j9 (s_poke r p0 p1)) 0 0 := by
  obtain ⟨hb16, hdy, hcs, how, hen, hix, hks, hbf, hla, hz, hz8, hbar, hwr, hlc⟩ := id ok
  have hc := c_X4_poke l D t x a j.th (nI r.dy) r.kp r.tw (nI r.wk) r.k1 r.k2 r.o1 r.o2 (nI r.b) p0 p1 r.bf hbf
  refine ct_go (ct_fr (wr := [(a 1, .inl (t 1, 64, .inl k_cu)), (a 2, .inl (t 1, 8, .inl k_sq)), (a 3, .inl (t 0, 448, .inl j.row)), (a 4, .inl (t 1, 64, .inl j.w)), (a 5, .inl (t 1, 8, .inl j.hh)), (a 6, .inl (t 1, 8, .inl j.nw)), (a 7, .inl (t 0, 32, .inl j.hs)), (a 8, .inl (t 0, 20, .inl j.cn)), (a 9, .inl (t 0, 32, .inl j.cd)), (a 10, .inl (t 0, 204, .inl j.lt)), (a 12, .inl (t 2, 8, .inr (.inl r.pu))), (a 13, .inl (t 1, 16, .inl (fun j9 => nI (r.ow j9)))), (a 14, .inl (t 1, 16, .inl (fun j9 => nI (r.cs j9)))), (a 15, .inl (t 1, 16, .inl r.ct)), (a 16, .inl (t 1, 16, .inl r.st)), (a 17, .inl (t 2, 16, .inr (.inl r.sds))), (a 18, .inl (t 1, 16, .inl (fun j9 => nI (r.en j9)))), (a 19, .inl (t 2, 16, .inr (.inl r.wo))), (a 20, .inl (t 2, 16, .inr (.inl r.wt))), (a 21, .inl (t 1, 16, .inl r.go)), (a 22, .inl (t 1, 16, .inl r.ov)), (a 23, .inl (t 3, 16, .inl (fun j9 => bI (r.Bk j9)))), (a 24, .inl (t 3, 16, .inl (fun j9 => bI (r.Cl j9)))), (a 25, .inl (t 1, 128, .inl r.rd)), (a 26, .inl (t 1, 128, .inl r.se)), (a 27, .inl (t 1, 8, .inl (fun j9 => nI (r.ks j9)))), (a 28, .inl (t 2, 16, .inr (.inl r.mm1))), (a 29, .inl (t 2, 16, .inr (.inl r.mm2))), (a 30, .inl (t 1, 8, .inl r.ba)), (a 31, .inl (t 1, 8, .inl r.wr)), (a 32, .inl (t 3, 128, .inl (fun j9 => bI (r.L j9)))), (a 33, .inl (t 1, 128, .inl (fun j9 => nI (r.ix j9)))), (a 34, .inl (t 0, 2560, .inl r.la)), (a 35, .inl (t 1, 128, .inl r.mi))]) hc) (Go.pm (pm_ix 36 [0, 11, 1, 2, 3, 4, 5, 6, 7, 8, 9, 10, 12, 13, 14, 15, 16, 17, 18, 19, 20, 21, 22, 23, 24, 25, 26, 27, 28, 29, 30, 31, 32, 33, 34, 35] (by decide) rfl rfl)) (fun u hu => ?_)
  obtain ⟨b1, bf1⟩ := u
  obtain ⟨h0, -, h1⟩ := hu
  dsimp only at h0 h1
  refine ⟨(nI 0, j.row, j.w, j.hh, j.nw, j.hs, j.cn, j.cd, j.lt), hj, by show some (Value.int (bI (wi p0 (nI 0) (nI 19)))) = some (Value.int (bI b1)); rw [h0], ?_⟩
  show Go D _ (rW t a (nI 0, j.row, j.w, j.hh, j.nw, j.hs, j.cn, j.cd, j.lt) (s_poke r p0 p1))
  rcases h1 with ⟨h2, h3⟩ | ⟨h2, k, hk, h4, h3⟩
  · rw [s_poke, if_neg (by rw [← h0, h2]; decide)]
    subst bf1
    exact Go.pm (pm_ix 36 [0, 2, 3, 4, 5, 6, 7, 8, 9, 10, 11, 1, 12, 13, 14, 15, 16, 17, 18, 19, 20, 21, 22, 23, 24, 25, 26, 27, 28, 29, 30, 31, 32, 33, 34, 35] (by decide) rfl rfl)
  · have e0 : cN p0 = k := by rw [h4]; exact cN_nI (by omega)
    rw [s_poke, if_pos (by rw [← h0, h2])]
    subst bf1; subst k
    exact Go.pm (pm_ix 36 [0, 2, 3, 4, 5, 6, 7, 8, 9, 10, 11, 1, 12, 13, 14, 15, 16, 17, 18, 19, 20, 21, 22, 23, 24, 25, 26, 27, 28, 29, 30, 31, 32, 33, 34, 35] (by decide) rfl rfl)
set_option maxHeartbeats 1000000 in
set_option maxRecDepth 100000 in
theorem rf_coinByte (l : Launch) (D : va_G) (t : Nat → ClassId) (x : Nat → Nat) (a : Nat → Nat) (j : RJ) (r : RS) (p0 p1 p2 : Int32) (ok : Ok r) (hj : okR j) : Ct l D t x yX4_coinByte wsX4_coinByte r_X4_coinByte [.ref (a 0), .int p0, .int p1, .int p2] (rW t a j r) RJ okR (fun _ => some (.int (v_coin r p0 p1 p2))) (fun j9 => rW t a j9 (r)) 0 0 := by
  obtain ⟨hb16, hdy, hcs, how, hen, hix, hks, hbf, hla, hz, hz8, hbar, hwr, hlc⟩ := id ok
  have hc := c_X4_coinByte l D t x a j.th (nI r.dy) r.kp r.tw (nI r.wk) r.k1 r.k2 r.o1 r.o2 r.b j.row j.w j.hh j.nw j.hs j.cn p0 p1 p2 r.cs r.sds hb16 hj.1 hj.2.1 (fun j _ => hcs j)
  refine ct_go (ct_fr (wr := [(a 9, .inl (t 0, 32, .inl j.cd)), (a 10, .inl (t 0, 204, .inl j.lt)), (a 11, .inl (t 0, 20, .inl r.bf)), (a 12, .inl (t 2, 8, .inr (.inl r.pu))), (a 13, .inl (t 1, 16, .inl (fun j9 => nI (r.ow j9)))), (a 15, .inl (t 1, 16, .inl r.ct)), (a 16, .inl (t 1, 16, .inl r.st)), (a 18, .inl (t 1, 16, .inl (fun j9 => nI (r.en j9)))), (a 19, .inl (t 2, 16, .inr (.inl r.wo))), (a 20, .inl (t 2, 16, .inr (.inl r.wt))), (a 21, .inl (t 1, 16, .inl r.go)), (a 22, .inl (t 1, 16, .inl r.ov)), (a 23, .inl (t 3, 16, .inl (fun j9 => bI (r.Bk j9)))), (a 24, .inl (t 3, 16, .inl (fun j9 => bI (r.Cl j9)))), (a 25, .inl (t 1, 128, .inl r.rd)), (a 26, .inl (t 1, 128, .inl r.se)), (a 27, .inl (t 1, 8, .inl (fun j9 => nI (r.ks j9)))), (a 28, .inl (t 2, 16, .inr (.inl r.mm1))), (a 29, .inl (t 2, 16, .inr (.inl r.mm2))), (a 30, .inl (t 1, 8, .inl r.ba)), (a 31, .inl (t 1, 8, .inl r.wr)), (a 32, .inl (t 3, 128, .inl (fun j9 => bI (r.L j9)))), (a 33, .inl (t 1, 128, .inl (fun j9 => nI (r.ix j9)))), (a 34, .inl (t 0, 2560, .inl r.la)), (a 35, .inl (t 1, 128, .inl r.mi))]) hc) (Go.pm (pm_ix 36 [0, 1, 2, 3, 4, 5, 6, 7, 8, 14, 17, 9, 10, 11, 12, 13, 15, 16, 18, 19, 20, 21, 22, 23, 24, 25, 26, 27, 28, 29, 30, 31, 32, 33, 34, 35] (by decide) rfl rfl)) (fun u hu => ?_)
  exact ⟨(nI 0, u.1, u.2.1, u.2.2.1, u.2.2.2.1, u.2.2.2.2.1, u.2.2.2.2.2, j.cd, j.lt), ⟨hu.1, hu.2, hj.2.2.1, hj.2.2.2⟩, rfl, Go.pm (pm_ix 36 [0, 1, 2, 3, 4, 5, 6, 7, 8, 11, 12, 13, 14, 15, 9, 16, 17, 10, 18, 19, 20, 21, 22, 23, 24, 25, 26, 27, 28, 29, 30, 31, 32, 33, 34, 35] (by decide) rfl rfl)⟩
set_option maxHeartbeats 1000000 in
set_option maxRecDepth 100000 in
theorem rf_letterByte (l : Launch) (D : va_G) (t : Nat → ClassId) (x : Nat → Nat) (a : Nat → Nat) (j : RJ) (r : RS) (p0 p1 : Int32) (ok : Ok r) (hj : okR j) : Ct l D t x yX4_letterByte wsX4_letterByte r_X4_letterByte [.ref (a 0), .int p0, .int p1] (rW t a j r) RJ okR (fun _ => some (.int (v_letter r p0 p1))) (fun j9 => rW t a j9 (r)) 0 0 := by
  obtain ⟨hb16, hdy, hcs, how, hen, hix, hks, hbf, hla, hz, hz8, hbar, hwr, hlc⟩ := id ok
  have hc := c_X4_letterByte l D t x a j.th (nI r.dy) r.kp r.tw (nI r.wk) r.k1 r.k2 r.o1 r.o2 r.b j.row j.w j.hh j.nw j.hs j.cn j.cd j.lt r.ct (fun j9 => nI (r.en j9)) r.st r.cs r.sds r.wo r.wt p0 p1 hb16 hj.1 hj.2.1 hj.2.2.1 hj.2.2.2 (fun j _ => hcs j)
  refine ct_go (ct_fr (wr := [(a 11, .inl (t 0, 20, .inl r.bf)), (a 12, .inl (t 2, 8, .inr (.inl r.pu))), (a 13, .inl (t 1, 16, .inl (fun j9 => nI (r.ow j9)))), (a 21, .inl (t 1, 16, .inl r.go)), (a 22, .inl (t 1, 16, .inl r.ov)), (a 23, .inl (t 3, 16, .inl (fun j9 => bI (r.Bk j9)))), (a 24, .inl (t 3, 16, .inl (fun j9 => bI (r.Cl j9)))), (a 25, .inl (t 1, 128, .inl r.rd)), (a 26, .inl (t 1, 128, .inl r.se)), (a 27, .inl (t 1, 8, .inl (fun j9 => nI (r.ks j9)))), (a 28, .inl (t 2, 16, .inr (.inl r.mm1))), (a 29, .inl (t 2, 16, .inr (.inl r.mm2))), (a 30, .inl (t 1, 8, .inl r.ba)), (a 31, .inl (t 1, 8, .inl r.wr)), (a 32, .inl (t 3, 128, .inl (fun j9 => bI (r.L j9)))), (a 33, .inl (t 1, 128, .inl (fun j9 => nI (r.ix j9)))), (a 34, .inl (t 0, 2560, .inl r.la)), (a 35, .inl (t 1, 128, .inl r.mi))]) hc) (Go.pm (pm_ix 36 [0, 1, 2, 3, 4, 5, 6, 7, 8, 14, 17, 10, 9, 15, 18, 16, 19, 20, 11, 12, 13, 21, 22, 23, 24, 25, 26, 27, 28, 29, 30, 31, 32, 33, 34, 35] (by decide) rfl rfl)) (fun u hu => ?_)
  exact ⟨(nI 0, u), hu, rfl, Go.pm (pm_ix 36 [0, 1, 2, 3, 4, 5, 6, 7, 8, 12, 11, 18, 19, 20, 9, 13, 15, 10, 14, 16, 17, 21, 22, 23, 24, 25, 26, 27, 28, 29, 30, 31, 32, 33, 34, 35] (by decide) rfl rfl)⟩
set_option maxHeartbeats 1000000 in
set_option maxRecDepth 100000 in
theorem rf_powerCut (l : Launch) (D : va_G) (t : Nat → ClassId) (x : Nat → Nat) (a : Nat → Nat) (j : RJ) (r : RS) (p0 p1 : Int32) (ok : Ok r) (hj : okR j) : Ct l D t x yX4_powerCut wsX4_powerCut r_X4_powerCut [.ref (a 0), .int p0, .int p1] (rW t a j r) RJ okR (fun _ => some (.int (bI (wi p0 (nI 0) (nI 7) && wi p1 (nI 0) (nI 3))))) (fun j9 => rW t a j9 (s_power r p0 p1)) 0 0 := by
  obtain ⟨hb16, hdy, hcs, how, hen, hix, hks, hbf, hla, hz, hz8, hbar, hwr, hlc⟩ := id ok
  have hc := c_X4_powerCut l D t x a j.th (nI r.dy) r.kp r.tw (nI r.wk) r.k1 r.k2 r.o1 r.o2 (nI r.b) p0 p1 r.wr
  refine ct_go (ct_fr (wr := [(a 1, .inl (t 1, 64, .inl k_cu)), (a 2, .inl (t 1, 8, .inl k_sq)), (a 3, .inl (t 0, 448, .inl j.row)), (a 4, .inl (t 1, 64, .inl j.w)), (a 5, .inl (t 1, 8, .inl j.hh)), (a 6, .inl (t 1, 8, .inl j.nw)), (a 7, .inl (t 0, 32, .inl j.hs)), (a 8, .inl (t 0, 20, .inl j.cn)), (a 9, .inl (t 0, 32, .inl j.cd)), (a 10, .inl (t 0, 204, .inl j.lt)), (a 11, .inl (t 0, 20, .inl r.bf)), (a 12, .inl (t 2, 8, .inr (.inl r.pu))), (a 13, .inl (t 1, 16, .inl (fun j9 => nI (r.ow j9)))), (a 14, .inl (t 1, 16, .inl (fun j9 => nI (r.cs j9)))), (a 15, .inl (t 1, 16, .inl r.ct)), (a 16, .inl (t 1, 16, .inl r.st)), (a 17, .inl (t 2, 16, .inr (.inl r.sds))), (a 18, .inl (t 1, 16, .inl (fun j9 => nI (r.en j9)))), (a 19, .inl (t 2, 16, .inr (.inl r.wo))), (a 20, .inl (t 2, 16, .inr (.inl r.wt))), (a 21, .inl (t 1, 16, .inl r.go)), (a 22, .inl (t 1, 16, .inl r.ov)), (a 23, .inl (t 3, 16, .inl (fun j9 => bI (r.Bk j9)))), (a 24, .inl (t 3, 16, .inl (fun j9 => bI (r.Cl j9)))), (a 25, .inl (t 1, 128, .inl r.rd)), (a 26, .inl (t 1, 128, .inl r.se)), (a 27, .inl (t 1, 8, .inl (fun j9 => nI (r.ks j9)))), (a 28, .inl (t 2, 16, .inr (.inl r.mm1))), (a 29, .inl (t 2, 16, .inr (.inl r.mm2))), (a 30, .inl (t 1, 8, .inl r.ba)), (a 32, .inl (t 3, 128, .inl (fun j9 => bI (r.L j9)))), (a 33, .inl (t 1, 128, .inl (fun j9 => nI (r.ix j9)))), (a 34, .inl (t 0, 2560, .inl r.la)), (a 35, .inl (t 1, 128, .inl r.mi))]) hc) (Go.pm (pm_ix 36 [0, 31, 1, 2, 3, 4, 5, 6, 7, 8, 9, 10, 11, 12, 13, 14, 15, 16, 17, 18, 19, 20, 21, 22, 23, 24, 25, 26, 27, 28, 29, 30, 32, 33, 34, 35] (by decide) rfl rfl)) (fun u hu => ?_)
  obtain ⟨b1, wr1⟩ := u
  obtain ⟨h0, h1⟩ := hu
  dsimp only at h0 h1
  refine ⟨(nI 0, j.row, j.w, j.hh, j.nw, j.hs, j.cn, j.cd, j.lt), hj, by show some (Value.int (bI (wi p0 (nI 0) (nI 7) && wi p1 (nI 0) (nI 3)))) = some (Value.int (bI b1)); rw [h0], ?_⟩
  show Go D _ (rW t a (nI 0, j.row, j.w, j.hh, j.nw, j.hs, j.cn, j.cd, j.lt) (s_power r p0 p1))
  rcases h1 with ⟨h2, h3⟩ | ⟨h2, k, hk, h4, h3⟩
  · rw [s_power, if_neg (by rw [← h0, h2]; decide)]
    subst wr1
    exact Go.pm (pm_ix 36 [0, 2, 3, 4, 5, 6, 7, 8, 9, 10, 11, 12, 13, 14, 15, 16, 17, 18, 19, 20, 21, 22, 23, 24, 25, 26, 27, 28, 29, 30, 31, 1, 32, 33, 34, 35] (by decide) rfl rfl)
  · have e0 : cN p0 = k := by rw [h4]; exact cN_nI (by omega)
    rw [s_power, if_pos (by rw [← h0, h2])]
    subst wr1; subst k
    exact Go.pm (pm_ix 36 [0, 2, 3, 4, 5, 6, 7, 8, 9, 10, 11, 12, 13, 14, 15, 16, 17, 18, 19, 20, 21, 22, 23, 24, 25, 26, 27, 28, 29, 30, 31, 1, 32, 33, 34, 35] (by decide) rfl rfl)
set_option maxHeartbeats 1000000 in
set_option maxRecDepth 100000 in
theorem rf_empty (l : Launch) (D : va_G) (t : Nat → ClassId) (x : Nat → Nat) (a : Nat → Nat) (j : RJ) (r : RS) (p0 : Int32) (ok : Ok r) (hj : okR j) (hwk : r.wk < 2 ^ 30) : Ct l D t x yX4_empty wsX4_empty r_X4_empty [.ref (a 0), .int p0] (rW t a j r) RJ okR (fun _ => some (.int (v_empty r p0))) (fun j9 => rW t a j9 (s_empty r p0)) 0 0 := by
  obtain ⟨hb16, hdy, hcs, how, hen, hix, hks, hbf, hla, hz, hz8, hbar, hwr, hlc⟩ := id ok
  have hc := c_X4_empty l D t x a j.th r.kp r.tw r.k1 r.k2 r.o1 r.o2 (nI r.b) r.wk r.dy r.ks r.mm1 r.mm2 r.ba r.rd r.Bk r.L r.ix r.en p0 hwk hdy (fun j _ => hen j)
  refine ct_go (ct_fr (wr := [(a 1, .inl (t 1, 64, .inl k_cu)), (a 2, .inl (t 1, 8, .inl k_sq)), (a 3, .inl (t 0, 448, .inl j.row)), (a 4, .inl (t 1, 64, .inl j.w)), (a 5, .inl (t 1, 8, .inl j.hh)), (a 6, .inl (t 1, 8, .inl j.nw)), (a 7, .inl (t 0, 32, .inl j.hs)), (a 8, .inl (t 0, 20, .inl j.cn)), (a 9, .inl (t 0, 32, .inl j.cd)), (a 10, .inl (t 0, 204, .inl j.lt)), (a 11, .inl (t 0, 20, .inl r.bf)), (a 12, .inl (t 2, 8, .inr (.inl r.pu))), (a 13, .inl (t 1, 16, .inl (fun j9 => nI (r.ow j9)))), (a 14, .inl (t 1, 16, .inl (fun j9 => nI (r.cs j9)))), (a 15, .inl (t 1, 16, .inl r.ct)), (a 16, .inl (t 1, 16, .inl r.st)), (a 17, .inl (t 2, 16, .inr (.inl r.sds))), (a 19, .inl (t 2, 16, .inr (.inl r.wo))), (a 20, .inl (t 2, 16, .inr (.inl r.wt))), (a 21, .inl (t 1, 16, .inl r.go)), (a 22, .inl (t 1, 16, .inl r.ov)), (a 24, .inl (t 3, 16, .inl (fun j9 => bI (r.Cl j9)))), (a 26, .inl (t 1, 128, .inl r.se)), (a 31, .inl (t 1, 8, .inl r.wr)), (a 34, .inl (t 0, 2560, .inl r.la)), (a 35, .inl (t 1, 128, .inl r.mi))]) hc) (Go.pm (pm_ix 36 [0, 27, 28, 29, 30, 23, 25, 32, 33, 18, 1, 2, 3, 4, 5, 6, 7, 8, 9, 10, 11, 12, 13, 14, 15, 16, 17, 19, 20, 21, 22, 24, 26, 31, 34, 35] (by decide) rfl rfl)) (fun u hu => ?_)
  obtain ⟨v1, ks1, mm11, mm21, ba1, rd1, L1⟩ := u
  rcases hu with ⟨h0, e0, e1, e2, e3, e4, e5, e6⟩ | ⟨h0, e0, e1, e2, e3, e4, e5, e6⟩
  · refine ⟨(nI 0, j.row, j.w, j.hh, j.nw, j.hs, j.cn, j.cd, j.lt), hj, by show some (Value.int (v_empty r p0)) = some (Value.int v1); rw [v_empty, if_neg (by rw [h0]; decide)]; exact congrArg (fun z => some (Value.int z)) e0.symm, ?_⟩
    show Go D _ (rW t a (nI 0, j.row, j.w, j.hh, j.nw, j.hs, j.cn, j.cd, j.lt) (s_empty r p0))
    rw [s_empty, if_neg (by rw [h0]; decide)]
    dsimp only at e1 e2 e3 e4 e5 e6
    subst ks1 mm11 mm21 ba1 rd1 L1
    exact Go.pm (pm_ix 36 [0, 10, 11, 12, 13, 14, 15, 16, 17, 18, 19, 20, 21, 22, 23, 24, 25, 26, 9, 27, 28, 29, 30, 5, 31, 6, 32, 1, 2, 3, 4, 33, 7, 8, 34, 35] (by decide) rfl rfl)
  · refine ⟨(nI 0, j.row, j.w, j.hh, j.nw, j.hs, j.cn, j.cd, j.lt), hj, by show some (Value.int (v_empty r p0)) = some (Value.int v1); rw [v_empty, if_pos h0]; exact congrArg (fun z => some (Value.int z)) e0.symm, ?_⟩
    show Go D _ (rW t a (nI 0, j.row, j.w, j.hh, j.nw, j.hs, j.cn, j.cd, j.lt) (s_empty r p0))
    rw [s_empty, if_pos h0]
    dsimp only at e1 e2 e3 e4 e5 e6
    subst ks1 mm11 mm21 ba1 rd1 L1
    exact Go.pm (pm_ix 36 [0, 10, 11, 12, 13, 14, 15, 16, 17, 18, 19, 20, 21, 22, 23, 24, 25, 26, 9, 27, 28, 29, 30, 5, 31, 6, 32, 1, 2, 3, 4, 33, 7, 8, 34, 35] (by decide) rfl rfl)
set_option maxHeartbeats 1000000 in
set_option maxRecDepth 100000 in
theorem rf_settle (l : Launch) (D : va_G) (t : Nat → ClassId) (x : Nat → Nat) (a : Nat → Nat) (j : RJ) (r : RS) (ok : Ok r) (hj : okR j) : Ct l D t x yX4_settle wsX4_settle r_X4_settle [.ref (a 0)] (rW t a j r) RJ okR (fun _ => some (.int (nI (stt r).2.2.2.2.2.2.2))) (fun j9 => rW t a j9 (s_settle r)) 0 0 := by
  obtain ⟨hb16, hdy, hcs, how, hen, hix, hks, hbf, hla, hz, hz8, hbar, hwr, hlc⟩ := id ok
  have hc := c_X4_settle l D t x a j.th r.kp r.tw (nI r.wk) r.k1 r.k2 r.o1 r.o2 r.dy r.b r.rd r.se r.go r.ct r.ov r.cs r.en r.ow r.Bk r.Cl r.pu hb16 hdy (fun j _ => hen j) (fun j _ => how j)
  refine ct_go (ct_fr (wr := [(a 1, .inl (t 1, 64, .inl k_cu)), (a 2, .inl (t 1, 8, .inl k_sq)), (a 3, .inl (t 0, 448, .inl j.row)), (a 4, .inl (t 1, 64, .inl j.w)), (a 5, .inl (t 1, 8, .inl j.hh)), (a 6, .inl (t 1, 8, .inl j.nw)), (a 7, .inl (t 0, 32, .inl j.hs)), (a 8, .inl (t 0, 20, .inl j.cn)), (a 9, .inl (t 0, 32, .inl j.cd)), (a 10, .inl (t 0, 204, .inl j.lt)), (a 11, .inl (t 0, 20, .inl r.bf)), (a 16, .inl (t 1, 16, .inl r.st)), (a 17, .inl (t 2, 16, .inr (.inl r.sds))), (a 19, .inl (t 2, 16, .inr (.inl r.wo))), (a 20, .inl (t 2, 16, .inr (.inl r.wt))), (a 27, .inl (t 1, 8, .inl (fun j9 => nI (r.ks j9)))), (a 28, .inl (t 2, 16, .inr (.inl r.mm1))), (a 29, .inl (t 2, 16, .inr (.inl r.mm2))), (a 30, .inl (t 1, 8, .inl r.ba)), (a 31, .inl (t 1, 8, .inl r.wr)), (a 32, .inl (t 3, 128, .inl (fun j9 => bI (r.L j9)))), (a 33, .inl (t 1, 128, .inl (fun j9 => nI (r.ix j9)))), (a 34, .inl (t 0, 2560, .inl r.la)), (a 35, .inl (t 1, 128, .inl r.mi))]) hc) (Go.pm (pm_ix 36 [0, 25, 26, 14, 21, 15, 22, 23, 18, 24, 12, 13, 1, 2, 3, 4, 5, 6, 7, 8, 9, 10, 11, 16, 17, 19, 20, 27, 28, 29, 30, 31, 32, 33, 34, 35] (by decide) rfl rfl)) (fun u hu => ?_)
  exact ⟨(nI 0, j.row, j.w, j.hh, j.nw, j.hs, j.cn, j.cd, j.lt), hj, rfl, Go.pm (pm_ix 36 [0, 12, 13, 14, 15, 16, 17, 18, 19, 20, 21, 22, 10, 11, 3, 5, 23, 24, 8, 25, 26, 4, 6, 7, 9, 1, 2, 27, 28, 29, 30, 31, 32, 33, 34, 35] (by decide) rfl rfl)⟩
set_option maxHeartbeats 1000000 in
set_option maxRecDepth 100000 in
theorem rf_account (l : Launch) (D : va_G) (t : Nat → ClassId) (x : Nat → Nat) (a : Nat → Nat) (j : RJ) (r : RS) (p0 : Int32) (ok : Ok r) (hj : okR j) : Ct l D t x yX4_account wsX4_account r_X4_account [.ref (a 0), .int p0] (rW t a j r) RJ okR (fun _ => some (.long (accf p0 (psum r.pu 8) r.kp r.tw r.pu))) (fun j9 => rW t a j9 (r)) 0 0 := by
  obtain ⟨hb16, hdy, hcs, how, hen, hix, hks, hbf, hla, hz, hz8, hbar, hwr, hlc⟩ := id ok
  have hc := c_X4_account l D t x a j.th (nI r.dy) r.kp r.tw (nI r.wk) r.k1 r.k2 r.o1 r.o2 (nI r.b) p0 r.pu
  refine ct_go (ct_fr (wr := [(a 1, .inl (t 1, 64, .inl k_cu)), (a 2, .inl (t 1, 8, .inl k_sq)), (a 3, .inl (t 0, 448, .inl j.row)), (a 4, .inl (t 1, 64, .inl j.w)), (a 5, .inl (t 1, 8, .inl j.hh)), (a 6, .inl (t 1, 8, .inl j.nw)), (a 7, .inl (t 0, 32, .inl j.hs)), (a 8, .inl (t 0, 20, .inl j.cn)), (a 9, .inl (t 0, 32, .inl j.cd)), (a 10, .inl (t 0, 204, .inl j.lt)), (a 11, .inl (t 0, 20, .inl r.bf)), (a 13, .inl (t 1, 16, .inl (fun j9 => nI (r.ow j9)))), (a 14, .inl (t 1, 16, .inl (fun j9 => nI (r.cs j9)))), (a 15, .inl (t 1, 16, .inl r.ct)), (a 16, .inl (t 1, 16, .inl r.st)), (a 17, .inl (t 2, 16, .inr (.inl r.sds))), (a 18, .inl (t 1, 16, .inl (fun j9 => nI (r.en j9)))), (a 19, .inl (t 2, 16, .inr (.inl r.wo))), (a 20, .inl (t 2, 16, .inr (.inl r.wt))), (a 21, .inl (t 1, 16, .inl r.go)), (a 22, .inl (t 1, 16, .inl r.ov)), (a 23, .inl (t 3, 16, .inl (fun j9 => bI (r.Bk j9)))), (a 24, .inl (t 3, 16, .inl (fun j9 => bI (r.Cl j9)))), (a 25, .inl (t 1, 128, .inl r.rd)), (a 26, .inl (t 1, 128, .inl r.se)), (a 27, .inl (t 1, 8, .inl (fun j9 => nI (r.ks j9)))), (a 28, .inl (t 2, 16, .inr (.inl r.mm1))), (a 29, .inl (t 2, 16, .inr (.inl r.mm2))), (a 30, .inl (t 1, 8, .inl r.ba)), (a 31, .inl (t 1, 8, .inl r.wr)), (a 32, .inl (t 3, 128, .inl (fun j9 => bI (r.L j9)))), (a 33, .inl (t 1, 128, .inl (fun j9 => nI (r.ix j9)))), (a 34, .inl (t 0, 2560, .inl r.la)), (a 35, .inl (t 1, 128, .inl r.mi))]) hc) (Go.pm (pm_ix 36 [0, 12, 1, 2, 3, 4, 5, 6, 7, 8, 9, 10, 11, 13, 14, 15, 16, 17, 18, 19, 20, 21, 22, 23, 24, 25, 26, 27, 28, 29, 30, 31, 32, 33, 34, 35] (by decide) rfl rfl)) (fun u hu => ?_)
  exact ⟨(nI 0, j.row, j.w, j.hh, j.nw, j.hs, j.cn, j.cd, j.lt), hj, rfl, Go.pm (pm_ix 36 [0, 2, 3, 4, 5, 6, 7, 8, 9, 10, 11, 12, 1, 13, 14, 15, 16, 17, 18, 19, 20, 21, 22, 23, 24, 25, 26, 27, 28, 29, 30, 31, 32, 33, 34, 35] (by decide) rfl rfl)⟩
set_option maxHeartbeats 1000000 in
set_option maxRecDepth 100000 in
theorem rf_spent (l : Launch) (D : va_G) (t : Nat → ClassId) (x : Nat → Nat) (a : Nat → Nat) (j : RJ) (r : RS) (p0 p1 : Int32) (ok : Ok r) (hj : okR j) : Ct l D t x yX4_spent wsX4_spent r_X4_spent [.ref (a 0), .int p0, .int p1] (rW t a j r) RJ okR (fun _ => some (.int (spf p0 p1 r.b r.L r.ix))) (fun j9 => rW t a j9 (r)) 0 0 := by
  obtain ⟨hb16, hdy, hcs, how, hen, hix, hks, hbf, hla, hz, hz8, hbar, hwr, hlc⟩ := id ok
  have hc := c_X4_spent l D t x a j.th (nI r.dy) r.kp r.tw (nI r.wk) r.k1 r.k2 r.o1 r.o2 r.b p0 p1 r.L r.ix hb16
  refine ct_go (ct_fr (wr := [(a 1, .inl (t 1, 64, .inl k_cu)), (a 2, .inl (t 1, 8, .inl k_sq)), (a 3, .inl (t 0, 448, .inl j.row)), (a 4, .inl (t 1, 64, .inl j.w)), (a 5, .inl (t 1, 8, .inl j.hh)), (a 6, .inl (t 1, 8, .inl j.nw)), (a 7, .inl (t 0, 32, .inl j.hs)), (a 8, .inl (t 0, 20, .inl j.cn)), (a 9, .inl (t 0, 32, .inl j.cd)), (a 10, .inl (t 0, 204, .inl j.lt)), (a 11, .inl (t 0, 20, .inl r.bf)), (a 12, .inl (t 2, 8, .inr (.inl r.pu))), (a 13, .inl (t 1, 16, .inl (fun j9 => nI (r.ow j9)))), (a 14, .inl (t 1, 16, .inl (fun j9 => nI (r.cs j9)))), (a 15, .inl (t 1, 16, .inl r.ct)), (a 16, .inl (t 1, 16, .inl r.st)), (a 17, .inl (t 2, 16, .inr (.inl r.sds))), (a 18, .inl (t 1, 16, .inl (fun j9 => nI (r.en j9)))), (a 19, .inl (t 2, 16, .inr (.inl r.wo))), (a 20, .inl (t 2, 16, .inr (.inl r.wt))), (a 21, .inl (t 1, 16, .inl r.go)), (a 22, .inl (t 1, 16, .inl r.ov)), (a 23, .inl (t 3, 16, .inl (fun j9 => bI (r.Bk j9)))), (a 24, .inl (t 3, 16, .inl (fun j9 => bI (r.Cl j9)))), (a 25, .inl (t 1, 128, .inl r.rd)), (a 26, .inl (t 1, 128, .inl r.se)), (a 27, .inl (t 1, 8, .inl (fun j9 => nI (r.ks j9)))), (a 28, .inl (t 2, 16, .inr (.inl r.mm1))), (a 29, .inl (t 2, 16, .inr (.inl r.mm2))), (a 30, .inl (t 1, 8, .inl r.ba)), (a 31, .inl (t 1, 8, .inl r.wr)), (a 34, .inl (t 0, 2560, .inl r.la)), (a 35, .inl (t 1, 128, .inl r.mi))]) hc) (Go.pm (pm_ix 36 [0, 32, 33, 1, 2, 3, 4, 5, 6, 7, 8, 9, 10, 11, 12, 13, 14, 15, 16, 17, 18, 19, 20, 21, 22, 23, 24, 25, 26, 27, 28, 29, 30, 31, 34, 35] (by decide) rfl rfl)) (fun u hu => ?_)
  exact ⟨(nI 0, j.row, j.w, j.hh, j.nw, j.hs, j.cn, j.cd, j.lt), hj, rfl, Go.pm (pm_ix 36 [0, 3, 4, 5, 6, 7, 8, 9, 10, 11, 12, 13, 14, 15, 16, 17, 18, 19, 20, 21, 22, 23, 24, 25, 26, 27, 28, 29, 30, 31, 32, 33, 1, 2, 34, 35] (by decide) rfl rfl)⟩
set_option maxHeartbeats 1000000 in
set_option maxRecDepth 100000 in
theorem rf_overspent (l : Launch) (D : va_G) (t : Nat → ClassId) (x : Nat → Nat) (a : Nat → Nat) (j : RJ) (r : RS) (p0 : Int32) (ok : Ok r) (hj : okR j) : Ct l D t x yX4_overspent wsX4_overspent r_X4_overspent [.ref (a 0), .int p0] (rW t a j r) RJ okR (fun _ => some (.int (ovf p0 r.b r.ov))) (fun j9 => rW t a j9 (r)) 0 0 := by
  obtain ⟨hb16, hdy, hcs, how, hen, hix, hks, hbf, hla, hz, hz8, hbar, hwr, hlc⟩ := id ok
  have hc := c_X4_overspent l D t x a j.th (nI r.dy) r.kp r.tw (nI r.wk) r.k1 r.k2 r.o1 r.o2 r.b p0 r.ov hb16
  refine ct_go (ct_fr (wr := [(a 1, .inl (t 1, 64, .inl k_cu)), (a 2, .inl (t 1, 8, .inl k_sq)), (a 3, .inl (t 0, 448, .inl j.row)), (a 4, .inl (t 1, 64, .inl j.w)), (a 5, .inl (t 1, 8, .inl j.hh)), (a 6, .inl (t 1, 8, .inl j.nw)), (a 7, .inl (t 0, 32, .inl j.hs)), (a 8, .inl (t 0, 20, .inl j.cn)), (a 9, .inl (t 0, 32, .inl j.cd)), (a 10, .inl (t 0, 204, .inl j.lt)), (a 11, .inl (t 0, 20, .inl r.bf)), (a 12, .inl (t 2, 8, .inr (.inl r.pu))), (a 13, .inl (t 1, 16, .inl (fun j9 => nI (r.ow j9)))), (a 14, .inl (t 1, 16, .inl (fun j9 => nI (r.cs j9)))), (a 15, .inl (t 1, 16, .inl r.ct)), (a 16, .inl (t 1, 16, .inl r.st)), (a 17, .inl (t 2, 16, .inr (.inl r.sds))), (a 18, .inl (t 1, 16, .inl (fun j9 => nI (r.en j9)))), (a 19, .inl (t 2, 16, .inr (.inl r.wo))), (a 20, .inl (t 2, 16, .inr (.inl r.wt))), (a 21, .inl (t 1, 16, .inl r.go)), (a 23, .inl (t 3, 16, .inl (fun j9 => bI (r.Bk j9)))), (a 24, .inl (t 3, 16, .inl (fun j9 => bI (r.Cl j9)))), (a 25, .inl (t 1, 128, .inl r.rd)), (a 26, .inl (t 1, 128, .inl r.se)), (a 27, .inl (t 1, 8, .inl (fun j9 => nI (r.ks j9)))), (a 28, .inl (t 2, 16, .inr (.inl r.mm1))), (a 29, .inl (t 2, 16, .inr (.inl r.mm2))), (a 30, .inl (t 1, 8, .inl r.ba)), (a 31, .inl (t 1, 8, .inl r.wr)), (a 32, .inl (t 3, 128, .inl (fun j9 => bI (r.L j9)))), (a 33, .inl (t 1, 128, .inl (fun j9 => nI (r.ix j9)))), (a 34, .inl (t 0, 2560, .inl r.la)), (a 35, .inl (t 1, 128, .inl r.mi))]) hc) (Go.pm (pm_ix 36 [0, 22, 1, 2, 3, 4, 5, 6, 7, 8, 9, 10, 11, 12, 13, 14, 15, 16, 17, 18, 19, 20, 21, 23, 24, 25, 26, 27, 28, 29, 30, 31, 32, 33, 34, 35] (by decide) rfl rfl)) (fun u hu => ?_)
  exact ⟨(nI 0, j.row, j.w, j.hh, j.nw, j.hs, j.cn, j.cd, j.lt), hj, rfl, Go.pm (pm_ix 36 [0, 2, 3, 4, 5, 6, 7, 8, 9, 10, 11, 12, 13, 14, 15, 16, 17, 18, 19, 20, 21, 22, 1, 23, 24, 25, 26, 27, 28, 29, 30, 31, 32, 33, 34, 35] (by decide) rfl rfl)⟩
set_option maxHeartbeats 1000000 in
set_option maxRecDepth 100000 in
theorem rf_minutes (l : Launch) (D : va_G) (t : Nat → ClassId) (x : Nat → Nat) (a : Nat → Nat) (j : RJ) (r : RS) (p0 p1 : Int32) (ok : Ok r) (hj : okR j) : Ct l D t x yX4_minutes wsX4_minutes r_X4_minutes [.ref (a 0), .int p0, .int p1] (rW t a j r) RJ okR (fun _ => some (.int (mnf p0 p1 r.mi))) (fun j9 => rW t a j9 (r)) 0 0 := by
  obtain ⟨hb16, hdy, hcs, how, hen, hix, hks, hbf, hla, hz, hz8, hbar, hwr, hlc⟩ := id ok
  have hc := c_X4_minutes l D t x a j.th (nI r.dy) r.kp r.tw (nI r.wk) r.k1 r.k2 r.o1 r.o2 (nI r.b) p0 p1 r.mi
  refine ct_go (ct_fr (wr := [(a 1, .inl (t 1, 64, .inl k_cu)), (a 2, .inl (t 1, 8, .inl k_sq)), (a 3, .inl (t 0, 448, .inl j.row)), (a 4, .inl (t 1, 64, .inl j.w)), (a 5, .inl (t 1, 8, .inl j.hh)), (a 6, .inl (t 1, 8, .inl j.nw)), (a 7, .inl (t 0, 32, .inl j.hs)), (a 8, .inl (t 0, 20, .inl j.cn)), (a 9, .inl (t 0, 32, .inl j.cd)), (a 10, .inl (t 0, 204, .inl j.lt)), (a 11, .inl (t 0, 20, .inl r.bf)), (a 12, .inl (t 2, 8, .inr (.inl r.pu))), (a 13, .inl (t 1, 16, .inl (fun j9 => nI (r.ow j9)))), (a 14, .inl (t 1, 16, .inl (fun j9 => nI (r.cs j9)))), (a 15, .inl (t 1, 16, .inl r.ct)), (a 16, .inl (t 1, 16, .inl r.st)), (a 17, .inl (t 2, 16, .inr (.inl r.sds))), (a 18, .inl (t 1, 16, .inl (fun j9 => nI (r.en j9)))), (a 19, .inl (t 2, 16, .inr (.inl r.wo))), (a 20, .inl (t 2, 16, .inr (.inl r.wt))), (a 21, .inl (t 1, 16, .inl r.go)), (a 22, .inl (t 1, 16, .inl r.ov)), (a 23, .inl (t 3, 16, .inl (fun j9 => bI (r.Bk j9)))), (a 24, .inl (t 3, 16, .inl (fun j9 => bI (r.Cl j9)))), (a 25, .inl (t 1, 128, .inl r.rd)), (a 26, .inl (t 1, 128, .inl r.se)), (a 27, .inl (t 1, 8, .inl (fun j9 => nI (r.ks j9)))), (a 28, .inl (t 2, 16, .inr (.inl r.mm1))), (a 29, .inl (t 2, 16, .inr (.inl r.mm2))), (a 30, .inl (t 1, 8, .inl r.ba)), (a 31, .inl (t 1, 8, .inl r.wr)), (a 32, .inl (t 3, 128, .inl (fun j9 => bI (r.L j9)))), (a 33, .inl (t 1, 128, .inl (fun j9 => nI (r.ix j9)))), (a 34, .inl (t 0, 2560, .inl r.la))]) hc) (Go.pm (pm_ix 36 [0, 35, 1, 2, 3, 4, 5, 6, 7, 8, 9, 10, 11, 12, 13, 14, 15, 16, 17, 18, 19, 20, 21, 22, 23, 24, 25, 26, 27, 28, 29, 30, 31, 32, 33, 34] (by decide) rfl rfl)) (fun u hu => ?_)
  exact ⟨(nI 0, j.row, j.w, j.hh, j.nw, j.hs, j.cn, j.cd, j.lt), hj, rfl, Go.pm (pm_ix 36 [0, 2, 3, 4, 5, 6, 7, 8, 9, 10, 11, 12, 13, 14, 15, 16, 17, 18, 19, 20, 21, 22, 23, 24, 25, 26, 27, 28, 29, 30, 31, 32, 33, 34, 35, 1] (by decide) rfl rfl)⟩
set_option maxHeartbeats 1000000 in
set_option maxRecDepth 100000 in
theorem rf_count (l : Launch) (D : va_G) (t : Nat → ClassId) (x : Nat → Nat) (a : Nat → Nat) (j : RJ) (r : RS) (p0 : Int32) (ok : Ok r) (hj : okR j) : Ct l D t x yX4_count wsX4_count r_X4_count [.ref (a 0), .int p0] (rW t a j r) RJ okR (fun _ => some (.int (v_count r p0))) (fun j9 => rW t a j9 (r)) 0 0 := by
  obtain ⟨hb16, hdy, hcs, how, hen, hix, hks, hbf, hla, hz, hz8, hbar, hwr, hlc⟩ := id ok
  have hc := c_X4_count l D t x a j.th (nI r.dy) r.kp r.tw (nI r.wk) r.k1 r.k2 r.o1 r.o2 r.b p0 r.L r.Bk r.Cl hb16
  refine ct_go (ct_fr (wr := [(a 1, .inl (t 1, 64, .inl k_cu)), (a 2, .inl (t 1, 8, .inl k_sq)), (a 3, .inl (t 0, 448, .inl j.row)), (a 4, .inl (t 1, 64, .inl j.w)), (a 5, .inl (t 1, 8, .inl j.hh)), (a 6, .inl (t 1, 8, .inl j.nw)), (a 7, .inl (t 0, 32, .inl j.hs)), (a 8, .inl (t 0, 20, .inl j.cn)), (a 9, .inl (t 0, 32, .inl j.cd)), (a 10, .inl (t 0, 204, .inl j.lt)), (a 11, .inl (t 0, 20, .inl r.bf)), (a 12, .inl (t 2, 8, .inr (.inl r.pu))), (a 13, .inl (t 1, 16, .inl (fun j9 => nI (r.ow j9)))), (a 14, .inl (t 1, 16, .inl (fun j9 => nI (r.cs j9)))), (a 15, .inl (t 1, 16, .inl r.ct)), (a 16, .inl (t 1, 16, .inl r.st)), (a 17, .inl (t 2, 16, .inr (.inl r.sds))), (a 18, .inl (t 1, 16, .inl (fun j9 => nI (r.en j9)))), (a 19, .inl (t 2, 16, .inr (.inl r.wo))), (a 20, .inl (t 2, 16, .inr (.inl r.wt))), (a 21, .inl (t 1, 16, .inl r.go)), (a 22, .inl (t 1, 16, .inl r.ov)), (a 25, .inl (t 1, 128, .inl r.rd)), (a 26, .inl (t 1, 128, .inl r.se)), (a 27, .inl (t 1, 8, .inl (fun j9 => nI (r.ks j9)))), (a 28, .inl (t 2, 16, .inr (.inl r.mm1))), (a 29, .inl (t 2, 16, .inr (.inl r.mm2))), (a 30, .inl (t 1, 8, .inl r.ba)), (a 31, .inl (t 1, 8, .inl r.wr)), (a 33, .inl (t 1, 128, .inl (fun j9 => nI (r.ix j9)))), (a 34, .inl (t 0, 2560, .inl r.la)), (a 35, .inl (t 1, 128, .inl r.mi))]) hc) (Go.pm (pm_ix 36 [0, 32, 23, 24, 1, 2, 3, 4, 5, 6, 7, 8, 9, 10, 11, 12, 13, 14, 15, 16, 17, 18, 19, 20, 21, 22, 25, 26, 27, 28, 29, 30, 31, 33, 34, 35] (by decide) rfl rfl)) (fun u hu => ?_)
  exact ⟨(nI 0, j.row, j.w, j.hh, j.nw, j.hs, j.cn, j.cd, j.lt), hj, rfl, Go.pm (pm_ix 36 [0, 4, 5, 6, 7, 8, 9, 10, 11, 12, 13, 14, 15, 16, 17, 18, 19, 20, 21, 22, 23, 24, 25, 2, 3, 26, 27, 28, 29, 30, 31, 32, 1, 33, 34, 35] (by decide) rfl rfl)⟩
