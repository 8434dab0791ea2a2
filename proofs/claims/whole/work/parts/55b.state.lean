/-! the state of the town, as the reference has it, and both worlds over it -/
abbrev RS : Type := Nat × Nat × Nat × Int64 × Int64 × Int64 × Int64 × Int64 × Int64 × (Nat → Int64) × (Nat → Nat) × (Nat → Nat) × (Nat → Int32) × (Nat → Int32) × (Nat → Int64) × (Nat → Nat) × (Nat → Int64) × (Nat → Int64) × (Nat → Int32) × (Nat → Int32) × (Nat → Bool) × (Nat → Bool) × (Nat → Int32) × (Nat → Int32) × (Nat → Nat) × (Nat → Int64) × (Nat → Int64) × (Nat → Int32) × (Nat → Int32) × (Nat → Bool) × (Nat → Nat) × (Nat → Int32) × (Nat → Int32) × (Nat → Int32)
def RS.wk (r : RS) : Nat := r.1
def RS.dy (r : RS) : Nat := r.2.1
def RS.b (r : RS) : Nat := r.2.2.1
def RS.kp (r : RS) : Int64 := r.2.2.2.1
def RS.tw (r : RS) : Int64 := r.2.2.2.2.1
def RS.k1 (r : RS) : Int64 := r.2.2.2.2.2.1
def RS.k2 (r : RS) : Int64 := r.2.2.2.2.2.2.1
def RS.o1 (r : RS) : Int64 := r.2.2.2.2.2.2.2.1
def RS.o2 (r : RS) : Int64 := r.2.2.2.2.2.2.2.2.1
def RS.pu (r : RS) : Nat → Int64 := r.2.2.2.2.2.2.2.2.2.1
def RS.ow (r : RS) : Nat → Nat := r.2.2.2.2.2.2.2.2.2.2.1
def RS.cs (r : RS) : Nat → Nat := r.2.2.2.2.2.2.2.2.2.2.2.1
def RS.ct (r : RS) : Nat → Int32 := r.2.2.2.2.2.2.2.2.2.2.2.2.1
def RS.st (r : RS) : Nat → Int32 := r.2.2.2.2.2.2.2.2.2.2.2.2.2.1
def RS.sds (r : RS) : Nat → Int64 := r.2.2.2.2.2.2.2.2.2.2.2.2.2.2.1
def RS.en (r : RS) : Nat → Nat := r.2.2.2.2.2.2.2.2.2.2.2.2.2.2.2.1
def RS.wo (r : RS) : Nat → Int64 := r.2.2.2.2.2.2.2.2.2.2.2.2.2.2.2.2.1
def RS.wt (r : RS) : Nat → Int64 := r.2.2.2.2.2.2.2.2.2.2.2.2.2.2.2.2.2.1
def RS.go (r : RS) : Nat → Int32 := r.2.2.2.2.2.2.2.2.2.2.2.2.2.2.2.2.2.2.1
def RS.ov (r : RS) : Nat → Int32 := r.2.2.2.2.2.2.2.2.2.2.2.2.2.2.2.2.2.2.2.1
def RS.Bk (r : RS) : Nat → Bool := r.2.2.2.2.2.2.2.2.2.2.2.2.2.2.2.2.2.2.2.2.1
def RS.Cl (r : RS) : Nat → Bool := r.2.2.2.2.2.2.2.2.2.2.2.2.2.2.2.2.2.2.2.2.2.1
def RS.rd (r : RS) : Nat → Int32 := r.2.2.2.2.2.2.2.2.2.2.2.2.2.2.2.2.2.2.2.2.2.2.1
def RS.se (r : RS) : Nat → Int32 := r.2.2.2.2.2.2.2.2.2.2.2.2.2.2.2.2.2.2.2.2.2.2.2.1
def RS.ks (r : RS) : Nat → Nat := r.2.2.2.2.2.2.2.2.2.2.2.2.2.2.2.2.2.2.2.2.2.2.2.2.1
def RS.mm1 (r : RS) : Nat → Int64 := r.2.2.2.2.2.2.2.2.2.2.2.2.2.2.2.2.2.2.2.2.2.2.2.2.2.1
def RS.mm2 (r : RS) : Nat → Int64 := r.2.2.2.2.2.2.2.2.2.2.2.2.2.2.2.2.2.2.2.2.2.2.2.2.2.2.1
def RS.ba (r : RS) : Nat → Int32 := r.2.2.2.2.2.2.2.2.2.2.2.2.2.2.2.2.2.2.2.2.2.2.2.2.2.2.2.1
def RS.wr (r : RS) : Nat → Int32 := r.2.2.2.2.2.2.2.2.2.2.2.2.2.2.2.2.2.2.2.2.2.2.2.2.2.2.2.2.1
def RS.L (r : RS) : Nat → Bool := r.2.2.2.2.2.2.2.2.2.2.2.2.2.2.2.2.2.2.2.2.2.2.2.2.2.2.2.2.2.1
def RS.ix (r : RS) : Nat → Nat := r.2.2.2.2.2.2.2.2.2.2.2.2.2.2.2.2.2.2.2.2.2.2.2.2.2.2.2.2.2.2.1
def RS.la (r : RS) : Nat → Int32 := r.2.2.2.2.2.2.2.2.2.2.2.2.2.2.2.2.2.2.2.2.2.2.2.2.2.2.2.2.2.2.2.1
def RS.mi (r : RS) : Nat → Int32 := r.2.2.2.2.2.2.2.2.2.2.2.2.2.2.2.2.2.2.2.2.2.2.2.2.2.2.2.2.2.2.2.2.1
def RS.bf (r : RS) : Nat → Int32 := r.2.2.2.2.2.2.2.2.2.2.2.2.2.2.2.2.2.2.2.2.2.2.2.2.2.2.2.2.2.2.2.2.2
abbrev RJ : Type := Int32 × (Nat → Int32) × (Nat → Int32) × (Nat → Int32) × (Nat → Int32) × (Nat → Int32) × (Nat → Int32) × (Nat → Int32) × (Nat → Int32)
def RJ.th (r : RJ) : Int32 := r.1
def RJ.row (r : RJ) : Nat → Int32 := r.2.1
def RJ.w (r : RJ) : Nat → Int32 := r.2.2.1
def RJ.hh (r : RJ) : Nat → Int32 := r.2.2.2.1
def RJ.nw (r : RJ) : Nat → Int32 := r.2.2.2.2.1
def RJ.hs (r : RJ) : Nat → Int32 := r.2.2.2.2.2.1
def RJ.cn (r : RJ) : Nat → Int32 := r.2.2.2.2.2.2.1
def RJ.cd (r : RJ) : Nat → Int32 := r.2.2.2.2.2.2.2.1
def RJ.lt (r : RJ) : Nat → Int32 := r.2.2.2.2.2.2.2.2
abbrev CJ : Type := (Nat → Nat → Nat) × (Nat → Option Nat) × Int32 × (Nat → Int32) × (Nat → Int32) × (Nat → Int32) × (Nat → Int32) × (Nat → Int32)
def CJ.sg (r : CJ) : Nat → Nat → Nat := r.1
def CJ.sa (r : CJ) : Nat → Option Nat := r.2.1
def CJ.len (r : CJ) : Int32 := r.2.2.1
def CJ.cd (r : CJ) : Nat → Int32 := r.2.2.2.1
def CJ.cn (r : CJ) : Nat → Int32 := r.2.2.2.2.1
def CJ.row (r : CJ) : Nat → Int32 := r.2.2.2.2.2.1
def CJ.wds (r : CJ) : Nat → Int32 := r.2.2.2.2.2.2.1
def CJ.sm (r : CJ) : Nat → Int32 := r.2.2.2.2.2.2.2
def rW (t : Nat → ClassId) (a : Nat → Nat) (j : RJ) (r : RS) : va_W := [(a 0, .inr (4, mO a j.th (nI r.dy) r.kp r.tw (nI r.wk) r.k1 r.k2 r.o1 r.o2 (nI r.b))), (a 1, .inl (t 1, 64, .inl k_cu)), (a 2, .inl (t 1, 8, .inl k_sq)), (a 3, .inl (t 0, 448, .inl j.row)), (a 4, .inl (t 1, 64, .inl j.w)), (a 5, .inl (t 1, 8, .inl j.hh)), (a 6, .inl (t 1, 8, .inl j.nw)), (a 7, .inl (t 0, 32, .inl j.hs)), (a 8, .inl (t 0, 20, .inl j.cn)), (a 9, .inl (t 0, 32, .inl j.cd)), (a 10, .inl (t 0, 204, .inl j.lt)), (a 11, .inl (t 0, 20, .inl r.bf)), (a 12, .inl (t 2, 8, .inr (.inl r.pu))), (a 13, .inl (t 1, 16, .inl (fun j9 => nI (r.ow j9)))), (a 14, .inl (t 1, 16, .inl (fun j9 => nI (r.cs j9)))), (a 15, .inl (t 1, 16, .inl r.ct)), (a 16, .inl (t 1, 16, .inl r.st)), (a 17, .inl (t 2, 16, .inr (.inl r.sds))), (a 18, .inl (t 1, 16, .inl (fun j9 => nI (r.en j9)))), (a 19, .inl (t 2, 16, .inr (.inl r.wo))), (a 20, .inl (t 2, 16, .inr (.inl r.wt))), (a 21, .inl (t 1, 16, .inl r.go)), (a 22, .inl (t 1, 16, .inl r.ov)), (a 23, .inl (t 3, 16, .inl (fun j9 => bI (r.Bk j9)))), (a 24, .inl (t 3, 16, .inl (fun j9 => bI (r.Cl j9)))), (a 25, .inl (t 1, 128, .inl r.rd)), (a 26, .inl (t 1, 128, .inl r.se)), (a 27, .inl (t 1, 8, .inl (fun j9 => nI (r.ks j9)))), (a 28, .inl (t 2, 16, .inr (.inl r.mm1))), (a 29, .inl (t 2, 16, .inr (.inl r.mm2))), (a 30, .inl (t 1, 8, .inl r.ba)), (a 31, .inl (t 1, 8, .inl r.wr)), (a 32, .inl (t 3, 128, .inl (fun j9 => bI (r.L j9)))), (a 33, .inl (t 1, 128, .inl (fun j9 => nI (r.ix j9)))), (a 34, .inl (t 0, 2560, .inl r.la)), (a 35, .inl (t 1, 128, .inl r.mi))]
def cX (t : Nat → ClassId) (T h : Nat → Nat) (ma : Nat → Option Nat) (j : CJ) (r : RS) : va_W := [(T 0, .inr (3, tO T h (nI r.wk) (nI r.dy) (nI r.b) r.kp r.tw)), (T 1, .inl (t 2, 8, .inr (.inl r.pu))), (T 2, .inl (t 4, 16, .inr (.inr (.inr (.inr j.sa))))), (T 3, .inl (t 5, 8, .inr (.inr (.inr (.inr ma))))), (T 4, .inl (t 0, 20, .inl r.bf)), (T 5, .inl (t 0, 16, .inl (kb r.k1 r.k2))), (T 6, .inl (t 0, 16, .inl (kb r.o1 r.o2))), (h 0, .inr (0, hO h j.len)), (h 1, .inl (t 0, 32, .inl j.cd)), (h 2, .inl (t 0, 20, .inl j.cn)), (h 3, .inl (t 0, 256, .inl j.row)), (h 4, .inl (t 1, 64, .inl j.wds)), (h 5, .inl (t 1, 8, .inl j.sm))]
def wrc (v : Int32) : Int32 := if v = (-1) then nI 3 else v
def enR (r : RS) (s : Nat) : Int32 := nI (r.en s)
def cfR (r : RS) (s : Nat) : Nat → Int32 := cnf (r.sds s) (r.cs s)
def ltR (r : RS) (s : Nat) : Nat → Int32 := ltr (nI s) (nI (r.cs s)) (r.ct s) (nI (r.en s)) (r.st s) (chn (r.sds s) (r.cs s - 1)) (kb (r.wo s) (r.wt s))
def rdR (r : RS) (s : Nat) : Nat → Int32 := fun z => r.rd (8 * s + z)
def seR (r : RS) (s : Nat) : Nat → Int32 := fun z => r.se (8 * s + z)
def lsR (r : RS) (m : Nat) : Nat := lc r.L m 16
def wrR (r : RS) (m : Nat) : Int32 := wrc (r.wr m)
def k1R (r : RS) (m : Nat) : Nat → Int32 := kb (r.mm1 (2 * m)) (r.mm2 (2 * m))
def k2R (r : RS) (m : Nat) : Nat → Int32 := kb (r.mm1 (2 * m + 1)) (r.mm2 (2 * m + 1))
def bkR (r : RS) (m : Nat) : Nat → Bool := fun s => bitn (r.ba m) s
def olR (r : RS) (m : Nat) : Nat → Bool := fun s => r.L (8 * s + m)
def ixR (r : RS) (m : Nat) : Nat → Nat := fun s => r.ix (8 * s + m)
def laR (r : RS) (m : Nat) : Nat → Int32 := fun z => r.la (20 * (8 * (z / 20) + m) + z % 20)
def miR (r : RS) (m : Nat) : Nat → Int32 := fun p => r.mi (16 * m + p)
def scR (t : Nat → ClassId) (sg : Nat → Nat → Nat) (r : RS) : Nat → va_W := scW t sg r.ow r.cs r.ct r.st (enR r) (cfR r) (ltR r) (rdR r) (seR r) r.go r.ov r.Bk r.Cl
def meR (t : Nat → ClassId) (mq : Nat → Nat → Nat) (r : RS) : Nat → va_W := meW t mq r.ks (lsR r) (wrR r) (k1R r) (k2R r) (bkR r) (olR r) (ixR r) (laR r) (miR r)
def cW (t : Nat → ClassId) (T h : Nat → Nat) (mq : Nat → Nat → Nat) (ma : Nat → Option Nat) (j : CJ) (r : RS) : va_W := cX t T h ma j r ++ (pool (scR t j.sg r) r.b ++ pool (meR t mq r) 8)
def okR (j : RJ) : Prop := fb j.hs ∧ fb j.cn ∧ fb j.cd ∧ fb j.lt
def okC (r : RS) (j : CJ) : Prop := (∀ s, s < r.b → j.sa s = some (j.sg s 0)) ∧ fb j.cd ∧ fb j.cn
def Ok (r : RS) : Prop := r.b ≤ 16 ∧ r.dy ≤ 1000000 ∧ (∀ j, r.cs j ≤ 60) ∧ (∀ j, r.ow j < 8) ∧ (∀ j, r.en j < 2 ^ 30) ∧ (∀ j, r.ix j ≤ 60) ∧ (∀ j, r.ks j ≤ 2) ∧ fb r.bf ∧ fb r.la ∧ (∀ j, r.b ≤ j → r.go j = 0 ∧ r.ov j = 0 ∧ r.Bk j = false ∧ r.Cl j = false) ∧ (∀ j, 8 * r.b ≤ j → r.rd j = 0 ∧ r.se j = 0 ∧ r.L j = false) ∧ (∀ m j, r.b ≤ j → j < 16 → bitn (r.ba m) j = false) ∧ (∀ m, r.wr m = (-1) ∨ wi (r.wr m) (nI 0) (nI 3) = true) ∧ (∀ m, m < 8 → lc r.L m 16 ≤ 6)
/-! what each call does to the state, what it answers -/
def s_newWeek (r : RS) (one two : Int64) : RS := (r.wk + 1, r.dy, r.b, r.kp, r.tw, one, two, r.k1, r.k2, r.pu, r.ow, r.cs, r.ct, r.st, r.sds, r.en, r.wo, r.wt, r.go, r.ov, r.Bk, r.Cl, r.rd, r.se, r.ks, r.mm1, r.mm2, r.ba, r.wr, r.L, r.ix, r.la, r.mi, r.bf)
def v_today (r : RS) (p0 : Int32) : Bool := !decide (p0 < nI r.dy ∨ nI 1000000 < p0)
def s_today1 (r : RS) (p0 : Int32) : RS := (r.wk, cN p0, r.b, r.kp, r.tw, r.k1, r.k2, r.o1, r.o2, r.pu, r.ow, r.cs, r.ct, r.st, r.sds, r.en, r.wo, r.wt, r.go, r.ov, r.Bk, r.Cl, r.rd, r.se, r.ks, r.mm1, r.mm2, r.ba, r.wr, r.L, r.ix, r.la, (if nI r.dy < p0 then fun _ => nI 0 else r.mi), r.bf)
def s_today (r : RS) (p0 : Int32) : RS := if v_today r p0 = true then s_today1 r p0 else r
def s_money1 (r : RS) (p0 : Int32) (c9 : Int64) : RS := (r.wk, r.dy, r.b, r.kp, r.tw, r.k1, r.k2, r.o1, r.o2, vp_updL r.pu (cN p0) (r.pu (cN p0) + c9), r.ow, r.cs, r.ct, r.st, r.sds, r.en, r.wo, r.wt, r.go, r.ov, r.Bk, r.Cl, r.rd, r.se, r.ks, r.mm1, r.mm2, r.ba, r.wr, r.L, r.ix, r.la, r.mi, r.bf)
def s_money (r : RS) (p0 : Int32) (c9 : Int64) : RS := if monf p0 c9 = true then s_money1 r p0 c9 else r
def s_buy2 (r : RS) (o n : Nat) (p2 p3 : Int32) (p4 : Int64) (dd : Nat) (pr : Int64) : RS := (r.wk, r.dy, r.b + 1, r.kp + pr, r.tw, r.k1, r.k2, r.o1, r.o2, vp_updL r.pu o (r.pu o - pr), va_up r.ow r.b o, va_up r.cs r.b n, upd r.ct r.b p2, upd r.st r.b p3, vp_updL r.sds r.b p4, va_up r.en r.b (r.dy + dd), vp_updL r.wo r.b r.k1, vp_updL r.wt r.b r.k2, r.go, r.ov, r.Bk, r.Cl, r.rd, r.se, r.ks, r.mm1, r.mm2, r.ba, r.wr, r.L, r.ix, r.la, r.mi, r.bf)
def s_buy (r : RS) (p0 p1 p2 p3 : Int32) (p4 : Int64) (p5 : Int32) : RS := s_buy2 r (cN p0) (cN p1) p2 p3 p4 (cN p5) (p1.toInt64 * p2.toInt64)
def v_ins (r : RS) (p0 p1 : Int32) : Int32 := insf (wi p0 (nI 0) (nI r.b - nI 1) && wi p1 (nI 0) (nI 7)) (r.L (8 * cN p0 + cN p1)) (knf (fun k => kq (ltR r (cN p0)) (r.mm1 (2 * (cN p1) + k)) (r.mm2 (2 * (cN p1) + k))) (r.ks (cN p1))) (bitn (r.st (cN p0)) (cN p1)) (!decide (nI r.dy ≤ nI (r.en (cN p0)))) (bitn (r.ba (cN p1)) (cN p0)) (decide (lc r.L (cN p1) 16 = 6)) (sty (r.wr (cN p1)))
def s_ins0 (r : RS) (s m : Nat) : RS := (r.wk, r.dy, r.b, r.kp, r.tw, r.k1, r.k2, r.o1, r.o2, r.pu, r.ow, r.cs, r.ct, r.st, r.sds, r.en, r.wo, r.wt, r.go, r.ov, r.Bk, r.Cl, r.rd, r.se, r.ks, r.mm1, r.mm2, r.ba, upd r.wr m (-1), va_up r.L (8 * s + m) true, va_up r.ix (8 * s + m) 0, cpo (fun k => ltR r s (12 + 20 * m + k)) r.la (20 * (8 * s + m)) 20, r.mi, r.bf)
def s_cut (r : RS) (m : Nat) (v : Int32) : RS := (r.wk, r.dy, r.b, r.kp, r.tw, r.k1, r.k2, r.o1, r.o2, r.pu, r.ow, r.cs, r.ct, r.st, r.sds, r.en, r.wo, r.wt, r.go, r.ov, r.Bk, r.Cl, r.rd, r.se, r.ks, r.mm1, r.mm2, r.ba, upd r.wr m v, r.L, r.ix, r.la, r.mi, r.bf)
def s_ins (r : RS) (p0 p1 : Int32) : RS := if v_ins r p0 p1 = nI 0 then s_ins0 r (cN p0) (cN p1) else if v_ins r p0 p1 = (-5) then s_cut r (cN p1) (-1) else r
def s_tk (r : RS) (s m pl k : Nat) (c : Nat → Int32) (M : Int32) : RS := (r.wk, r.dy, r.b, r.kp, r.tw, r.k1, r.k2, r.o1, r.o2, r.pu, r.ow, r.cs, r.ct, r.st, r.sds, r.en, r.wo, r.wt, r.go, r.ov, r.Bk, r.Cl, r.rd, r.se, r.ks, r.mm1, r.mm2, r.ba, upd r.wr m (-1), r.L, va_up r.ix (8 * s + m) k, cpo c r.la (20 * (8 * s + m)) 20, upd r.mi (16 * m + pl) (r.mi (16 * m + pl) + M), r.bf)
def mnt (r : RS) (s m k : Nat) : Int32 := nI 2 * r.ct s * nI (k - r.ix (8 * s + m))
def sbt (r : RS) (s m k : Nat) (c : Nat → Int32) : Bool := sb (fw c (nI m) k (k - r.ix (8 * s + m))) 0 r.la (20 * (8 * s + m)) 20
def ant (r : RS) (s m : Nat) (k : Int32) : Int32 := ans (r.L (8 * s + m)) (nI r.dy) (nI (r.en s)) (r.ix (8 * s + m)) (r.cs s) k
def v_tk (r : RS) (OK : Bool) (AN : Int32) (s m k : Nat) (c : Nat → Int32) : Int32 := payf OK AN (sbt r s m k c) (sty (r.wr m)) (mnt r s m k)
def s_pt (r : RS) (OK : Bool) (AN : Int32) (s m pl k : Nat) (c : Nat → Int32) : RS := if OK = true ∧ AN = nI 0 ∧ sbt r s m k c = true then (if sty (r.wr m) = true then s_tk r s m pl k c (mnt r s m k) else s_cut r m (-1)) else r
def kpy (r : RS) (s m k : Nat) : Nat := r.ix (8 * s + m) + k
def cpay (r : RS) (s m k : Nat) : Nat → Int32 := chn (r.sds s) (r.cs s - kpy r s m k)
def v_pay (r : RS) (p0 p1 p2 p3 : Int32) : Int32 := v_tk r (okp p0 p1 p2 p3 r.b) (ant r (cN p0) (cN p1) (nI (kpy r (cN p0) (cN p1) (cN p2)))) (cN p0) (cN p1) (kpy r (cN p0) (cN p1) (cN p2)) (cpay r (cN p0) (cN p1) (cN p2))
def s_pay (r : RS) (p0 p1 p2 p3 : Int32) : RS := s_pt r (okp p0 p1 p2 p3 r.b) (ant r (cN p0) (cN p1) (nI (kpy r (cN p0) (cN p1) (cN p2)))) (cN p0) (cN p1) (cN p3) (kpy r (cN p0) (cN p1) (cN p2)) (cpay r (cN p0) (cN p1) (cN p2))
def v_offer (r : RS) (p0 p1 p2 p3 : Int32) : Int32 := v_tk r (oko p0 p1 p3 r.b) (ant r (cN p0) (cN p1) p2) (cN p0) (cN p1) (cN p2) r.bf
def s_offer (r : RS) (p0 p1 p2 p3 : Int32) : RS := s_pt r (oko p0 p1 p3 r.b) (ant r (cN p0) (cN p1) p2) (cN p0) (cN p1) (cN p3) (cN p2) r.bf
def s_poke1 (r : RS) (p0 p1 : Int32) : RS := (r.wk, r.dy, r.b, r.kp, r.tw, r.k1, r.k2, r.o1, r.o2, r.pu, r.ow, r.cs, r.ct, r.st, r.sds, r.en, r.wo, r.wt, r.go, r.ov, r.Bk, r.Cl, r.rd, r.se, r.ks, r.mm1, r.mm2, r.ba, r.wr, r.L, r.ix, r.la, r.mi, upd r.bf (cN p0) (bx p1))
def s_poke (r : RS) (p0 p1 : Int32) : RS := if wi p0 (nI 0) (nI 19) = true then s_poke1 r p0 p1 else r
def s_power (r : RS) (p0 p1 : Int32) : RS := if (wi p0 (nI 0) (nI 7) && wi p1 (nI 0) (nI 3)) = true then s_cut r (cN p0) p1 else r
def s_empty1 (r : RS) (m : Nat) : RS := (r.wk, r.dy, r.b, r.kp, r.tw, r.k1, r.k2, r.o1, r.o2, r.pu, r.ow, r.cs, r.ct, r.st, r.sds, r.en, r.wo, r.wt, r.go, r.ov, r.Bk, r.Cl, emR r.rd r.L r.ix m 16, r.se, va_up r.ks m (min r.wk 2), vp_updL (vp_updL r.mm1 (2 * m) r.k1) (2 * m + 1) r.o1, vp_updL (vp_updL r.mm2 (2 * m) r.k2) (2 * m + 1) r.o2, upd r.ba m (bmask r.Bk 16), r.wr, emL r.L r.en r.dy m 16, r.ix, r.la, r.mi, r.bf)
def s_empty (r : RS) (p0 : Int32) : RS := if wi p0 (nI 0) (nI 7) = true then s_empty1 r (cN p0) else r
def v_empty (r : RS) (p0 : Int32) : Int32 := if wi p0 (nI 0) (nI 7) = true then nI (lc r.L (cN p0) 16) else (-1)
def stt (r : RS)  : SA := stA r.cs r.ct r.rd r.se r.en r.ow r.dy (r.go, r.ov, r.Bk, r.Cl, r.pu, r.kp, r.tw, 0) r.b
def s_settle (r : RS)  : RS := (r.wk, r.dy, r.b, (stt r).2.2.2.2.2.1, (stt r).2.2.2.2.2.2.1, r.k1, r.k2, r.o1, r.o2, (stt r).2.2.2.2.1, r.ow, r.cs, r.ct, r.st, r.sds, r.en, r.wo, r.wt, (stt r).1, (stt r).2.1, (stt r).2.2.1, (stt r).2.2.2.1, r.rd, cp r.rd r.se (8 * r.b), r.ks, r.mm1, r.mm2, r.ba, r.wr, r.L, r.ix, r.la, r.mi, r.bf)
def v_coin (r : RS) (p0 p1 p2 : Int32) : Int32 := cbf p0 p1 p2 r.b r.cs (fun sc j i => chn (r.sds sc) (r.cs sc - j) i)
def v_letter (r : RS) (p0 p1 : Int32) : Int32 := lbf p0 p1 r.b (ltR r)
def v_count (r : RS) (p0 : Int32) : Int32 := cntf p0 (nI r.b) (nI (lsum r.L 8)) (nI (cnt r.Bk r.b)) (nI (cnt r.Cl r.b)) (nI r.dy) (nI r.wk)
