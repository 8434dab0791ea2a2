/-! the class's pools over the state -/
theorem sc_go {D : va_G} {t : Nat → ClassId} {sg : Nat → Nat → Nat} {ow cs ow' cs' : Nat → Nat} {ct st en ct' st' en' : Nat → Int32} {cf lt rd se cf' lt' rd' se' : Nat → Nat → Int32} {go ov go' ov' : Nat → Int32} {bl cl bl' cl' : Nat → Bool} {s : Nat} (h1 : ow s = ow' s) (h2 : cs s = cs' s) (h3 : ct s = ct' s) (h4 : st s = st' s) (h5 : en s = en' s) (h6 : ∀ j, j < cs s * 20 → cf s j = cf' s j) (h7 : ∀ j, j < 204 → lt s j = lt' s j) (h8 : ∀ j, j < 8 → rd s j = rd' s j) (h9 : ∀ j, j < 8 → se s j = se' s j) (h10 : go s = go' s) (h11 : ov s = ov' s) (h12 : bl s = bl' s) (h13 : cl s = cl' s) :
    Go D (scW t sg ow cs ct st en cf lt rd se go ov bl cl s) (scW t sg ow' cs' ct' st' en' cf' lt' rd' se' go' ov' bl' cl' s) := by
  unfold scW
  refine Go.cons (Ge.eq (by rw [h1, h2, h3, h4, h5, h10, h11, h12, h13])) (Go.cons ?_ (Go.cons (Ge.arr h7) (Go.cons (Ge.arr h8) (Go.cons (Ge.arr h9) Go.nil))))
  rw [← h2]
  exact Ge.arr h6
theorem sc_sam {t : Nat → ClassId} {sg sg' : Nat → Nat → Nat} {ow cs ow' cs' : Nat → Nat} {ct st en ct' st' en' : Nat → Int32} {cf lt rd se cf' lt' rd' se' : Nat → Nat → Int32} {go ov go' ov' : Nat → Int32} {bl cl bl' cl' : Nat → Bool} {s : Nat} (h0 : sg s = sg' s) (h1 : ow s = ow' s) (h2 : cs s = cs' s) (h3 : ct s = ct' s) (h4 : st s = st' s) (h5 : en s = en' s) (h6 : cf s = cf' s) (h7 : lt s = lt' s) (h8 : rd s = rd' s) (h9 : se s = se' s) (h10 : go s = go' s) (h11 : ov s = ov' s) (h12 : bl s = bl' s) (h13 : cl s = cl' s) : scW t sg ow cs ct st en cf lt rd se go ov bl cl s = scW t sg' ow' cs' ct' st' en' cf' lt' rd' se' go' ov' bl' cl' s := by
  unfold scW
  rw [h0, h1, h2, h3, h4, h5, h6, h7, h8, h9, h10, h11, h12, h13]
theorem vpL_ne (f : Nat → Int64) {k j : Nat} (v : Int64) (h : j ≠ k) : vp_updL f k v j = f j := by unfold vp_updL; exact if_neg h
theorem vpL_at (f : Nat → Int64) (k : Nat) (v : Int64) : vp_updL f k v k = v := by unfold vp_updL; exact if_pos rfl
theorem pm_new (X N P Q : va_W) : ((X ++ N) ++ (P ++ Q)).Perm (X ++ ((P ++ N) ++ Q)) := by
  rw [List.append_assoc, ← List.append_assoc N]
  exact (List.perm_append_comm.append_right Q).append_left X
theorem me_go {D : va_G} {t : Nat → ClassId} {mq : Nat → Nat → Nat} {ks lsn ks' lsn' : Nat → Nat} {wr wr' : Nat → Int32} {ky kz ky' kz' : Nat → Nat → Int32} {bk ol bk' ol' : Nat → Nat → Bool} {ix ix' : Nat → Nat → Nat} {la mi la' mi' : Nat → Nat → Int32} {m : Nat} (h1 : ks m = ks' m) (h2 : lsn m = lsn' m) (h3 : wr m = wr' m) (h4 : ∀ j, j < 16 → ky m j = ky' m j) (h5 : ∀ j, j < 16 → kz m j = kz' m j) (h6 : ∀ j, j < 16 → bk m j = bk' m j) (h7 : ∀ j, j < 16 → ol m j = ol' m j) (h8 : ∀ j, j < 16 → ix m j = ix' m j) (h9 : ∀ j, j < 320 → la m j = la' m j) (h10 : ∀ j, j < 16 → mi m j = mi' m j) :
    Go D (meW t mq ks lsn wr ky kz bk ol ix la mi m) (meW t mq ks' lsn' wr' ky' kz' bk' ol' ix' la' mi' m) := by
  unfold meW
  exact Go.cons (Ge.eq (by rw [h1, h2, h3])) (Go.cons (Ge.arr h4) (Go.cons (Ge.arr h5) (Go.cons (Ge.arr (fun j hj => congrArg bI (h6 j hj))) (Go.cons (Ge.arr (fun j hj => congrArg bI (h7 j hj))) (Go.cons (Ge.arr (fun j hj => congrArg nI (h8 j hj))) (Go.cons (Ge.arr h9) (Go.cons (Ge.arr h10) Go.nil)))))))
section
variable {D : va_G} {t : Nat → ClassId} {T h : Nat → Nat} {mq : Nat → Nat → Nat} {ma : Nat → Option Nat} {j j' : CJ} {r r' : RS} {s m : Nat} {Y : va_W}
theorem cl_open (hs : s < r.b) (hm : m < 8) : (cW t T h mq ma j r).Perm (((cX t T h ma j r ++ scR t j.sg r s) ++ meR t mq r m) ++ (prest (scR t j.sg r) r.b s ++ prest (meR t mq r) 8 m)) := (pl_open _ _ _ hs).trans (pl_open2 _ _ _ hm)
theorem cl_openS (hs : s < r.b) : (cW t T h mq ma j r).Perm ((cX t T h ma j r ++ scR t j.sg r s) ++ (prest (scR t j.sg r) r.b s ++ pool (meR t mq r) 8)) := pl_open _ _ _ hs
theorem cl_openM (hm : m < 8) : (cW t T h mq ma j r).Perm ((cX t T h ma j r ++ meR t mq r m) ++ (pool (scR t j.sg r) r.b ++ prest (meR t mq r) 8 m)) := pl_open2 _ _ _ hm
theorem cl_shut (hs : s < r.b) (hm : m < 8) (hX : cX t T h ma j' r = cX t T h ma j' r') (hsg : j'.sg = j.sg) (hb : r'.b = r.b) (hS : scR t j.sg r' = scR t j.sg r) (hY : Go D Y (meR t mq r' m)) (hM : ∀ k, k < 8 → k ≠ m → Go D (meR t mq r k) (meR t mq r' k)) : Go D (((cX t T h ma j' r ++ scR t j.sg r s) ++ Y) ++ (prest (scR t j.sg r) r.b s ++ prest (meR t mq r) 8 m)) (cW t T h mq ma j' r') := by
  unfold cW
  rw [← hX, hsg, hb, hS]
  exact Go.tr (Go.app (Go.app Go.rf hY) (Go.app Go.rf (Go.prst hM))) (Go.pm (((pl_open (cX t T h ma j' r) (pool (meR t mq r') 8) (scR t j.sg r) hs).trans (pl_open2 (cX t T h ma j' r ++ scR t j.sg r s) (prest (scR t j.sg r) r.b s) (meR t mq r') hm)).symm))
theorem cl_shutM (hm : m < 8) (hX : cX t T h ma j r = cX t T h ma j r') (hb : r'.b = r.b) (hS : scR t j.sg r' = scR t j.sg r) (hY : Go D Y (meR t mq r' m)) (hM : ∀ k, k < 8 → k ≠ m → Go D (meR t mq r k) (meR t mq r' k)) : Go D ((cX t T h ma j r ++ Y) ++ (pool (scR t j.sg r) r.b ++ prest (meR t mq r) 8 m)) (cW t T h mq ma j r') := by
  unfold cW
  rw [← hX, hb, hS]
  exact Go.tr (Go.app (Go.app Go.rf hY) (Go.app Go.rf (Go.prst hM))) (Go.pm ((pl_open2 (cX t T h ma j r) (pool (scR t j.sg r) r.b) (meR t mq r') hm).symm))
theorem wrc_cut {v : Int32} (f : Nat → Int32) (m : Nat) (h : v = upd f m (-1) m) : nI 3 = wrc v := by
  rw [h, upd_at]
  rfl
/-- a meter, its power cut used up -/
theorem me_cut {m : Nat} {v : Int32} (k : Nat) (hk : k ≠ m) : Go D (meR t mq r k) (meR t mq (s_cut r m v) k) :=
  me_go rfl rfl (show wrc (r.wr k) = wrc (upd r.wr m v k) by rw [upd_ne' _ _ hk]) (fun _ _ => rfl) (fun _ _ => rfl) (fun _ _ => rfl) (fun _ _ => rfl) (fun _ _ => rfl) (fun _ _ => rfl) (fun _ _ => rfl)
/-- a coin taken, or not -/
theorem s_pt_b {OK : Bool} {AN : Int32} {pl k : Nat} {c : Nat → Int32} : (s_pt r OK AN s m pl k c).b = r.b := by
  unfold s_pt
  split
  · split <;> rfl
  · rfl
theorem cl_take {AN MIN v wr1 : Int32} {SB ST : Bool} {pl K sp : Nat} {f c la1 mi1 : Nat → Int32} {ix1 : Nat → Nat} (hs : s < r.b) (hm : m < 8) (hpl : pl < 16) (hsg : j'.sg = j.sg)
    (hp : PYs AN SB ST MIN v (wrR r m) wr1 (laR r m) (va_cpy f (laR r m) sp (s * 20) 20) la1 (ixR r m) (va_up (ixR r m) s K) ix1 (miR r m) (upd (miR r m) pl (miR r m pl + MIN)) mi1) (hSB : SB = sbt r s m K c) (hST : ST = sty (r.wr m)) (hMIN : MIN = mnt r s m K) (hf : ∀ k, k < 20 → f (sp + k) = c k) :
    v = v_tk r true AN s m K c ∧ Go D (((cX t T h ma j' r ++ scR t j.sg r s) ++ meW t mq r.ks (lsR r) (fun _ => wr1) (k1R r) (k2R r) (bkR r) (olR r) (fun _ => ix1) (fun _ => la1) (fun _ => mi1) m) ++ (prest (scR t j.sg r) r.b s ++ prest (meR t mq r) 8 m)) (cW t T h mq ma j' (s_pt r true AN s m pl K c)) := by
  have nn : ¬ true = false := by decide
  have stay : wr1 = wrR r m → la1 = laR r m → ix1 = ixR r m → mi1 = miR r m → ¬ (true = true ∧ AN = nI 0 ∧ sbt r s m K c = true) → Go D (((cX t T h ma j' r ++ scR t j.sg r s) ++ meW t mq r.ks (lsR r) (fun _ => wr1) (k1R r) (k2R r) (bkR r) (olR r) (fun _ => ix1) (fun _ => la1) (fun _ => mi1) m) ++ (prest (scR t j.sg r) r.b s ++ prest (meR t mq r) 8 m)) (cW t T h mq ma j' (s_pt r true AN s m pl K c)) := by
    intro e1 e2 e3 e4 hn
    rw [s_pt, if_neg hn, e1, e2, e3, e4]
    exact cl_shut hs hm rfl hsg rfl rfl Go.rf (fun _ _ _ => Go.rf)
  rcases hp with ⟨h1, h2, e1, e2, e3, e4⟩ | ⟨h1, hp⟩
  · exact ⟨by rw [v_tk, payf, if_neg nn, if_pos h1, h2], stay e1 e2 e3 e4 (fun q => h1 q.2.1)⟩
  · rcases hp with ⟨h2, h3, e1, e2, e3, e4⟩ | ⟨h2, h4, h3, e1, e2, e3, e4⟩ | ⟨h2, h4, h3, e1, e2, e3, e4⟩
    · rw [hSB] at h2
      exact ⟨by rw [v_tk, payf, if_neg nn, if_neg (fun q => q h1), if_pos h2, h3], stay e1 e2 e3 e4 (fun q => by rw [h2] at q; exact absurd q.2.2 (by decide))⟩
    · rw [hSB] at h2
      rw [hST] at h4
      refine ⟨by rw [v_tk, payf, if_neg nn, if_neg (fun q => q h1), if_neg (by rw [h2]; decide), if_pos h4, h3], ?_⟩
      rw [s_pt, if_pos ⟨rfl, h1, h2⟩, if_neg (by rw [h4]; decide), e1, e2, e3, e4]
      exact cl_shut hs hm rfl hsg rfl rfl (me_go rfl rfl (wrc_cut r.wr m rfl) (fun _ _ => rfl) (fun _ _ => rfl) (fun _ _ => rfl) (fun _ _ => rfl) (fun _ _ => rfl) (fun _ _ => rfl) (fun _ _ => rfl)) (fun k _ hk => me_cut k hk)
    · rw [hSB] at h2
      rw [hST] at h4
      refine ⟨by rw [v_tk, payf, if_neg nn, if_neg (fun q => q h1), if_neg (by rw [h2]; decide), if_neg (by rw [h4]; decide), h3, hMIN], ?_⟩
      rw [s_pt, if_pos ⟨rfl, h1, h2⟩, if_pos h4, e1, e2, e3, e4, hMIN]
      exact cl_shut hs hm rfl hsg rfl rfl (me_go rfl rfl (wrc_cut r.wr m rfl) (fun _ _ => rfl) (fun _ _ => rfl) (fun _ _ => rfl) (fun _ _ => rfl) (fun z _ => ix_up z) (fun z _ => la_up hf z) (fun z _ => mi_up z))
        (fun k hk8 hk => me_go rfl rfl (show wrc (r.wr k) = wrc (upd r.wr m (-1) k) by rw [upd_ne' _ _ hk]) (fun _ _ => rfl) (fun _ _ => rfl) (fun _ _ => rfl) (fun _ _ => rfl) (fun z _ => ix_ne hm hk8 hk z) (fun z _ => la_ne hm hk8 hk z) (fun z hz => mi_ne hpl hz hk))
/-- a letter taken, or not -/
theorem v_ins_eq (ok : Ok r) (hs : s < r.b) (hm : m < 8) : v_ins r (nI s) (nI m) = insf true (olR r m s) (kn2 (kqk (k1R r m) (ltR r s)) (kqk (k2R r m) (ltR r s)) (r.ks m)) (bitn (r.st s) m) (!decide (nI r.dy ≤ enR r s)) (bkR r m s) (decide (6 ≤ lsR r m)) (pl3 (wrR r m)) := by
  obtain ⟨hb16, hdy, hcs, how, hen, hix, hks, hbf, hla, hz, hz8, hbar, hwr, hlc⟩ := id ok
  have es : cN (nI s) = s := cN_nI (by omega)
  have em : cN (nI m) = m := cN_nI (by omega)
  have e6 : decide (lc r.L m 16 = 6) = decide (6 ≤ lc r.L m 16) := decide_eq_decide.mpr (by have := hlc m hm; omega)
  have e7 : pl3 (wrR r m) = sty (r.wr m) := pl3_wrc (hwr m)
  have e8 : (wi (nI s) (nI 0) (nI r.b - nI 1) && wi (nI m) (nI 0) (nI 7)) = true := by rw [wi_bt hs hb16, wi_t (Nat.zero_le m) (by omega) (by decide)]; rfl
  rw [v_ins, es, em, e6, e8, kn_eq (hks m), e7]
  rfl
theorem insf_00 {lst kn bit late bar full st : Bool} (h : insf true lst kn bit late bar full st = nI 0) : lst = false ∧ full = false := by
  revert h
  cases lst <;> cases kn <;> cases bit <;> cases late <;> cases bar <;> cases full <;> cases st <;> decide
theorem s_power_b {p0 p1 : Int32} : (s_power r p0 p1).b = r.b := by
  unfold s_power
  split <;> rfl
theorem s_ins_b {p0 p1 : Int32} : (s_ins r p0 p1).b = r.b := by
  unfold s_ins
  split
  · rfl
  · split <;> rfl
end
