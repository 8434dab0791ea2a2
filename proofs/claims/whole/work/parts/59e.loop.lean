set_option maxHeartbeats 1000000 in
set_option maxRecDepth 100000 in
/-- THE LAW'S LOOP -/
theorem law_loop {p : Program} {l : Launch} {e : Env} {s : State} {m : MethodId} {below : List Frame} {meth : Method} {c : Code} {D : va_G} {t : Nat → ClassId} {x : Nat → Nat} {b L : Nat} {xs : Nat → Int32} {T h a : Nat → Nat} {mq : Nat → Nat → Nat} {ma : Nat → Option Nat} (hL : L ≤ 4096) (C0 : lw_At p s m meth c b L xs) (C : Cx p s m #[Value.ref b] c code 4 RL D t x (fun q : Nat => s.heap.size ≤ q)) (hma : ∀ k, k < 8 → ma k = some (mq k 0)) :
    ∀ (n i : Nat) (r : RS) (jc : CJ) (jr : RJ) (cl sl : Nat) (H : Heap) (locs : List Loc) (ls : Array Slot), L + 1 ≤ i + n → i ≤ L → 8 * r.wk ≤ i → cl = 113 + 5 * r.b → sl = 8307 + 1434 * r.b → Ok r → okC r jc → okR jr → va_P D vwCl (cW t T h mq ma jc r ++ rW t a jr r) H → va_D (fun q : Nat => s.heap.size ≤ q) (cW t T h mq ma jc r ++ rW t a jr r) → va_S (fun q : Nat => s.heap.size ≤ q) s.heap H locs → lv_has ls 4 [(0, .ref b), (1, .ref (T 0)), (2, .ref (a 0)), (3, .int (nI i))] → W p l e room_1 s m #[Value.ref b] below meth c H locs cl sl (lw_Z below #[Value.ref b] s) (F0 m 18 ls []) := by
  obtain ⟨-, -, hr, -, -, -, hX, hbl, hlocks, -⟩ := C0
  obtain ⟨hx, hcb, hml, hown, hts, hK, hA, hX0, hN⟩ := id C
  have hbA : ¬ (fun q : Nat => s.heap.size ≤ q) b := Nat.not_le.mpr hbl
  have hL31 : L < 2 ^ 31 := by omega
  intro n
  induction n with
  | zero =>
    intro i r jc jr cl sl H locs ls h1 h2
    exact absurd h1 (by omega)
  | succ n ih =>
    intro i r jc jr cl sl H locs ls hin hiL hwk ecl esl ok hjc hjr hP hD hS hl
    subst cl sl
    have hb16 := ok.1
    refine lv_iload_n hx hcb dL_law_18 rfl (lv_at hl 3 rfl) ?_
    refine lv_aload_n hx hcb dL_law_19 rfl (lv_at hl 0 rfl) ?_
    refine va_slen hx hcb hX hbl hbA hS dL_law_20 ?_
    refine lv_bipush (v := nI 8) hx hcb dL_law_21 (by decide) ?_
    refine lv_isub hx hcb dL_law_23 ?_
    refine lv_icmp_gt (tgt := 865) hx hcb dL_law_24 (by decide) (fun c_1 => ?_) (fun c_1 => ?_)
    · refine lv_iconst (v := 1) hx hcb dL_law_865 (by decide) ?_
      refine va_forget (fun q hq => hS.2.2 q hq) ?_
      refine W.widen (k := 600000) (n := 7302250) (by omega) (by omega) ?_
      exact lw_ret hx hcb hr hlocks dL_law_866
    · have hi8 : i + 8 ≤ L := by
        have q := Int32.not_lt.mp c_1
        rw [Int32.le_iff_toInt_le, nI_toInt (by omega)] at q
        have q2 : (Int32.ofNat L - nI 8).toInt = (L : Int) - 8 := pk_sub_toInt (a := L) (b := 8) (by omega) (by decide)
        rw [q2] at q
        omega
      have hwk30 : r.wk < 2 ^ 30 := by omega
      have K : LwK p l e s m below meth c D t T h a mq ma b r ls (lw_Z below #[Value.ref b] s) := by
        intro r' jc' jr' cl' sl' H locs ecl esl hw ok' hjc' hjr' hP hD hS
        refine lv_iinc (v := nI (i + 8)) (lv' := [(3, .int (nI (i + 8))), (0, .ref b), (1, .ref (T 0)), (2, .ref (a 0))]) hx hcb dL_law_859 hl (k := 3) rfl (q_inc i 8 (by decide)) (by decide) rfl (fun ls hl => ?_)
        refine lv_goto (tgt := 18) hx hcb dL_law_862 (by decide) ?_
        exact ih (i + 8) r' jc' jr' cl' sl' H locs ls (by omega) (by omega) (by omega) ecl esl ok' hjc' hjr' hP hD hS (lv_sub hl [1, 2, 3, 0] rfl)
      refine lv_aload_n hx hcb dL_law_27 rfl (lv_at hl 0 rfl) ?_
      refine lv_iload_n hx hcb dL_law_28 rfl (lv_at hl 3 rfl) ?_
      refine q_sld hx hcb hX hbl hbA hS (show i < L by omega) hL31 dL_law_29 ?_
      refine lv_bipush (v := nI 31) hx hcb dL_law_30 (by decide) ?_
      refine lv_iand hx hcb dL_law_32 ?_
      obtain ⟨k, hk, ek⟩ := pk_andE (xs i) (m := nI 31) 5 (by decide)
      rw [ek]
      rcases (show k = 0 ∨ k = 1 ∨ k = 2 ∨ k = 3 ∨ k = 4 ∨ k = 5 ∨ k = 6 ∨ k = 7 ∨ k = 8 ∨ k = 9 ∨ k = 10 ∨ k = 11 ∨ k = 12 ∨ k = 13 ∨ k = 14 ∨ k = 15 ∨ k = 16 ∨ k = 17 ∨ 18 ≤ k by omega) with e | e | e | e | e | e | e | e | e | e | e | e | e | e | e | e | e | e | e
      · subst e
        refine lv_tableIn (tgt := 120) (off := 87) hx hcb dL_law_33 (by decide) (by decide) (by decide) (by decide) ?_
        exact lw_newWeek C hX hbl hL31 hi8 hwk30 hma ok hjc hjr K hl hP hD hS
      · subst e
        refine lv_tableIn (tgt := 213) (off := 180) hx hcb dL_law_33 (by decide) (by decide) (by decide) (by decide) ?_
        exact lw_today C hX hbl hL31 hi8 hwk30 hma ok hjc hjr K hl hP hD hS
      · subst e
        refine lv_tableIn (tgt := 236) (off := 203) hx hcb dL_law_33 (by decide) (by decide) (by decide) (by decide) ?_
        exact lw_money C hX hbl hL31 hi8 hwk30 hma ok hjc hjr K hl hP hD hS
      · subst e
        refine lv_tableIn (tgt := 299) (off := 266) hx hcb dL_law_33 (by decide) (by decide) (by decide) (by decide) ?_
        exact lw_buy C hX hbl hL31 hi8 hwk30 hma ok hjc hjr K hl hP hD hS
      · subst e
        refine lv_tableIn (tgt := 406) (off := 373) hx hcb dL_law_33 (by decide) (by decide) (by decide) (by decide) ?_
        exact lw_insert C hX hbl hL31 hi8 hwk30 hma ok hjc hjr K hl hP hD hS
      · subst e
        refine lv_tableIn (tgt := 439) (off := 406) hx hcb dL_law_33 (by decide) (by decide) (by decide) (by decide) ?_
        exact lw_pay C hX hbl hL31 hi8 hwk30 hma ok hjc hjr K hl hP hD hS
      · subst e
        refine lv_tableIn (tgt := 492) (off := 459) hx hcb dL_law_33 (by decide) (by decide) (by decide) (by decide) ?_
        exact lw_offer C hX hbl hL31 hi8 hwk30 hma ok hjc hjr K hl hP hD hS
      · subst e
        refine lv_tableIn (tgt := 545) (off := 512) hx hcb dL_law_33 (by decide) (by decide) (by decide) (by decide) ?_
        exact lw_poke C hX hbl hL31 hi8 hwk30 hma ok hjc hjr K hl hP hD hS
      · subst e
        refine lv_tableIn (tgt := 578) (off := 545) hx hcb dL_law_33 (by decide) (by decide) (by decide) (by decide) ?_
        exact lw_coinByte C hX hbl hL31 hi8 hwk30 hma ok hjc hjr K hl hP hD hS
      · subst e
        refine lv_tableIn (tgt := 621) (off := 588) hx hcb dL_law_33 (by decide) (by decide) (by decide) (by decide) ?_
        exact lw_letterByte C hX hbl hL31 hi8 hwk30 hma ok hjc hjr K hl hP hD hS
      · subst e
        refine lv_tableIn (tgt := 654) (off := 621) hx hcb dL_law_33 (by decide) (by decide) (by decide) (by decide) ?_
        exact lw_powerCut C hX hbl hL31 hi8 hwk30 hma ok hjc hjr K hl hP hD hS
      · subst e
        refine lv_tableIn (tgt := 687) (off := 654) hx hcb dL_law_33 (by decide) (by decide) (by decide) (by decide) ?_
        exact lw_empty C hX hbl hL31 hi8 hwk30 hma ok hjc hjr K hl hP hD hS
      · subst e
        refine lv_tableIn (tgt := 710) (off := 677) hx hcb dL_law_33 (by decide) (by decide) (by decide) (by decide) ?_
        exact lw_settle C hX hbl hL31 hi8 hwk30 hma ok hjc hjr K hl hP hD hS
      · subst e
        refine lv_tableIn (tgt := 723) (off := 690) hx hcb dL_law_33 (by decide) (by decide) (by decide) (by decide) ?_
        exact lw_account C hX hbl hL31 hi8 hwk30 hma ok hjc hjr K hl hP hD hS
      · subst e
        refine lv_tableIn (tgt := 747) (off := 714) hx hcb dL_law_33 (by decide) (by decide) (by decide) (by decide) ?_
        exact lw_spent C hX hbl hL31 hi8 hwk30 hma ok hjc hjr K hl hP hD hS
      · subst e
        refine lv_tableIn (tgt := 780) (off := 747) hx hcb dL_law_33 (by decide) (by decide) (by decide) (by decide) ?_
        exact lw_overspent C hX hbl hL31 hi8 hwk30 hma ok hjc hjr K hl hP hD hS
      · subst e
        refine lv_tableIn (tgt := 803) (off := 770) hx hcb dL_law_33 (by decide) (by decide) (by decide) (by decide) ?_
        exact lw_minutes C hX hbl hL31 hi8 hwk30 hma ok hjc hjr K hl hP hD hS
      · subst e
        refine lv_tableIn (tgt := 836) (off := 803) hx hcb dL_law_33 (by decide) (by decide) (by decide) (by decide) ?_
        exact lw_count C hX hbl hL31 hi8 hwk30 hma ok hjc hjr K hl hP hD hS
      · refine lv_tableOut (tgt := 859) hx hcb dL_law_33 (Or.inr (by rw [nI_toInt (by omega)]; omega)) (by decide) ?_
        exact K r jc jr _ _ H locs rfl rfl (Nat.le_succ _) ok hjc hjr hP hD hS
