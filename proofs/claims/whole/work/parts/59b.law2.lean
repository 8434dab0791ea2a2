section
variable {p : Program} {l : Launch} {e : Env} {s : State} {m : MethodId} {below : List Frame} {meth : Method} {c : Code} {D : va_G} {t : Nat → ClassId} {x : Nat → Nat} {b L i : Nat} {xs : Nat → Int32} {T h a : Nat → Nat} {mq : Nat → Nat → Nat} {ma : Nat → Option Nat} {jc : CJ} {jr : RJ} {r : RS} {ls : Array Slot} {Q : State → Prop} {H : Heap} {locs : List Loc}
set_option maxHeartbeats 1000000 in
set_option maxRecDepth 100000 in
theorem lw_offer (C : Cx p s m #[Value.ref b] c code 4 RL D t x (fun q : Nat => s.heap.size ≤ q)) (hX : va_X b L xs s s.heap) (hbl : b < s.heap.size) (hL : L < 2 ^ 31) (hi : i + 8 ≤ L) (hwk : r.wk < 2 ^ 30) (hma : ∀ k, k < 8 → ma k = some (mq k 0)) (ok : Ok r) (hjc : okC r jc) (hjr : okR jr) (K : LwK p l e s m below meth c D t T h a mq ma b r ls Q) (hl : lv_has ls 4 [(0, .ref b), (1, .ref (T 0)), (2, .ref (a 0)), (3, .int (nI i))]) (hP : va_P D vwCl (cW t T h mq ma jc r ++ rW t a jr r) H) (hD : va_D (fun q : Nat => s.heap.size ≤ q) (cW t T h mq ma jc r ++ rW t a jr r)) (hS : va_S (fun q : Nat => s.heap.size ≤ q) s.heap H locs) : W p l e room_1 s m #[Value.ref b] below meth c H locs (113 + 5 * r.b) (8307 + 1434 * r.b) Q (F0 m 492 ls []) := by
  obtain ⟨hx, hcb, hml, hown, hts, hK, hA, hX0, hN⟩ := id C
  have hbA : ¬ (fun q : Nat => s.heap.size ≤ q) b := Nat.not_le.mpr hbl
  have hb16 := ok.1
  refine lv_aload_n hx hcb dL_law_492 rfl (lv_at hl 1 rfl) ?_
  refine lv_aload_n hx hcb dL_law_493 rfl (lv_at hl 0 rfl) ?_
  refine lv_iload_n hx hcb dL_law_494 rfl (lv_at hl 3 rfl) ?_
  refine lv_iconst (v := nI 1) hx hcb dL_law_495 (by decide) ?_
  refine q_iadd (x := i) (y := 1) hx hcb dL_law_496 ?_
  refine q_sld hx hcb hX hbl hbA hS (show i + 1 < L by omega) hL dL_law_497 ?_
  refine lv_aload_n hx hcb dL_law_498 rfl (lv_at hl 0 rfl) ?_
  refine lv_iload_n hx hcb dL_law_499 rfl (lv_at hl 3 rfl) ?_
  refine lv_iconst (v := nI 2) hx hcb dL_law_500 (by decide) ?_
  refine q_iadd (x := i) (y := 2) hx hcb dL_law_501 ?_
  refine q_sld hx hcb hX hbl hbA hS (show i + 2 < L by omega) hL dL_law_502 ?_
  refine lv_aload_n hx hcb dL_law_503 rfl (lv_at hl 0 rfl) ?_
  refine lv_iload_n hx hcb dL_law_504 rfl (lv_at hl 3 rfl) ?_
  refine lv_iconst (v := nI 3) hx hcb dL_law_505 (by decide) ?_
  refine q_iadd (x := i) (y := 3) hx hcb dL_law_506 ?_
  refine q_sld hx hcb hX hbl hbA hS (show i + 3 < L by omega) hL dL_law_507 ?_
  refine lv_aload_n hx hcb dL_law_508 rfl (lv_at hl 0 rfl) ?_
  refine lv_iload_n hx hcb dL_law_509 rfl (lv_at hl 3 rfl) ?_
  refine lv_iconst (v := nI 4) hx hcb dL_law_510 (by decide) ?_
  refine q_iadd (x := i) (y := 4) hx hcb dL_law_511 ?_
  refine q_sld hx hcb hX hbl hbA hS (show i + 4 < L by omega) hL dL_law_512 ?_
  have KC : ∀ (u : CJ) (H : Heap) (locs : List Loc), okC (s_offer r (xs (i + 1)) (xs (i + 2)) (xs (i + 3)) (xs (i + 4))) u → va_P D vwCl (cW t T h mq ma u (s_offer r (xs (i + 1)) (xs (i + 2)) (xs (i + 3)) (xs (i + 4))) ++ rW t a jr r) H → va_D (fun q : Nat => s.heap.size ≤ q) (cW t T h mq ma u (s_offer r (xs (i + 1)) (xs (i + 2)) (xs (i + 3)) (xs (i + 4))) ++ rW t a jr r) → va_S (fun q : Nat => s.heap.size ≤ q) s.heap H locs → W p l e room_1 s m #[Value.ref b] below meth c H locs (113 + 5 * r.b + 0) (8307 + 1434 * r.b + 0) Q (F0 m 516 ls [.int (v_offer r (xs (i + 1)) (xs (i + 2)) (xs (i + 3)) (xs (i + 4)))]) := by
    intro u H locs hu hP hD hS
    refine lv_aload_n hx hcb dL_law_516 rfl (lv_at hl 2 rfl) ?_
    refine lv_aload_n hx hcb dL_law_517 rfl (lv_at hl 0 rfl) ?_
    refine lv_iload_n hx hcb dL_law_518 rfl (lv_at hl 3 rfl) ?_
    refine lv_iconst (v := nI 1) hx hcb dL_law_519 (by decide) ?_
    refine q_iadd (x := i) (y := 1) hx hcb dL_law_520 ?_
    refine q_sld hx hcb hX hbl hbA hS (show i + 1 < L by omega) hL dL_law_521 ?_
    refine lv_aload_n hx hcb dL_law_522 rfl (lv_at hl 0 rfl) ?_
    refine lv_iload_n hx hcb dL_law_523 rfl (lv_at hl 3 rfl) ?_
    refine lv_iconst (v := nI 2) hx hcb dL_law_524 (by decide) ?_
    refine q_iadd (x := i) (y := 2) hx hcb dL_law_525 ?_
    refine q_sld hx hcb hX hbl hbA hS (show i + 2 < L by omega) hL dL_law_526 ?_
    refine lv_aload_n hx hcb dL_law_527 rfl (lv_at hl 0 rfl) ?_
    refine lv_iload_n hx hcb dL_law_528 rfl (lv_at hl 3 rfl) ?_
    refine lv_iconst (v := nI 3) hx hcb dL_law_529 (by decide) ?_
    refine q_iadd (x := i) (y := 3) hx hcb dL_law_530 ?_
    refine q_sld hx hcb hX hbl hbA hS (show i + 3 < L by omega) hL dL_law_531 ?_
    refine lv_aload_n hx hcb dL_law_532 rfl (lv_at hl 0 rfl) ?_
    refine lv_iload_n hx hcb dL_law_533 rfl (lv_at hl 3 rfl) ?_
    refine lv_iconst (v := nI 4) hx hcb dL_law_534 (by decide) ?_
    refine q_iadd (x := i) (y := 4) hx hcb dL_law_535 ?_
    refine q_sld hx hcb hX hbl hbA hS (show i + 4 < L by omega) hL dL_law_536 ?_
    refine ct_callVW (ci := 4) (As := [.int (xs (i + 1)), .int (xs (i + 2)), .int (xs (i + 3)), .int (xs (i + 4))]) (rest := [.int (v_offer r (xs (i + 1)) (xs (i + 2)) (xs (i + 3)) (xs (i + 4)))]) C (ct_frL (wr := cW t T h mq ma u (s_offer r (xs (i + 1)) (xs (i + 2)) (xs (i + 3)) (xs (i + 4)))) (rf_offer l D t x a jr r (xs (i + 1)) (xs (i + 2)) (xs (i + 3)) (xs (i + 4)) ok hjr)) (cwV 4 hts (gt_app (by simpa using ⟨wm_L_48, wi_yX4_offer, wv_X4_offer, wz_X4⟩) (gt_code wc_X4_offer)) rfl rfl rfl (by decide +kernel) ⟨Nat.le_of_ble_eq_true rfl, Nat.le_of_ble_eq_true rfl⟩) rfl rfl mem_r hP hD hS rfl hl.1 rfl (Nat.le_of_ble_eq_true rfl) dL_law_537 ⟨by show 113 + 5 * r.b + 0 + 0 ≤ 600000; omega, by show 8307 + 1434 * r.b + 0 + 0 ≤ 7302250; omega⟩ (fun u2 H locs hu2 hP hD hS => ?_)
    refine W.eq (g2 := F0 m 540 ls [.int (v_offer r (xs (i + 1)) (xs (i + 2)) (xs (i + 3)) (xs (i + 4))), .int (v_offer r (xs (i + 1)) (xs (i + 2)) (xs (i + 3)) (xs (i + 4)))]) rfl ?_
    refine lv_icmp_eq (tgt := 859) hx hcb dL_law_540 (by decide) (fun _ => ?_) (fun q => absurd rfl q)
    have bw : (s_offer r (xs (i + 1)) (xs (i + 2)) (xs (i + 3)) (xs (i + 4))).b = r.b + 0 / 5 ∧ (s_offer r (xs (i + 1)) (xs (i + 2)) (xs (i + 3)) (xs (i + 4))).wk ≤ r.wk + 1 := bw_offer (r := r)
    have bw1 := bw.1
    exact K (s_offer r (xs (i + 1)) (xs (i + 2)) (xs (i + 3)) (xs (i + 4))) u u2 _ _ H locs (by omega) (by omega) bw.2 (ok_offer ok) hu hu2 hP hD hS
  by_cases hg : oko (xs (i + 1)) (xs (i + 2)) (xs (i + 4)) r.b = true
  · skip
    refine ct_callVW (ci := 3) (As := [.int (xs (i + 1)), .int (xs (i + 2)), .int (xs (i + 3)), .int (xs (i + 4))]) (rest := []) C (ct_fr (wr := rW t a jr r) (cl_offerY l D t x T h mq ma jc r (xs (i + 1)) (xs (i + 2)) (xs (i + 3)) (xs (i + 4)) ok hjc hma hg)) (cwV 4 hts (gt_app (by simpa using ⟨wm_L_45, wi_yX3_offer, wv_X3_offer, wz_X3⟩) (gt_code wc_X3_offer)) rfl rfl rfl (by decide +kernel) ⟨Nat.le_of_ble_eq_true rfl, Nat.le_of_ble_eq_true rfl⟩) rfl rfl mem_c hP hD hS rfl hl.1 rfl (Nat.le_of_ble_eq_true rfl) dL_law_513 ⟨by show 113 + 5 * r.b + 0 ≤ 600000; omega, by show 8307 + 1434 * r.b + 0 ≤ 7302250; omega⟩ (fun u H locs hu hP hD hS => ?_)
    exact W.eq (g2 := F0 m 516 ls [.int (v_offer r (xs (i + 1)) (xs (i + 2)) (xs (i + 3)) (xs (i + 4)))]) rfl (KC u H locs hu hP hD hS)
  · skip
    refine ct_callVW (ci := 3) (As := [.int (xs (i + 1)), .int (xs (i + 2)), .int (xs (i + 3)), .int (xs (i + 4))]) (rest := []) C (ct_fr (wr := rW t a jr r) (cl_offerN l D t x T h mq ma jc r (xs (i + 1)) (xs (i + 2)) (xs (i + 3)) (xs (i + 4)) ok hjc hma (Bool.eq_false_iff.mpr hg))) (cwV 4 hts (gt_app (by simpa using ⟨wm_L_45, wi_yX3_offer, wv_X3_offer, wz_X3⟩) (gt_code wc_X3_offer)) rfl rfl rfl (by decide +kernel) ⟨Nat.le_of_ble_eq_true rfl, Nat.le_of_ble_eq_true rfl⟩) rfl rfl mem_c hP hD hS rfl hl.1 rfl (Nat.le_of_ble_eq_true rfl) dL_law_513 ⟨by show 113 + 5 * r.b + 0 ≤ 600000; omega, by show 8307 + 1434 * r.b + 0 ≤ 7302250; omega⟩ (fun u H locs hu hP hD hS => ?_)
    exact W.eq (g2 := F0 m 516 ls [.int (v_offer r (xs (i + 1)) (xs (i + 2)) (xs (i + 3)) (xs (i + 4)))]) rfl (KC u H locs hu hP hD hS)
set_option maxHeartbeats 1000000 in
set_option maxRecDepth 100000 in
theorem lw_poke (C : Cx p s m #[Value.ref b] c code 4 RL D t x (fun q : Nat => s.heap.size ≤ q)) (hX : va_X b L xs s s.heap) (hbl : b < s.heap.size) (hL : L < 2 ^ 31) (hi : i + 8 ≤ L) (hwk : r.wk < 2 ^ 30) (hma : ∀ k, k < 8 → ma k = some (mq k 0)) (ok : Ok r) (hjc : okC r jc) (hjr : okR jr) (K : LwK p l e s m below meth c D t T h a mq ma b r ls Q) (hl : lv_has ls 4 [(0, .ref b), (1, .ref (T 0)), (2, .ref (a 0)), (3, .int (nI i))]) (hP : va_P D vwCl (cW t T h mq ma jc r ++ rW t a jr r) H) (hD : va_D (fun q : Nat => s.heap.size ≤ q) (cW t T h mq ma jc r ++ rW t a jr r)) (hS : va_S (fun q : Nat => s.heap.size ≤ q) s.heap H locs) : W p l e room_1 s m #[Value.ref b] below meth c H locs (113 + 5 * r.b) (8307 + 1434 * r.b) Q (F0 m 545 ls []) := by
  obtain ⟨hx, hcb, hml, hown, hts, hK, hA, hX0, hN⟩ := id C
  have hbA : ¬ (fun q : Nat => s.heap.size ≤ q) b := Nat.not_le.mpr hbl
  have hb16 := ok.1
  refine lv_aload_n hx hcb dL_law_545 rfl (lv_at hl 1 rfl) ?_
  refine lv_aload_n hx hcb dL_law_546 rfl (lv_at hl 0 rfl) ?_
  refine lv_iload_n hx hcb dL_law_547 rfl (lv_at hl 3 rfl) ?_
  refine lv_iconst (v := nI 1) hx hcb dL_law_548 (by decide) ?_
  refine q_iadd (x := i) (y := 1) hx hcb dL_law_549 ?_
  refine q_sld hx hcb hX hbl hbA hS (show i + 1 < L by omega) hL dL_law_550 ?_
  refine lv_aload_n hx hcb dL_law_551 rfl (lv_at hl 0 rfl) ?_
  refine lv_iload_n hx hcb dL_law_552 rfl (lv_at hl 3 rfl) ?_
  refine lv_iconst (v := nI 2) hx hcb dL_law_553 (by decide) ?_
  refine q_iadd (x := i) (y := 2) hx hcb dL_law_554 ?_
  refine q_sld hx hcb hX hbl hbA hS (show i + 2 < L by omega) hL dL_law_555 ?_
  refine ct_callVW (ci := 3) (As := [.int (xs (i + 1)), .int (xs (i + 2))]) (rest := []) C (ct_fr (wr := rW t a jr r) (cl_poke l D t x T h mq ma jc r (xs (i + 1)) (xs (i + 2)) ok hjc hma)) (cwV 2 hts (gt_app (by simpa using ⟨wm_L_49, wi_yX3_poke, wv_X3_poke, wz_X3⟩) (gt_code wc_X3_poke)) rfl rfl rfl (by decide +kernel) ⟨Nat.le_of_ble_eq_true rfl, Nat.le_of_ble_eq_true rfl⟩) rfl rfl mem_c hP hD hS rfl hl.1 rfl (Nat.le_of_ble_eq_true rfl) dL_law_556 ⟨by show 113 + 5 * r.b + 0 ≤ 600000; omega, by show 8307 + 1434 * r.b + 0 ≤ 7302250; omega⟩ (fun u H locs hu hP hD hS => ?_)
  refine W.eq (g2 := F0 m 559 ls [.int (bI (wi (xs (i + 1)) (nI 0) (nI 19)))]) rfl ?_
  refine lv_aload_n hx hcb dL_law_559 rfl (lv_at hl 2 rfl) ?_
  refine lv_aload_n hx hcb dL_law_560 rfl (lv_at hl 0 rfl) ?_
  refine lv_iload_n hx hcb dL_law_561 rfl (lv_at hl 3 rfl) ?_
  refine lv_iconst (v := nI 1) hx hcb dL_law_562 (by decide) ?_
  refine q_iadd (x := i) (y := 1) hx hcb dL_law_563 ?_
  refine q_sld hx hcb hX hbl hbA hS (show i + 1 < L by omega) hL dL_law_564 ?_
  refine lv_aload_n hx hcb dL_law_565 rfl (lv_at hl 0 rfl) ?_
  refine lv_iload_n hx hcb dL_law_566 rfl (lv_at hl 3 rfl) ?_
  refine lv_iconst (v := nI 2) hx hcb dL_law_567 (by decide) ?_
  refine q_iadd (x := i) (y := 2) hx hcb dL_law_568 ?_
  refine q_sld hx hcb hX hbl hbA hS (show i + 2 < L by omega) hL dL_law_569 ?_
  refine ct_callVW (ci := 4) (As := [.int (xs (i + 1)), .int (xs (i + 2))]) (rest := [.int (bI (wi (xs (i + 1)) (nI 0) (nI 19)))]) C (ct_frL (wr := cW t T h mq ma u (s_poke r (xs (i + 1)) (xs (i + 2)))) (rf_poke l D t x a jr r (xs (i + 1)) (xs (i + 2)) ok hjr)) (cwV 2 hts (gt_app (by simpa using ⟨wm_L_53, wi_yX4_poke, wv_X4_poke, wz_X4⟩) (gt_code wc_X4_poke)) rfl rfl rfl (by decide +kernel) ⟨Nat.le_of_ble_eq_true rfl, Nat.le_of_ble_eq_true rfl⟩) rfl rfl mem_r hP hD hS rfl hl.1 rfl (Nat.le_of_ble_eq_true rfl) dL_law_570 ⟨by show 113 + 5 * r.b + 0 + 0 ≤ 600000; omega, by show 8307 + 1434 * r.b + 0 + 0 ≤ 7302250; omega⟩ (fun u2 H locs hu2 hP hD hS => ?_)
  refine W.eq (g2 := F0 m 573 ls [.int (bI (wi (xs (i + 1)) (nI 0) (nI 19))), .int (bI (wi (xs (i + 1)) (nI 0) (nI 19)))]) rfl ?_
  refine lv_icmp_eq (tgt := 859) hx hcb dL_law_573 (by decide) (fun _ => ?_) (fun q => absurd rfl q)
  have bw : (s_poke r (xs (i + 1)) (xs (i + 2))).b = r.b + 0 / 5 ∧ (s_poke r (xs (i + 1)) (xs (i + 2))).wk ≤ r.wk + 1 := bw_poke (r := r)
  have bw1 := bw.1
  exact K (s_poke r (xs (i + 1)) (xs (i + 2))) u u2 _ _ H locs (by omega) (by omega) bw.2 (ok_poke ok) hu hu2 hP hD hS
set_option maxHeartbeats 1000000 in
set_option maxRecDepth 100000 in
theorem lw_coinByte (C : Cx p s m #[Value.ref b] c code 4 RL D t x (fun q : Nat => s.heap.size ≤ q)) (hX : va_X b L xs s s.heap) (hbl : b < s.heap.size) (hL : L < 2 ^ 31) (hi : i + 8 ≤ L) (hwk : r.wk < 2 ^ 30) (hma : ∀ k, k < 8 → ma k = some (mq k 0)) (ok : Ok r) (hjc : okC r jc) (hjr : okR jr) (K : LwK p l e s m below meth c D t T h a mq ma b r ls Q) (hl : lv_has ls 4 [(0, .ref b), (1, .ref (T 0)), (2, .ref (a 0)), (3, .int (nI i))]) (hP : va_P D vwCl (cW t T h mq ma jc r ++ rW t a jr r) H) (hD : va_D (fun q : Nat => s.heap.size ≤ q) (cW t T h mq ma jc r ++ rW t a jr r)) (hS : va_S (fun q : Nat => s.heap.size ≤ q) s.heap H locs) : W p l e room_1 s m #[Value.ref b] below meth c H locs (113 + 5 * r.b) (8307 + 1434 * r.b) Q (F0 m 578 ls []) := by
  obtain ⟨hx, hcb, hml, hown, hts, hK, hA, hX0, hN⟩ := id C
  have hbA : ¬ (fun q : Nat => s.heap.size ≤ q) b := Nat.not_le.mpr hbl
  have hb16 := ok.1
  refine lv_aload_n hx hcb dL_law_578 rfl (lv_at hl 1 rfl) ?_
  refine lv_aload_n hx hcb dL_law_579 rfl (lv_at hl 0 rfl) ?_
  refine lv_iload_n hx hcb dL_law_580 rfl (lv_at hl 3 rfl) ?_
  refine lv_iconst (v := nI 1) hx hcb dL_law_581 (by decide) ?_
  refine q_iadd (x := i) (y := 1) hx hcb dL_law_582 ?_
  refine q_sld hx hcb hX hbl hbA hS (show i + 1 < L by omega) hL dL_law_583 ?_
  refine lv_aload_n hx hcb dL_law_584 rfl (lv_at hl 0 rfl) ?_
  refine lv_iload_n hx hcb dL_law_585 rfl (lv_at hl 3 rfl) ?_
  refine lv_iconst (v := nI 2) hx hcb dL_law_586 (by decide) ?_
  refine q_iadd (x := i) (y := 2) hx hcb dL_law_587 ?_
  refine q_sld hx hcb hX hbl hbA hS (show i + 2 < L by omega) hL dL_law_588 ?_
  refine lv_aload_n hx hcb dL_law_589 rfl (lv_at hl 0 rfl) ?_
  refine lv_iload_n hx hcb dL_law_590 rfl (lv_at hl 3 rfl) ?_
  refine lv_iconst (v := nI 3) hx hcb dL_law_591 (by decide) ?_
  refine q_iadd (x := i) (y := 3) hx hcb dL_law_592 ?_
  refine q_sld hx hcb hX hbl hbA hS (show i + 3 < L by omega) hL dL_law_593 ?_
  have KC : ∀ (u : CJ) (H : Heap) (locs : List Loc), okC (r) u → va_P D vwCl (cW t T h mq ma u (r) ++ rW t a jr r) H → va_D (fun q : Nat => s.heap.size ≤ q) (cW t T h mq ma u (r) ++ rW t a jr r) → va_S (fun q : Nat => s.heap.size ≤ q) s.heap H locs → W p l e room_1 s m #[Value.ref b] below meth c H locs (113 + 5 * r.b + 0) (8307 + 1434 * r.b + 0) Q (F0 m 597 ls [.int (v_coin r (xs (i + 1)) (xs (i + 2)) (xs (i + 3)))]) := by
    intro u H locs hu hP hD hS
    refine lv_aload_n hx hcb dL_law_597 rfl (lv_at hl 2 rfl) ?_
    refine lv_aload_n hx hcb dL_law_598 rfl (lv_at hl 0 rfl) ?_
    refine lv_iload_n hx hcb dL_law_599 rfl (lv_at hl 3 rfl) ?_
    refine lv_iconst (v := nI 1) hx hcb dL_law_600 (by decide) ?_
    refine q_iadd (x := i) (y := 1) hx hcb dL_law_601 ?_
    refine q_sld hx hcb hX hbl hbA hS (show i + 1 < L by omega) hL dL_law_602 ?_
    refine lv_aload_n hx hcb dL_law_603 rfl (lv_at hl 0 rfl) ?_
    refine lv_iload_n hx hcb dL_law_604 rfl (lv_at hl 3 rfl) ?_
    refine lv_iconst (v := nI 2) hx hcb dL_law_605 (by decide) ?_
    refine q_iadd (x := i) (y := 2) hx hcb dL_law_606 ?_
    refine q_sld hx hcb hX hbl hbA hS (show i + 2 < L by omega) hL dL_law_607 ?_
    refine lv_aload_n hx hcb dL_law_608 rfl (lv_at hl 0 rfl) ?_
    refine lv_iload_n hx hcb dL_law_609 rfl (lv_at hl 3 rfl) ?_
    refine lv_iconst (v := nI 3) hx hcb dL_law_610 (by decide) ?_
    refine q_iadd (x := i) (y := 3) hx hcb dL_law_611 ?_
    refine q_sld hx hcb hX hbl hbA hS (show i + 3 < L by omega) hL dL_law_612 ?_
    refine ct_callVW (ci := 4) (As := [.int (xs (i + 1)), .int (xs (i + 2)), .int (xs (i + 3))]) (rest := [.int (v_coin r (xs (i + 1)) (xs (i + 2)) (xs (i + 3)))]) C (ct_frL (wr := cW t T h mq ma u (r)) (rf_coinByte l D t x a jr r (xs (i + 1)) (xs (i + 2)) (xs (i + 3)) ok hjr)) (cwV 3 hts (gt_app (by simpa using ⟨wm_L_58, wi_yX4_coinByte, wv_X4_coinByte, wz_X4⟩) (gt_code wc_X4_coinByte)) rfl rfl rfl (by decide +kernel) ⟨Nat.le_of_ble_eq_true rfl, Nat.le_of_ble_eq_true rfl⟩) rfl rfl mem_r hP hD hS rfl hl.1 rfl (Nat.le_of_ble_eq_true rfl) dL_law_613 ⟨by show 113 + 5 * r.b + 0 + 0 ≤ 600000; omega, by show 8307 + 1434 * r.b + 0 + 0 ≤ 7302250; omega⟩ (fun u2 H locs hu2 hP hD hS => ?_)
    refine W.eq (g2 := F0 m 616 ls [.int (v_coin r (xs (i + 1)) (xs (i + 2)) (xs (i + 3))), .int (v_coin r (xs (i + 1)) (xs (i + 2)) (xs (i + 3)))]) rfl ?_
    refine lv_icmp_eq (tgt := 859) hx hcb dL_law_616 (by decide) (fun _ => ?_) (fun q => absurd rfl q)
    have bw : (r).b = r.b + 0 / 5 ∧ (r).wk ≤ r.wk + 1 := bw_id
    have bw1 := bw.1
    exact K (r) u u2 _ _ H locs (by omega) (by omega) bw.2 (ok) hu hu2 hP hD hS
  by_cases hg : wi (xs (i + 1)) (nI 0) (nI r.b - nI 1) = true
  · skip
    refine ct_callVW (ci := 3) (As := [.int (xs (i + 1)), .int (xs (i + 2)), .int (xs (i + 3))]) (rest := []) C (ct_fr (wr := rW t a jr r) (cl_coinByteY l D t x T h mq ma jc r (xs (i + 1)) (xs (i + 2)) (xs (i + 3)) ok hjc hma hg)) (cwV 3 hts (gt_app (by simpa using ⟨wm_L_54, wi_yX3_coinByte, wv_X3_coinByte, wz_X3⟩) (gt_code wc_X3_coinByte)) rfl rfl rfl (by decide +kernel) ⟨Nat.le_of_ble_eq_true rfl, Nat.le_of_ble_eq_true rfl⟩) rfl rfl mem_c hP hD hS rfl hl.1 rfl (Nat.le_of_ble_eq_true rfl) dL_law_594 ⟨by show 113 + 5 * r.b + 0 ≤ 600000; omega, by show 8307 + 1434 * r.b + 0 ≤ 7302250; omega⟩ (fun u H locs hu hP hD hS => ?_)
    exact W.eq (g2 := F0 m 597 ls [.int (v_coin r (xs (i + 1)) (xs (i + 2)) (xs (i + 3)))]) rfl (KC u H locs hu hP hD hS)
  · skip
    refine ct_callVW (ci := 3) (As := [.int (xs (i + 1)), .int (xs (i + 2)), .int (xs (i + 3))]) (rest := []) C (ct_fr (wr := rW t a jr r) (cl_coinByteN l D t x T h mq ma jc r (xs (i + 1)) (xs (i + 2)) (xs (i + 3)) ok hjc hma (Bool.eq_false_iff.mpr hg))) (cwV 3 hts (gt_app (by simpa using ⟨wm_L_54, wi_yX3_coinByte, wv_X3_coinByte, wz_X3⟩) (gt_code wc_X3_coinByte)) rfl rfl rfl (by decide +kernel) ⟨Nat.le_of_ble_eq_true rfl, Nat.le_of_ble_eq_true rfl⟩) rfl rfl mem_c hP hD hS rfl hl.1 rfl (Nat.le_of_ble_eq_true rfl) dL_law_594 ⟨by show 113 + 5 * r.b + 0 ≤ 600000; omega, by show 8307 + 1434 * r.b + 0 ≤ 7302250; omega⟩ (fun u H locs hu hP hD hS => ?_)
    exact W.eq (g2 := F0 m 597 ls [.int (v_coin r (xs (i + 1)) (xs (i + 2)) (xs (i + 3)))]) rfl (KC u H locs hu hP hD hS)
set_option maxHeartbeats 1000000 in
set_option maxRecDepth 100000 in
theorem lw_letterByte (C : Cx p s m #[Value.ref b] c code 4 RL D t x (fun q : Nat => s.heap.size ≤ q)) (hX : va_X b L xs s s.heap) (hbl : b < s.heap.size) (hL : L < 2 ^ 31) (hi : i + 8 ≤ L) (hwk : r.wk < 2 ^ 30) (hma : ∀ k, k < 8 → ma k = some (mq k 0)) (ok : Ok r) (hjc : okC r jc) (hjr : okR jr) (K : LwK p l e s m below meth c D t T h a mq ma b r ls Q) (hl : lv_has ls 4 [(0, .ref b), (1, .ref (T 0)), (2, .ref (a 0)), (3, .int (nI i))]) (hP : va_P D vwCl (cW t T h mq ma jc r ++ rW t a jr r) H) (hD : va_D (fun q : Nat => s.heap.size ≤ q) (cW t T h mq ma jc r ++ rW t a jr r)) (hS : va_S (fun q : Nat => s.heap.size ≤ q) s.heap H locs) : W p l e room_1 s m #[Value.ref b] below meth c H locs (113 + 5 * r.b) (8307 + 1434 * r.b) Q (F0 m 621 ls []) := by
  obtain ⟨hx, hcb, hml, hown, hts, hK, hA, hX0, hN⟩ := id C
  have hbA : ¬ (fun q : Nat => s.heap.size ≤ q) b := Nat.not_le.mpr hbl
  have hb16 := ok.1
  refine lv_aload_n hx hcb dL_law_621 rfl (lv_at hl 1 rfl) ?_
  refine lv_aload_n hx hcb dL_law_622 rfl (lv_at hl 0 rfl) ?_
  refine lv_iload_n hx hcb dL_law_623 rfl (lv_at hl 3 rfl) ?_
  refine lv_iconst (v := nI 1) hx hcb dL_law_624 (by decide) ?_
  refine q_iadd (x := i) (y := 1) hx hcb dL_law_625 ?_
  refine q_sld hx hcb hX hbl hbA hS (show i + 1 < L by omega) hL dL_law_626 ?_
  refine lv_aload_n hx hcb dL_law_627 rfl (lv_at hl 0 rfl) ?_
  refine lv_iload_n hx hcb dL_law_628 rfl (lv_at hl 3 rfl) ?_
  refine lv_iconst (v := nI 2) hx hcb dL_law_629 (by decide) ?_
  refine q_iadd (x := i) (y := 2) hx hcb dL_law_630 ?_
  refine q_sld hx hcb hX hbl hbA hS (show i + 2 < L by omega) hL dL_law_631 ?_
  have KC : ∀ (u : CJ) (H : Heap) (locs : List Loc), okC (r) u → va_P D vwCl (cW t T h mq ma u (r) ++ rW t a jr r) H → va_D (fun q : Nat => s.heap.size ≤ q) (cW t T h mq ma u (r) ++ rW t a jr r) → va_S (fun q : Nat => s.heap.size ≤ q) s.heap H locs → W p l e room_1 s m #[Value.ref b] below meth c H locs (113 + 5 * r.b + 0) (8307 + 1434 * r.b + 0) Q (F0 m 635 ls [.int (v_letter r (xs (i + 1)) (xs (i + 2)))]) := by
    intro u H locs hu hP hD hS
    refine lv_aload_n hx hcb dL_law_635 rfl (lv_at hl 2 rfl) ?_
    refine lv_aload_n hx hcb dL_law_636 rfl (lv_at hl 0 rfl) ?_
    refine lv_iload_n hx hcb dL_law_637 rfl (lv_at hl 3 rfl) ?_
    refine lv_iconst (v := nI 1) hx hcb dL_law_638 (by decide) ?_
    refine q_iadd (x := i) (y := 1) hx hcb dL_law_639 ?_
    refine q_sld hx hcb hX hbl hbA hS (show i + 1 < L by omega) hL dL_law_640 ?_
    refine lv_aload_n hx hcb dL_law_641 rfl (lv_at hl 0 rfl) ?_
    refine lv_iload_n hx hcb dL_law_642 rfl (lv_at hl 3 rfl) ?_
    refine lv_iconst (v := nI 2) hx hcb dL_law_643 (by decide) ?_
    refine q_iadd (x := i) (y := 2) hx hcb dL_law_644 ?_
    refine q_sld hx hcb hX hbl hbA hS (show i + 2 < L by omega) hL dL_law_645 ?_
    refine ct_callVW (ci := 4) (As := [.int (xs (i + 1)), .int (xs (i + 2))]) (rest := [.int (v_letter r (xs (i + 1)) (xs (i + 2)))]) C (ct_frL (wr := cW t T h mq ma u (r)) (rf_letterByte l D t x a jr r (xs (i + 1)) (xs (i + 2)) ok hjr)) (cwV 2 hts (gt_app (by simpa using ⟨wm_L_62, wi_yX4_letterByte, wv_X4_letterByte, wz_X4⟩) (gt_code wc_X4_letterByte)) rfl rfl rfl (by decide +kernel) ⟨Nat.le_of_ble_eq_true rfl, Nat.le_of_ble_eq_true rfl⟩) rfl rfl mem_r hP hD hS rfl hl.1 rfl (Nat.le_of_ble_eq_true rfl) dL_law_646 ⟨by show 113 + 5 * r.b + 0 + 0 ≤ 600000; omega, by show 8307 + 1434 * r.b + 0 + 0 ≤ 7302250; omega⟩ (fun u2 H locs hu2 hP hD hS => ?_)
    refine W.eq (g2 := F0 m 649 ls [.int (v_letter r (xs (i + 1)) (xs (i + 2))), .int (v_letter r (xs (i + 1)) (xs (i + 2)))]) rfl ?_
    refine lv_icmp_eq (tgt := 859) hx hcb dL_law_649 (by decide) (fun _ => ?_) (fun q => absurd rfl q)
    have bw : (r).b = r.b + 0 / 5 ∧ (r).wk ≤ r.wk + 1 := bw_id
    have bw1 := bw.1
    exact K (r) u u2 _ _ H locs (by omega) (by omega) bw.2 (ok) hu hu2 hP hD hS
  by_cases hg : wi (xs (i + 1)) (nI 0) (nI r.b - nI 1) = true
  · skip
    refine ct_callVW (ci := 3) (As := [.int (xs (i + 1)), .int (xs (i + 2))]) (rest := []) C (ct_fr (wr := rW t a jr r) (cl_letterByteY l D t x T h mq ma jc r (xs (i + 1)) (xs (i + 2)) ok hjc hma hg)) (cwV 2 hts (gt_app (by simpa using ⟨wm_L_59, wi_yX3_letterByte, wv_X3_letterByte, wz_X3⟩) (gt_code wc_X3_letterByte)) rfl rfl rfl (by decide +kernel) ⟨Nat.le_of_ble_eq_true rfl, Nat.le_of_ble_eq_true rfl⟩) rfl rfl mem_c hP hD hS rfl hl.1 rfl (Nat.le_of_ble_eq_true rfl) dL_law_632 ⟨by show 113 + 5 * r.b + 0 ≤ 600000; omega, by show 8307 + 1434 * r.b + 0 ≤ 7302250; omega⟩ (fun u H locs hu hP hD hS => ?_)
    exact W.eq (g2 := F0 m 635 ls [.int (v_letter r (xs (i + 1)) (xs (i + 2)))]) rfl (KC u H locs hu hP hD hS)
  · skip
    refine ct_callVW (ci := 3) (As := [.int (xs (i + 1)), .int (xs (i + 2))]) (rest := []) C (ct_fr (wr := rW t a jr r) (cl_letterByteN l D t x T h mq ma jc r (xs (i + 1)) (xs (i + 2)) ok hjc hma (Bool.eq_false_iff.mpr hg))) (cwV 2 hts (gt_app (by simpa using ⟨wm_L_59, wi_yX3_letterByte, wv_X3_letterByte, wz_X3⟩) (gt_code wc_X3_letterByte)) rfl rfl rfl (by decide +kernel) ⟨Nat.le_of_ble_eq_true rfl, Nat.le_of_ble_eq_true rfl⟩) rfl rfl mem_c hP hD hS rfl hl.1 rfl (Nat.le_of_ble_eq_true rfl) dL_law_632 ⟨by show 113 + 5 * r.b + 0 ≤ 600000; omega, by show 8307 + 1434 * r.b + 0 ≤ 7302250; omega⟩ (fun u H locs hu hP hD hS => ?_)
    exact W.eq (g2 := F0 m 635 ls [.int (v_letter r (xs (i + 1)) (xs (i + 2)))]) rfl (KC u H locs hu hP hD hS)
set_option maxHeartbeats 1000000 in
set_option maxRecDepth 100000 in
theorem lw_powerCut (C : Cx p s m #[Value.ref b] c code 4 RL D t x (fun q : Nat => s.heap.size ≤ q)) (hX : va_X b L xs s s.heap) (hbl : b < s.heap.size) (hL : L < 2 ^ 31) (hi : i + 8 ≤ L) (hwk : r.wk < 2 ^ 30) (hma : ∀ k, k < 8 → ma k = some (mq k 0)) (ok : Ok r) (hjc : okC r jc) (hjr : okR jr) (K : LwK p l e s m below meth c D t T h a mq ma b r ls Q) (hl : lv_has ls 4 [(0, .ref b), (1, .ref (T 0)), (2, .ref (a 0)), (3, .int (nI i))]) (hP : va_P D vwCl (cW t T h mq ma jc r ++ rW t a jr r) H) (hD : va_D (fun q : Nat => s.heap.size ≤ q) (cW t T h mq ma jc r ++ rW t a jr r)) (hS : va_S (fun q : Nat => s.heap.size ≤ q) s.heap H locs) : W p l e room_1 s m #[Value.ref b] below meth c H locs (113 + 5 * r.b) (8307 + 1434 * r.b) Q (F0 m 654 ls []) := by
  obtain ⟨hx, hcb, hml, hown, hts, hK, hA, hX0, hN⟩ := id C
  have hbA : ¬ (fun q : Nat => s.heap.size ≤ q) b := Nat.not_le.mpr hbl
  have hb16 := ok.1
  refine lv_aload_n hx hcb dL_law_654 rfl (lv_at hl 1 rfl) ?_
  refine lv_aload_n hx hcb dL_law_655 rfl (lv_at hl 0 rfl) ?_
  refine lv_iload_n hx hcb dL_law_656 rfl (lv_at hl 3 rfl) ?_
  refine lv_iconst (v := nI 1) hx hcb dL_law_657 (by decide) ?_
  refine q_iadd (x := i) (y := 1) hx hcb dL_law_658 ?_
  refine q_sld hx hcb hX hbl hbA hS (show i + 1 < L by omega) hL dL_law_659 ?_
  refine lv_aload_n hx hcb dL_law_660 rfl (lv_at hl 0 rfl) ?_
  refine lv_iload_n hx hcb dL_law_661 rfl (lv_at hl 3 rfl) ?_
  refine lv_iconst (v := nI 2) hx hcb dL_law_662 (by decide) ?_
  refine q_iadd (x := i) (y := 2) hx hcb dL_law_663 ?_
  refine q_sld hx hcb hX hbl hbA hS (show i + 2 < L by omega) hL dL_law_664 ?_
  have KC : ∀ (u : CJ) (H : Heap) (locs : List Loc), okC (s_power r (xs (i + 1)) (xs (i + 2))) u → va_P D vwCl (cW t T h mq ma u (s_power r (xs (i + 1)) (xs (i + 2))) ++ rW t a jr r) H → va_D (fun q : Nat => s.heap.size ≤ q) (cW t T h mq ma u (s_power r (xs (i + 1)) (xs (i + 2))) ++ rW t a jr r) → va_S (fun q : Nat => s.heap.size ≤ q) s.heap H locs → W p l e room_1 s m #[Value.ref b] below meth c H locs (113 + 5 * r.b + 0) (8307 + 1434 * r.b + 0) Q (F0 m 668 ls [.int (bI (wi (xs (i + 1)) (nI 0) (nI 7) && wi (xs (i + 2)) (nI 0) (nI 3)))]) := by
    intro u H locs hu hP hD hS
    refine lv_aload_n hx hcb dL_law_668 rfl (lv_at hl 2 rfl) ?_
    refine lv_aload_n hx hcb dL_law_669 rfl (lv_at hl 0 rfl) ?_
    refine lv_iload_n hx hcb dL_law_670 rfl (lv_at hl 3 rfl) ?_
    refine lv_iconst (v := nI 1) hx hcb dL_law_671 (by decide) ?_
    refine q_iadd (x := i) (y := 1) hx hcb dL_law_672 ?_
    refine q_sld hx hcb hX hbl hbA hS (show i + 1 < L by omega) hL dL_law_673 ?_
    refine lv_aload_n hx hcb dL_law_674 rfl (lv_at hl 0 rfl) ?_
    refine lv_iload_n hx hcb dL_law_675 rfl (lv_at hl 3 rfl) ?_
    refine lv_iconst (v := nI 2) hx hcb dL_law_676 (by decide) ?_
    refine q_iadd (x := i) (y := 2) hx hcb dL_law_677 ?_
    refine q_sld hx hcb hX hbl hbA hS (show i + 2 < L by omega) hL dL_law_678 ?_
    refine ct_callVW (ci := 4) (As := [.int (xs (i + 1)), .int (xs (i + 2))]) (rest := [.int (bI (wi (xs (i + 1)) (nI 0) (nI 7) && wi (xs (i + 2)) (nI 0) (nI 3)))]) C (ct_frL (wr := cW t T h mq ma u (s_power r (xs (i + 1)) (xs (i + 2)))) (rf_powerCut l D t x a jr r (xs (i + 1)) (xs (i + 2)) ok hjr)) (cwV 2 hts (gt_app (by simpa using ⟨wm_L_66, wi_yX4_powerCut, wv_X4_powerCut, wz_X4⟩) (gt_code wc_X4_powerCut)) rfl rfl rfl (by decide +kernel) ⟨Nat.le_of_ble_eq_true rfl, Nat.le_of_ble_eq_true rfl⟩) rfl rfl mem_r hP hD hS rfl hl.1 rfl (Nat.le_of_ble_eq_true rfl) dL_law_679 ⟨by show 113 + 5 * r.b + 0 + 0 ≤ 600000; omega, by show 8307 + 1434 * r.b + 0 + 0 ≤ 7302250; omega⟩ (fun u2 H locs hu2 hP hD hS => ?_)
    refine W.eq (g2 := F0 m 682 ls [.int (bI (wi (xs (i + 1)) (nI 0) (nI 7) && wi (xs (i + 2)) (nI 0) (nI 3))), .int (bI (wi (xs (i + 1)) (nI 0) (nI 7) && wi (xs (i + 2)) (nI 0) (nI 3)))]) rfl ?_
    refine lv_icmp_eq (tgt := 859) hx hcb dL_law_682 (by decide) (fun _ => ?_) (fun q => absurd rfl q)
    have bw : (s_power r (xs (i + 1)) (xs (i + 2))).b = r.b + 0 / 5 ∧ (s_power r (xs (i + 1)) (xs (i + 2))).wk ≤ r.wk + 1 := bw_power (r := r)
    have bw1 := bw.1
    exact K (s_power r (xs (i + 1)) (xs (i + 2))) u u2 _ _ H locs (by omega) (by omega) bw.2 (ok_power ok) hu hu2 hP hD hS
  by_cases hg : wi (xs (i + 1)) (nI 0) (nI 7) = true
  · skip
    refine ct_callVW (ci := 3) (As := [.int (xs (i + 1)), .int (xs (i + 2))]) (rest := []) C (ct_fr (wr := rW t a jr r) (cl_powerCutY l D t x T h mq ma jc r (xs (i + 1)) (xs (i + 2)) ok hjc hma hg)) (cwV 2 hts (gt_app (by simpa using ⟨wm_L_63, wi_yX3_powerCut, wv_X3_powerCut, wz_X3⟩) (gt_code wc_X3_powerCut)) rfl rfl rfl (by decide +kernel) ⟨Nat.le_of_ble_eq_true rfl, Nat.le_of_ble_eq_true rfl⟩) rfl rfl mem_c hP hD hS rfl hl.1 rfl (Nat.le_of_ble_eq_true rfl) dL_law_665 ⟨by show 113 + 5 * r.b + 0 ≤ 600000; omega, by show 8307 + 1434 * r.b + 0 ≤ 7302250; omega⟩ (fun u H locs hu hP hD hS => ?_)
    exact W.eq (g2 := F0 m 668 ls [.int (bI (wi (xs (i + 1)) (nI 0) (nI 7) && wi (xs (i + 2)) (nI 0) (nI 3)))]) rfl (KC u H locs hu hP hD hS)
  · skip
    refine ct_callVW (ci := 3) (As := [.int (xs (i + 1)), .int (xs (i + 2))]) (rest := []) C (ct_fr (wr := rW t a jr r) (cl_powerCutN l D t x T h mq ma jc r (xs (i + 1)) (xs (i + 2)) ok hjc hma (Bool.eq_false_iff.mpr hg))) (cwV 2 hts (gt_app (by simpa using ⟨wm_L_63, wi_yX3_powerCut, wv_X3_powerCut, wz_X3⟩) (gt_code wc_X3_powerCut)) rfl rfl rfl (by decide +kernel) ⟨Nat.le_of_ble_eq_true rfl, Nat.le_of_ble_eq_true rfl⟩) rfl rfl mem_c hP hD hS rfl hl.1 rfl (Nat.le_of_ble_eq_true rfl) dL_law_665 ⟨by show 113 + 5 * r.b + 0 ≤ 600000; omega, by show 8307 + 1434 * r.b + 0 ≤ 7302250; omega⟩ (fun u H locs hu hP hD hS => ?_)
    exact W.eq (g2 := F0 m 668 ls [.int (bI (wi (xs (i + 1)) (nI 0) (nI 7) && wi (xs (i + 2)) (nI 0) (nI 3)))]) rfl (KC u H locs hu hP hD hS)
set_option maxHeartbeats 1000000 in
set_option maxRecDepth 100000 in
theorem lw_empty (C : Cx p s m #[Value.ref b] c code 4 RL D t x (fun q : Nat => s.heap.size ≤ q)) (hX : va_X b L xs s s.heap) (hbl : b < s.heap.size) (hL : L < 2 ^ 31) (hi : i + 8 ≤ L) (hwk : r.wk < 2 ^ 30) (hma : ∀ k, k < 8 → ma k = some (mq k 0)) (ok : Ok r) (hjc : okC r jc) (hjr : okR jr) (K : LwK p l e s m below meth c D t T h a mq ma b r ls Q) (hl : lv_has ls 4 [(0, .ref b), (1, .ref (T 0)), (2, .ref (a 0)), (3, .int (nI i))]) (hP : va_P D vwCl (cW t T h mq ma jc r ++ rW t a jr r) H) (hD : va_D (fun q : Nat => s.heap.size ≤ q) (cW t T h mq ma jc r ++ rW t a jr r)) (hS : va_S (fun q : Nat => s.heap.size ≤ q) s.heap H locs) : W p l e room_1 s m #[Value.ref b] below meth c H locs (113 + 5 * r.b) (8307 + 1434 * r.b) Q (F0 m 687 ls []) := by
  obtain ⟨hx, hcb, hml, hown, hts, hK, hA, hX0, hN⟩ := id C
  have hbA : ¬ (fun q : Nat => s.heap.size ≤ q) b := Nat.not_le.mpr hbl
  have hb16 := ok.1
  refine lv_aload_n hx hcb dL_law_687 rfl (lv_at hl 1 rfl) ?_
  refine lv_aload_n hx hcb dL_law_688 rfl (lv_at hl 0 rfl) ?_
  refine lv_iload_n hx hcb dL_law_689 rfl (lv_at hl 3 rfl) ?_
  refine lv_iconst (v := nI 1) hx hcb dL_law_690 (by decide) ?_
  refine q_iadd (x := i) (y := 1) hx hcb dL_law_691 ?_
  refine q_sld hx hcb hX hbl hbA hS (show i + 1 < L by omega) hL dL_law_692 ?_
  have KC : ∀ (u : CJ) (H : Heap) (locs : List Loc), okC (s_empty r (xs (i + 1))) u → va_P D vwCl (cW t T h mq ma u (s_empty r (xs (i + 1))) ++ rW t a jr r) H → va_D (fun q : Nat => s.heap.size ≤ q) (cW t T h mq ma u (s_empty r (xs (i + 1))) ++ rW t a jr r) → va_S (fun q : Nat => s.heap.size ≤ q) s.heap H locs → W p l e room_1 s m #[Value.ref b] below meth c H locs (113 + 5 * r.b + 0) (8307 + 1434 * r.b + 0) Q (F0 m 696 ls [.int (v_empty r (xs (i + 1)))]) := by
    intro u H locs hu hP hD hS
    refine lv_aload_n hx hcb dL_law_696 rfl (lv_at hl 2 rfl) ?_
    refine lv_aload_n hx hcb dL_law_697 rfl (lv_at hl 0 rfl) ?_
    refine lv_iload_n hx hcb dL_law_698 rfl (lv_at hl 3 rfl) ?_
    refine lv_iconst (v := nI 1) hx hcb dL_law_699 (by decide) ?_
    refine q_iadd (x := i) (y := 1) hx hcb dL_law_700 ?_
    refine q_sld hx hcb hX hbl hbA hS (show i + 1 < L by omega) hL dL_law_701 ?_
    refine ct_callVW (ci := 4) (As := [.int (xs (i + 1))]) (rest := [.int (v_empty r (xs (i + 1)))]) C (ct_frL (wr := cW t T h mq ma u (s_empty r (xs (i + 1)))) (rf_empty l D t x a jr r (xs (i + 1)) ok hjr hwk)) (cwV 1 hts (gt_app (by simpa using ⟨wm_L_71, wi_yX4_empty, wv_X4_empty, wz_X4⟩) (gt_code wc_X4_empty)) rfl rfl rfl (by decide +kernel) ⟨Nat.le_of_ble_eq_true rfl, Nat.le_of_ble_eq_true rfl⟩) rfl rfl mem_r hP hD hS rfl hl.1 rfl (Nat.le_of_ble_eq_true rfl) dL_law_702 ⟨by show 113 + 5 * r.b + 0 + 0 ≤ 600000; omega, by show 8307 + 1434 * r.b + 0 + 0 ≤ 7302250; omega⟩ (fun u2 H locs hu2 hP hD hS => ?_)
    refine W.eq (g2 := F0 m 705 ls [.int (v_empty r (xs (i + 1))), .int (v_empty r (xs (i + 1)))]) rfl ?_
    refine lv_icmp_eq (tgt := 859) hx hcb dL_law_705 (by decide) (fun _ => ?_) (fun q => absurd rfl q)
    have bw : (s_empty r (xs (i + 1))).b = r.b + 0 / 5 ∧ (s_empty r (xs (i + 1))).wk ≤ r.wk + 1 := bw_empty (r := r)
    have bw1 := bw.1
    exact K (s_empty r (xs (i + 1))) u u2 _ _ H locs (by omega) (by omega) bw.2 (ok_empty ok) hu hu2 hP hD hS
  by_cases hg : wi (xs (i + 1)) (nI 0) (nI 7) = true
  · skip
    refine ct_callVW (ci := 3) (As := [.int (xs (i + 1))]) (rest := []) C (ct_fr (wr := rW t a jr r) (cl_emptyY l D t x T h mq ma jc r (xs (i + 1)) ok hjc hma hwk hg)) (cwV 1 hts (gt_app (by simpa using ⟨wm_L_67, wi_yX3_empty, wv_X3_empty, wz_X3⟩) (gt_code wc_X3_empty)) rfl rfl rfl (by decide +kernel) ⟨Nat.le_of_ble_eq_true rfl, Nat.le_of_ble_eq_true rfl⟩) rfl rfl mem_c hP hD hS rfl hl.1 rfl (Nat.le_of_ble_eq_true rfl) dL_law_693 ⟨by show 113 + 5 * r.b + 0 ≤ 600000; omega, by show 8307 + 1434 * r.b + 0 ≤ 7302250; omega⟩ (fun u H locs hu hP hD hS => ?_)
    exact W.eq (g2 := F0 m 696 ls [.int (v_empty r (xs (i + 1)))]) rfl (KC u H locs hu hP hD hS)
  · skip
    refine ct_callVW (ci := 3) (As := [.int (xs (i + 1))]) (rest := []) C (ct_fr (wr := rW t a jr r) (cl_emptyN l D t x T h mq ma jc r (xs (i + 1)) ok hjc hma (Bool.eq_false_iff.mpr hg))) (cwV 1 hts (gt_app (by simpa using ⟨wm_L_67, wi_yX3_empty, wv_X3_empty, wz_X3⟩) (gt_code wc_X3_empty)) rfl rfl rfl (by decide +kernel) ⟨Nat.le_of_ble_eq_true rfl, Nat.le_of_ble_eq_true rfl⟩) rfl rfl mem_c hP hD hS rfl hl.1 rfl (Nat.le_of_ble_eq_true rfl) dL_law_693 ⟨by show 113 + 5 * r.b + 0 ≤ 600000; omega, by show 8307 + 1434 * r.b + 0 ≤ 7302250; omega⟩ (fun u H locs hu hP hD hS => ?_)
    exact W.eq (g2 := F0 m 696 ls [.int (v_empty r (xs (i + 1)))]) rfl (KC u H locs hu hP hD hS)
end
