section
variable {p : Program} {l : Launch} {e : Env} {s : State} {m : MethodId} {below : List Frame} {meth : Method} {c : Code} {D : va_G} {t : Nat → ClassId} {x : Nat → Nat} {b L i : Nat} {xs : Nat → Int32} {T h a : Nat → Nat} {mq : Nat → Nat → Nat} {ma : Nat → Option Nat} {jc : CJ} {jr : RJ} {r : RS} {ls : Array Slot} {Q : State → Prop} {H : Heap} {locs : List Loc}
set_option maxHeartbeats 1000000 in
set_option maxRecDepth 100000 in
theorem lw_settle (C : Cx p s m #[Value.ref b] c code 4 RL D t x (fun q : Nat => s.heap.size ≤ q)) (hX : va_X b L xs s s.heap) (hbl : b < s.heap.size) (hL : L < 2 ^ 31) (hi : i + 8 ≤ L) (hwk : r.wk < 2 ^ 30) (hma : ∀ k, k < 8 → ma k = some (mq k 0)) (ok : Ok r) (hjc : okC r jc) (hjr : okR jr) (K : LwK p l e s m below meth c D t T h a mq ma b r ls Q) (hl : lv_has ls 4 [(0, .ref b), (1, .ref (T 0)), (2, .ref (a 0)), (3, .int (nI i))]) (hP : va_P D vwCl (cW t T h mq ma jc r ++ rW t a jr r) H) (hD : va_D (fun q : Nat => s.heap.size ≤ q) (cW t T h mq ma jc r ++ rW t a jr r)) (hS : va_S (fun q : Nat => s.heap.size ≤ q) s.heap H locs) : W p l e room_1 s m #[Value.ref b] below meth c H locs (113 + 5 * r.b) (8307 + 1434 * r.b) Q (F0 m 710 ls []) := by
  obtain ⟨hx, hcb, hml, hown, hts, hK, hA, hX0, hN⟩ := id C
  have hbA : ¬ (fun q : Nat => s.heap.size ≤ q) b := Nat.not_le.mpr hbl
  have hb16 := ok.1
  refine lv_aload_n hx hcb dL_law_710 rfl (lv_at hl 1 rfl) ?_
  refine ct_callVW (ci := 3) (As := []) (rest := []) C (ct_fr (wr := rW t a jr r) (cl_settle l D t x T h mq ma jc r  ok hjc hma)) (cwV 0 hts (gt_app (by simpa using ⟨wm_L_72, wi_yX3_settle, wv_X3_settle, wz_X3⟩) (gt_code wc_X3_settle)) rfl rfl rfl (by decide +kernel) ⟨Nat.le_of_ble_eq_true rfl, Nat.le_of_ble_eq_true rfl⟩) rfl rfl mem_c hP hD hS rfl hl.1 rfl (Nat.le_of_ble_eq_true rfl) dL_law_711 ⟨by show 113 + 5 * r.b + 0 ≤ 600000; omega, by show 8307 + 1434 * r.b + 0 ≤ 7302250; omega⟩ (fun u H locs hu hP hD hS => ?_)
  refine W.eq (g2 := F0 m 714 ls [.int (nI (stt r).2.2.2.2.2.2.2)]) rfl ?_
  refine lv_aload_n hx hcb dL_law_714 rfl (lv_at hl 2 rfl) ?_
  refine ct_callVW (ci := 4) (As := []) (rest := [.int (nI (stt r).2.2.2.2.2.2.2)]) C (ct_frL (wr := cW t T h mq ma u (s_settle r)) (rf_settle l D t x a jr r  ok hjr)) (cwV 0 hts (gt_app (by simpa using ⟨wm_L_76, wi_yX4_settle, wv_X4_settle, wz_X4⟩) (gt_code wc_X4_settle)) rfl rfl rfl (by decide +kernel) ⟨Nat.le_of_ble_eq_true rfl, Nat.le_of_ble_eq_true rfl⟩) rfl rfl mem_r hP hD hS rfl hl.1 rfl (Nat.le_of_ble_eq_true rfl) dL_law_715 ⟨by show 113 + 5 * r.b + 0 + 0 ≤ 600000; omega, by show 8307 + 1434 * r.b + 0 + 0 ≤ 7302250; omega⟩ (fun u2 H locs hu2 hP hD hS => ?_)
  refine W.eq (g2 := F0 m 718 ls [.int (nI (stt r).2.2.2.2.2.2.2), .int (nI (stt r).2.2.2.2.2.2.2)]) rfl ?_
  refine lv_icmp_eq (tgt := 859) hx hcb dL_law_718 (by decide) (fun _ => ?_) (fun q => absurd rfl q)
  have bw : (s_settle r).b = r.b + 0 / 5 ∧ (s_settle r).wk ≤ r.wk + 1 := bw_settle (r := r)
  have bw1 := bw.1
  exact K (s_settle r) u u2 _ _ H locs (by omega) (by omega) bw.2 (ok_settle ok) hu hu2 hP hD hS
set_option maxHeartbeats 1000000 in
set_option maxRecDepth 100000 in
theorem lw_account (C : Cx p s m #[Value.ref b] c code 4 RL D t x (fun q : Nat => s.heap.size ≤ q)) (hX : va_X b L xs s s.heap) (hbl : b < s.heap.size) (hL : L < 2 ^ 31) (hi : i + 8 ≤ L) (hwk : r.wk < 2 ^ 30) (hma : ∀ k, k < 8 → ma k = some (mq k 0)) (ok : Ok r) (hjc : okC r jc) (hjr : okR jr) (K : LwK p l e s m below meth c D t T h a mq ma b r ls Q) (hl : lv_has ls 4 [(0, .ref b), (1, .ref (T 0)), (2, .ref (a 0)), (3, .int (nI i))]) (hP : va_P D vwCl (cW t T h mq ma jc r ++ rW t a jr r) H) (hD : va_D (fun q : Nat => s.heap.size ≤ q) (cW t T h mq ma jc r ++ rW t a jr r)) (hS : va_S (fun q : Nat => s.heap.size ≤ q) s.heap H locs) : W p l e room_1 s m #[Value.ref b] below meth c H locs (113 + 5 * r.b) (8307 + 1434 * r.b) Q (F0 m 723 ls []) := by
  obtain ⟨hx, hcb, hml, hown, hts, hK, hA, hX0, hN⟩ := id C
  have hbA : ¬ (fun q : Nat => s.heap.size ≤ q) b := Nat.not_le.mpr hbl
  have hb16 := ok.1
  refine lv_aload_n hx hcb dL_law_723 rfl (lv_at hl 1 rfl) ?_
  refine lv_aload_n hx hcb dL_law_724 rfl (lv_at hl 0 rfl) ?_
  refine lv_iload_n hx hcb dL_law_725 rfl (lv_at hl 3 rfl) ?_
  refine lv_iconst (v := nI 1) hx hcb dL_law_726 (by decide) ?_
  refine q_iadd (x := i) (y := 1) hx hcb dL_law_727 ?_
  refine q_sld hx hcb hX hbl hbA hS (show i + 1 < L by omega) hL dL_law_728 ?_
  refine ct_callVW (ci := 3) (As := [.int (xs (i + 1))]) (rest := []) C (ct_fr (wr := rW t a jr r) (cl_account l D t x T h mq ma jc r (xs (i + 1)) ok hjc hma)) (cwV 1 hts (gt_app (by simpa using ⟨wm_L_77, wi_yX3_account, wv_X3_account, wz_X3⟩) (gt_code wc_X3_account)) rfl rfl rfl (by decide +kernel) ⟨Nat.le_of_ble_eq_true rfl, Nat.le_of_ble_eq_true rfl⟩) rfl rfl mem_c hP hD hS rfl hl.1 rfl (Nat.le_of_ble_eq_true rfl) dL_law_729 ⟨by show 113 + 5 * r.b + 0 ≤ 600000; omega, by show 8307 + 1434 * r.b + 0 ≤ 7302250; omega⟩ (fun u H locs hu hP hD hS => ?_)
  refine W.eq (g2 := F0 m 732 ls [.long (accf (xs (i + 1)) (psum r.pu 8) r.kp r.tw r.pu)]) rfl ?_
  refine lv_aload_n hx hcb dL_law_732 rfl (lv_at hl 2 rfl) ?_
  refine lv_aload_n hx hcb dL_law_733 rfl (lv_at hl 0 rfl) ?_
  refine lv_iload_n hx hcb dL_law_734 rfl (lv_at hl 3 rfl) ?_
  refine lv_iconst (v := nI 1) hx hcb dL_law_735 (by decide) ?_
  refine q_iadd (x := i) (y := 1) hx hcb dL_law_736 ?_
  refine q_sld hx hcb hX hbl hbA hS (show i + 1 < L by omega) hL dL_law_737 ?_
  refine ct_callVW (ci := 4) (As := [.int (xs (i + 1))]) (rest := [.long (accf (xs (i + 1)) (psum r.pu 8) r.kp r.tw r.pu)]) C (ct_frL (wr := cW t T h mq ma u (r)) (rf_account l D t x a jr r (xs (i + 1)) ok hjr)) (cwV 1 hts (gt_app (by simpa using ⟨wm_L_81, wi_yX4_account, wv_X4_account, wz_X4⟩) (gt_code wc_X4_account)) rfl rfl rfl (by decide +kernel) ⟨Nat.le_of_ble_eq_true rfl, Nat.le_of_ble_eq_true rfl⟩) rfl rfl mem_r hP hD hS rfl hl.1 rfl (Nat.le_of_ble_eq_true rfl) dL_law_738 ⟨by show 113 + 5 * r.b + 0 + 0 ≤ 600000; omega, by show 8307 + 1434 * r.b + 0 + 0 ≤ 7302250; omega⟩ (fun u2 H locs hu2 hP hD hS => ?_)
  refine W.eq (g2 := F0 m 741 ls [.long (accf (xs (i + 1)) (psum r.pu 8) r.kp r.tw r.pu), .long (accf (xs (i + 1)) (psum r.pu 8) r.kp r.tw r.pu)]) rfl ?_
  refine W.lcmp hx hcb dL_law_741 ?_
  refine lv_if_eq (tgt := 859) hx hcb dL_law_742 (by decide) (fun _ => ?_) (fun q => absurd ((lg_cmp_eq _ _).mpr rfl) q)
  have bw : (r).b = r.b + 0 / 5 ∧ (r).wk ≤ r.wk + 1 := bw_id
  have bw1 := bw.1
  exact K (r) u u2 _ _ H locs (by omega) (by omega) bw.2 (ok) hu hu2 hP hD hS
set_option maxHeartbeats 1000000 in
set_option maxRecDepth 100000 in
theorem lw_spent (C : Cx p s m #[Value.ref b] c code 4 RL D t x (fun q : Nat => s.heap.size ≤ q)) (hX : va_X b L xs s s.heap) (hbl : b < s.heap.size) (hL : L < 2 ^ 31) (hi : i + 8 ≤ L) (hwk : r.wk < 2 ^ 30) (hma : ∀ k, k < 8 → ma k = some (mq k 0)) (ok : Ok r) (hjc : okC r jc) (hjr : okR jr) (K : LwK p l e s m below meth c D t T h a mq ma b r ls Q) (hl : lv_has ls 4 [(0, .ref b), (1, .ref (T 0)), (2, .ref (a 0)), (3, .int (nI i))]) (hP : va_P D vwCl (cW t T h mq ma jc r ++ rW t a jr r) H) (hD : va_D (fun q : Nat => s.heap.size ≤ q) (cW t T h mq ma jc r ++ rW t a jr r)) (hS : va_S (fun q : Nat => s.heap.size ≤ q) s.heap H locs) : W p l e room_1 s m #[Value.ref b] below meth c H locs (113 + 5 * r.b) (8307 + 1434 * r.b) Q (F0 m 747 ls []) := by
  obtain ⟨hx, hcb, hml, hown, hts, hK, hA, hX0, hN⟩ := id C
  have hbA : ¬ (fun q : Nat => s.heap.size ≤ q) b := Nat.not_le.mpr hbl
  have hb16 := ok.1
  refine lv_aload_n hx hcb dL_law_747 rfl (lv_at hl 1 rfl) ?_
  refine lv_aload_n hx hcb dL_law_748 rfl (lv_at hl 0 rfl) ?_
  refine lv_iload_n hx hcb dL_law_749 rfl (lv_at hl 3 rfl) ?_
  refine lv_iconst (v := nI 1) hx hcb dL_law_750 (by decide) ?_
  refine q_iadd (x := i) (y := 1) hx hcb dL_law_751 ?_
  refine q_sld hx hcb hX hbl hbA hS (show i + 1 < L by omega) hL dL_law_752 ?_
  refine lv_aload_n hx hcb dL_law_753 rfl (lv_at hl 0 rfl) ?_
  refine lv_iload_n hx hcb dL_law_754 rfl (lv_at hl 3 rfl) ?_
  refine lv_iconst (v := nI 2) hx hcb dL_law_755 (by decide) ?_
  refine q_iadd (x := i) (y := 2) hx hcb dL_law_756 ?_
  refine q_sld hx hcb hX hbl hbA hS (show i + 2 < L by omega) hL dL_law_757 ?_
  have KC : ∀ (u : CJ) (H : Heap) (locs : List Loc), okC (r) u → va_P D vwCl (cW t T h mq ma u (r) ++ rW t a jr r) H → va_D (fun q : Nat => s.heap.size ≤ q) (cW t T h mq ma u (r) ++ rW t a jr r) → va_S (fun q : Nat => s.heap.size ≤ q) s.heap H locs → W p l e room_1 s m #[Value.ref b] below meth c H locs (113 + 5 * r.b + 0) (8307 + 1434 * r.b + 0) Q (F0 m 761 ls [.int (spf (xs (i + 1)) (xs (i + 2)) r.b r.L r.ix)]) := by
    intro u H locs hu hP hD hS
    refine lv_aload_n hx hcb dL_law_761 rfl (lv_at hl 2 rfl) ?_
    refine lv_aload_n hx hcb dL_law_762 rfl (lv_at hl 0 rfl) ?_
    refine lv_iload_n hx hcb dL_law_763 rfl (lv_at hl 3 rfl) ?_
    refine lv_iconst (v := nI 1) hx hcb dL_law_764 (by decide) ?_
    refine q_iadd (x := i) (y := 1) hx hcb dL_law_765 ?_
    refine q_sld hx hcb hX hbl hbA hS (show i + 1 < L by omega) hL dL_law_766 ?_
    refine lv_aload_n hx hcb dL_law_767 rfl (lv_at hl 0 rfl) ?_
    refine lv_iload_n hx hcb dL_law_768 rfl (lv_at hl 3 rfl) ?_
    refine lv_iconst (v := nI 2) hx hcb dL_law_769 (by decide) ?_
    refine q_iadd (x := i) (y := 2) hx hcb dL_law_770 ?_
    refine q_sld hx hcb hX hbl hbA hS (show i + 2 < L by omega) hL dL_law_771 ?_
    refine ct_callVW (ci := 4) (As := [.int (xs (i + 1)), .int (xs (i + 2))]) (rest := [.int (spf (xs (i + 1)) (xs (i + 2)) r.b r.L r.ix)]) C (ct_frL (wr := cW t T h mq ma u (r)) (rf_spent l D t x a jr r (xs (i + 1)) (xs (i + 2)) ok hjr)) (cwV 2 hts (gt_app (by simpa using ⟨wm_L_85, wi_yX4_spent, wv_X4_spent, wz_X4⟩) (gt_code wc_X4_spent)) rfl rfl rfl (by decide +kernel) ⟨Nat.le_of_ble_eq_true rfl, Nat.le_of_ble_eq_true rfl⟩) rfl rfl mem_r hP hD hS rfl hl.1 rfl (Nat.le_of_ble_eq_true rfl) dL_law_772 ⟨by show 113 + 5 * r.b + 0 + 0 ≤ 600000; omega, by show 8307 + 1434 * r.b + 0 + 0 ≤ 7302250; omega⟩ (fun u2 H locs hu2 hP hD hS => ?_)
    refine W.eq (g2 := F0 m 775 ls [.int (spf (xs (i + 1)) (xs (i + 2)) r.b r.L r.ix), .int (spf (xs (i + 1)) (xs (i + 2)) r.b r.L r.ix)]) rfl ?_
    refine lv_icmp_eq (tgt := 859) hx hcb dL_law_775 (by decide) (fun _ => ?_) (fun q => absurd rfl q)
    have bw : (r).b = r.b + 0 / 5 ∧ (r).wk ≤ r.wk + 1 := bw_id
    have bw1 := bw.1
    exact K (r) u u2 _ _ H locs (by omega) (by omega) bw.2 (ok) hu hu2 hP hD hS
  by_cases hg : (wi (xs (i + 1)) (nI 0) (nI r.b - nI 1) && wi (xs (i + 2)) (nI 0) (nI 7)) = true
  · skip
    refine ct_callVW (ci := 3) (As := [.int (xs (i + 1)), .int (xs (i + 2))]) (rest := []) C (ct_fr (wr := rW t a jr r) (cl_spentY l D t x T h mq ma jc r (xs (i + 1)) (xs (i + 2)) ok hjc hma hg)) (cwV 2 hts (gt_app (by simpa using ⟨wm_L_82, wi_yX3_spent, wv_X3_spent, wz_X3⟩) (gt_code wc_X3_spent)) rfl rfl rfl (by decide +kernel) ⟨Nat.le_of_ble_eq_true rfl, Nat.le_of_ble_eq_true rfl⟩) rfl rfl mem_c hP hD hS rfl hl.1 rfl (Nat.le_of_ble_eq_true rfl) dL_law_758 ⟨by show 113 + 5 * r.b + 0 ≤ 600000; omega, by show 8307 + 1434 * r.b + 0 ≤ 7302250; omega⟩ (fun u H locs hu hP hD hS => ?_)
    exact W.eq (g2 := F0 m 761 ls [.int (spf (xs (i + 1)) (xs (i + 2)) r.b r.L r.ix)]) rfl (KC u H locs hu hP hD hS)
  · skip
    refine ct_callVW (ci := 3) (As := [.int (xs (i + 1)), .int (xs (i + 2))]) (rest := []) C (ct_fr (wr := rW t a jr r) (cl_spentN l D t x T h mq ma jc r (xs (i + 1)) (xs (i + 2)) ok hjc hma (Bool.eq_false_iff.mpr hg))) (cwV 2 hts (gt_app (by simpa using ⟨wm_L_82, wi_yX3_spent, wv_X3_spent, wz_X3⟩) (gt_code wc_X3_spent)) rfl rfl rfl (by decide +kernel) ⟨Nat.le_of_ble_eq_true rfl, Nat.le_of_ble_eq_true rfl⟩) rfl rfl mem_c hP hD hS rfl hl.1 rfl (Nat.le_of_ble_eq_true rfl) dL_law_758 ⟨by show 113 + 5 * r.b + 0 ≤ 600000; omega, by show 8307 + 1434 * r.b + 0 ≤ 7302250; omega⟩ (fun u H locs hu hP hD hS => ?_)
    exact W.eq (g2 := F0 m 761 ls [.int (spf (xs (i + 1)) (xs (i + 2)) r.b r.L r.ix)]) rfl (KC u H locs hu hP hD hS)
set_option maxHeartbeats 1000000 in
set_option maxRecDepth 100000 in
theorem lw_overspent (C : Cx p s m #[Value.ref b] c code 4 RL D t x (fun q : Nat => s.heap.size ≤ q)) (hX : va_X b L xs s s.heap) (hbl : b < s.heap.size) (hL : L < 2 ^ 31) (hi : i + 8 ≤ L) (hwk : r.wk < 2 ^ 30) (hma : ∀ k, k < 8 → ma k = some (mq k 0)) (ok : Ok r) (hjc : okC r jc) (hjr : okR jr) (K : LwK p l e s m below meth c D t T h a mq ma b r ls Q) (hl : lv_has ls 4 [(0, .ref b), (1, .ref (T 0)), (2, .ref (a 0)), (3, .int (nI i))]) (hP : va_P D vwCl (cW t T h mq ma jc r ++ rW t a jr r) H) (hD : va_D (fun q : Nat => s.heap.size ≤ q) (cW t T h mq ma jc r ++ rW t a jr r)) (hS : va_S (fun q : Nat => s.heap.size ≤ q) s.heap H locs) : W p l e room_1 s m #[Value.ref b] below meth c H locs (113 + 5 * r.b) (8307 + 1434 * r.b) Q (F0 m 780 ls []) := by
  obtain ⟨hx, hcb, hml, hown, hts, hK, hA, hX0, hN⟩ := id C
  have hbA : ¬ (fun q : Nat => s.heap.size ≤ q) b := Nat.not_le.mpr hbl
  have hb16 := ok.1
  refine lv_aload_n hx hcb dL_law_780 rfl (lv_at hl 1 rfl) ?_
  refine lv_aload_n hx hcb dL_law_781 rfl (lv_at hl 0 rfl) ?_
  refine lv_iload_n hx hcb dL_law_782 rfl (lv_at hl 3 rfl) ?_
  refine lv_iconst (v := nI 1) hx hcb dL_law_783 (by decide) ?_
  refine q_iadd (x := i) (y := 1) hx hcb dL_law_784 ?_
  refine q_sld hx hcb hX hbl hbA hS (show i + 1 < L by omega) hL dL_law_785 ?_
  have KC : ∀ (u : CJ) (H : Heap) (locs : List Loc), okC (r) u → va_P D vwCl (cW t T h mq ma u (r) ++ rW t a jr r) H → va_D (fun q : Nat => s.heap.size ≤ q) (cW t T h mq ma u (r) ++ rW t a jr r) → va_S (fun q : Nat => s.heap.size ≤ q) s.heap H locs → W p l e room_1 s m #[Value.ref b] below meth c H locs (113 + 5 * r.b + 0) (8307 + 1434 * r.b + 0) Q (F0 m 789 ls [.int (ovf (xs (i + 1)) r.b r.ov)]) := by
    intro u H locs hu hP hD hS
    refine lv_aload_n hx hcb dL_law_789 rfl (lv_at hl 2 rfl) ?_
    refine lv_aload_n hx hcb dL_law_790 rfl (lv_at hl 0 rfl) ?_
    refine lv_iload_n hx hcb dL_law_791 rfl (lv_at hl 3 rfl) ?_
    refine lv_iconst (v := nI 1) hx hcb dL_law_792 (by decide) ?_
    refine q_iadd (x := i) (y := 1) hx hcb dL_law_793 ?_
    refine q_sld hx hcb hX hbl hbA hS (show i + 1 < L by omega) hL dL_law_794 ?_
    refine ct_callVW (ci := 4) (As := [.int (xs (i + 1))]) (rest := [.int (ovf (xs (i + 1)) r.b r.ov)]) C (ct_frL (wr := cW t T h mq ma u (r)) (rf_overspent l D t x a jr r (xs (i + 1)) ok hjr)) (cwV 1 hts (gt_app (by simpa using ⟨wm_L_89, wi_yX4_overspent, wv_X4_overspent, wz_X4⟩) (gt_code wc_X4_overspent)) rfl rfl rfl (by decide +kernel) ⟨Nat.le_of_ble_eq_true rfl, Nat.le_of_ble_eq_true rfl⟩) rfl rfl mem_r hP hD hS rfl hl.1 rfl (Nat.le_of_ble_eq_true rfl) dL_law_795 ⟨by show 113 + 5 * r.b + 0 + 0 ≤ 600000; omega, by show 8307 + 1434 * r.b + 0 + 0 ≤ 7302250; omega⟩ (fun u2 H locs hu2 hP hD hS => ?_)
    refine W.eq (g2 := F0 m 798 ls [.int (ovf (xs (i + 1)) r.b r.ov), .int (ovf (xs (i + 1)) r.b r.ov)]) rfl ?_
    refine lv_icmp_eq (tgt := 859) hx hcb dL_law_798 (by decide) (fun _ => ?_) (fun q => absurd rfl q)
    have bw : (r).b = r.b + 0 / 5 ∧ (r).wk ≤ r.wk + 1 := bw_id
    have bw1 := bw.1
    exact K (r) u u2 _ _ H locs (by omega) (by omega) bw.2 (ok) hu hu2 hP hD hS
  by_cases hg : wi (xs (i + 1)) (nI 0) (nI r.b - nI 1) = true
  · skip
    refine ct_callVW (ci := 3) (As := [.int (xs (i + 1))]) (rest := []) C (ct_fr (wr := rW t a jr r) (cl_overspentY l D t x T h mq ma jc r (xs (i + 1)) ok hjc hma hg)) (cwV 1 hts (gt_app (by simpa using ⟨wm_L_86, wi_yX3_overspent, wv_X3_overspent, wz_X3⟩) (gt_code wc_X3_overspent)) rfl rfl rfl (by decide +kernel) ⟨Nat.le_of_ble_eq_true rfl, Nat.le_of_ble_eq_true rfl⟩) rfl rfl mem_c hP hD hS rfl hl.1 rfl (Nat.le_of_ble_eq_true rfl) dL_law_786 ⟨by show 113 + 5 * r.b + 0 ≤ 600000; omega, by show 8307 + 1434 * r.b + 0 ≤ 7302250; omega⟩ (fun u H locs hu hP hD hS => ?_)
    exact W.eq (g2 := F0 m 789 ls [.int (ovf (xs (i + 1)) r.b r.ov)]) rfl (KC u H locs hu hP hD hS)
  · skip
    refine ct_callVW (ci := 3) (As := [.int (xs (i + 1))]) (rest := []) C (ct_fr (wr := rW t a jr r) (cl_overspentN l D t x T h mq ma jc r (xs (i + 1)) ok hjc hma (Bool.eq_false_iff.mpr hg))) (cwV 1 hts (gt_app (by simpa using ⟨wm_L_86, wi_yX3_overspent, wv_X3_overspent, wz_X3⟩) (gt_code wc_X3_overspent)) rfl rfl rfl (by decide +kernel) ⟨Nat.le_of_ble_eq_true rfl, Nat.le_of_ble_eq_true rfl⟩) rfl rfl mem_c hP hD hS rfl hl.1 rfl (Nat.le_of_ble_eq_true rfl) dL_law_786 ⟨by show 113 + 5 * r.b + 0 ≤ 600000; omega, by show 8307 + 1434 * r.b + 0 ≤ 7302250; omega⟩ (fun u H locs hu hP hD hS => ?_)
    exact W.eq (g2 := F0 m 789 ls [.int (ovf (xs (i + 1)) r.b r.ov)]) rfl (KC u H locs hu hP hD hS)
set_option maxHeartbeats 1000000 in
set_option maxRecDepth 100000 in
theorem lw_minutes (C : Cx p s m #[Value.ref b] c code 4 RL D t x (fun q : Nat => s.heap.size ≤ q)) (hX : va_X b L xs s s.heap) (hbl : b < s.heap.size) (hL : L < 2 ^ 31) (hi : i + 8 ≤ L) (hwk : r.wk < 2 ^ 30) (hma : ∀ k, k < 8 → ma k = some (mq k 0)) (ok : Ok r) (hjc : okC r jc) (hjr : okR jr) (K : LwK p l e s m below meth c D t T h a mq ma b r ls Q) (hl : lv_has ls 4 [(0, .ref b), (1, .ref (T 0)), (2, .ref (a 0)), (3, .int (nI i))]) (hP : va_P D vwCl (cW t T h mq ma jc r ++ rW t a jr r) H) (hD : va_D (fun q : Nat => s.heap.size ≤ q) (cW t T h mq ma jc r ++ rW t a jr r)) (hS : va_S (fun q : Nat => s.heap.size ≤ q) s.heap H locs) : W p l e room_1 s m #[Value.ref b] below meth c H locs (113 + 5 * r.b) (8307 + 1434 * r.b) Q (F0 m 803 ls []) := by
  obtain ⟨hx, hcb, hml, hown, hts, hK, hA, hX0, hN⟩ := id C
  have hbA : ¬ (fun q : Nat => s.heap.size ≤ q) b := Nat.not_le.mpr hbl
  have hb16 := ok.1
  refine lv_aload_n hx hcb dL_law_803 rfl (lv_at hl 1 rfl) ?_
  refine lv_aload_n hx hcb dL_law_804 rfl (lv_at hl 0 rfl) ?_
  refine lv_iload_n hx hcb dL_law_805 rfl (lv_at hl 3 rfl) ?_
  refine lv_iconst (v := nI 1) hx hcb dL_law_806 (by decide) ?_
  refine q_iadd (x := i) (y := 1) hx hcb dL_law_807 ?_
  refine q_sld hx hcb hX hbl hbA hS (show i + 1 < L by omega) hL dL_law_808 ?_
  refine lv_aload_n hx hcb dL_law_809 rfl (lv_at hl 0 rfl) ?_
  refine lv_iload_n hx hcb dL_law_810 rfl (lv_at hl 3 rfl) ?_
  refine lv_iconst (v := nI 2) hx hcb dL_law_811 (by decide) ?_
  refine q_iadd (x := i) (y := 2) hx hcb dL_law_812 ?_
  refine q_sld hx hcb hX hbl hbA hS (show i + 2 < L by omega) hL dL_law_813 ?_
  have KC : ∀ (u : CJ) (H : Heap) (locs : List Loc), okC (r) u → va_P D vwCl (cW t T h mq ma u (r) ++ rW t a jr r) H → va_D (fun q : Nat => s.heap.size ≤ q) (cW t T h mq ma u (r) ++ rW t a jr r) → va_S (fun q : Nat => s.heap.size ≤ q) s.heap H locs → W p l e room_1 s m #[Value.ref b] below meth c H locs (113 + 5 * r.b + 0) (8307 + 1434 * r.b + 0) Q (F0 m 817 ls [.int (mnf (xs (i + 1)) (xs (i + 2)) r.mi)]) := by
    intro u H locs hu hP hD hS
    refine lv_aload_n hx hcb dL_law_817 rfl (lv_at hl 2 rfl) ?_
    refine lv_aload_n hx hcb dL_law_818 rfl (lv_at hl 0 rfl) ?_
    refine lv_iload_n hx hcb dL_law_819 rfl (lv_at hl 3 rfl) ?_
    refine lv_iconst (v := nI 1) hx hcb dL_law_820 (by decide) ?_
    refine q_iadd (x := i) (y := 1) hx hcb dL_law_821 ?_
    refine q_sld hx hcb hX hbl hbA hS (show i + 1 < L by omega) hL dL_law_822 ?_
    refine lv_aload_n hx hcb dL_law_823 rfl (lv_at hl 0 rfl) ?_
    refine lv_iload_n hx hcb dL_law_824 rfl (lv_at hl 3 rfl) ?_
    refine lv_iconst (v := nI 2) hx hcb dL_law_825 (by decide) ?_
    refine q_iadd (x := i) (y := 2) hx hcb dL_law_826 ?_
    refine q_sld hx hcb hX hbl hbA hS (show i + 2 < L by omega) hL dL_law_827 ?_
    refine ct_callVW (ci := 4) (As := [.int (xs (i + 1)), .int (xs (i + 2))]) (rest := [.int (mnf (xs (i + 1)) (xs (i + 2)) r.mi)]) C (ct_frL (wr := cW t T h mq ma u (r)) (rf_minutes l D t x a jr r (xs (i + 1)) (xs (i + 2)) ok hjr)) (cwV 2 hts (gt_app (by simpa using ⟨wm_L_93, wi_yX4_minutes, wv_X4_minutes, wz_X4⟩) (gt_code wc_X4_minutes)) rfl rfl rfl (by decide +kernel) ⟨Nat.le_of_ble_eq_true rfl, Nat.le_of_ble_eq_true rfl⟩) rfl rfl mem_r hP hD hS rfl hl.1 rfl (Nat.le_of_ble_eq_true rfl) dL_law_828 ⟨by show 113 + 5 * r.b + 0 + 0 ≤ 600000; omega, by show 8307 + 1434 * r.b + 0 + 0 ≤ 7302250; omega⟩ (fun u2 H locs hu2 hP hD hS => ?_)
    refine W.eq (g2 := F0 m 831 ls [.int (mnf (xs (i + 1)) (xs (i + 2)) r.mi), .int (mnf (xs (i + 1)) (xs (i + 2)) r.mi)]) rfl ?_
    refine lv_icmp_eq (tgt := 859) hx hcb dL_law_831 (by decide) (fun _ => ?_) (fun q => absurd rfl q)
    have bw : (r).b = r.b + 0 / 5 ∧ (r).wk ≤ r.wk + 1 := bw_id
    have bw1 := bw.1
    exact K (r) u u2 _ _ H locs (by omega) (by omega) bw.2 (ok) hu hu2 hP hD hS
  by_cases hg : wi (xs (i + 1)) (nI 0) (nI 7) = true
  · skip
    refine ct_callVW (ci := 3) (As := [.int (xs (i + 1)), .int (xs (i + 2))]) (rest := []) C (ct_fr (wr := rW t a jr r) (cl_minutesY l D t x T h mq ma jc r (xs (i + 1)) (xs (i + 2)) ok hjc hma hg)) (cwV 2 hts (gt_app (by simpa using ⟨wm_L_90, wi_yX3_minutes, wv_X3_minutes, wz_X3⟩) (gt_code wc_X3_minutes)) rfl rfl rfl (by decide +kernel) ⟨Nat.le_of_ble_eq_true rfl, Nat.le_of_ble_eq_true rfl⟩) rfl rfl mem_c hP hD hS rfl hl.1 rfl (Nat.le_of_ble_eq_true rfl) dL_law_814 ⟨by show 113 + 5 * r.b + 0 ≤ 600000; omega, by show 8307 + 1434 * r.b + 0 ≤ 7302250; omega⟩ (fun u H locs hu hP hD hS => ?_)
    exact W.eq (g2 := F0 m 817 ls [.int (mnf (xs (i + 1)) (xs (i + 2)) r.mi)]) rfl (KC u H locs hu hP hD hS)
  · skip
    refine ct_callVW (ci := 3) (As := [.int (xs (i + 1)), .int (xs (i + 2))]) (rest := []) C (ct_fr (wr := rW t a jr r) (cl_minutesN l D t x T h mq ma jc r (xs (i + 1)) (xs (i + 2)) ok hjc hma (Bool.eq_false_iff.mpr hg))) (cwV 2 hts (gt_app (by simpa using ⟨wm_L_90, wi_yX3_minutes, wv_X3_minutes, wz_X3⟩) (gt_code wc_X3_minutes)) rfl rfl rfl (by decide +kernel) ⟨Nat.le_of_ble_eq_true rfl, Nat.le_of_ble_eq_true rfl⟩) rfl rfl mem_c hP hD hS rfl hl.1 rfl (Nat.le_of_ble_eq_true rfl) dL_law_814 ⟨by show 113 + 5 * r.b + 0 ≤ 600000; omega, by show 8307 + 1434 * r.b + 0 ≤ 7302250; omega⟩ (fun u H locs hu hP hD hS => ?_)
    exact W.eq (g2 := F0 m 817 ls [.int (mnf (xs (i + 1)) (xs (i + 2)) r.mi)]) rfl (KC u H locs hu hP hD hS)
set_option maxHeartbeats 1000000 in
set_option maxRecDepth 100000 in
theorem lw_count (C : Cx p s m #[Value.ref b] c code 4 RL D t x (fun q : Nat => s.heap.size ≤ q)) (hX : va_X b L xs s s.heap) (hbl : b < s.heap.size) (hL : L < 2 ^ 31) (hi : i + 8 ≤ L) (hwk : r.wk < 2 ^ 30) (hma : ∀ k, k < 8 → ma k = some (mq k 0)) (ok : Ok r) (hjc : okC r jc) (hjr : okR jr) (K : LwK p l e s m below meth c D t T h a mq ma b r ls Q) (hl : lv_has ls 4 [(0, .ref b), (1, .ref (T 0)), (2, .ref (a 0)), (3, .int (nI i))]) (hP : va_P D vwCl (cW t T h mq ma jc r ++ rW t a jr r) H) (hD : va_D (fun q : Nat => s.heap.size ≤ q) (cW t T h mq ma jc r ++ rW t a jr r)) (hS : va_S (fun q : Nat => s.heap.size ≤ q) s.heap H locs) : W p l e room_1 s m #[Value.ref b] below meth c H locs (113 + 5 * r.b) (8307 + 1434 * r.b) Q (F0 m 836 ls []) := by
  obtain ⟨hx, hcb, hml, hown, hts, hK, hA, hX0, hN⟩ := id C
  have hbA : ¬ (fun q : Nat => s.heap.size ≤ q) b := Nat.not_le.mpr hbl
  have hb16 := ok.1
  refine lv_aload_n hx hcb dL_law_836 rfl (lv_at hl 1 rfl) ?_
  refine lv_aload_n hx hcb dL_law_837 rfl (lv_at hl 0 rfl) ?_
  refine lv_iload_n hx hcb dL_law_838 rfl (lv_at hl 3 rfl) ?_
  refine lv_iconst (v := nI 1) hx hcb dL_law_839 (by decide) ?_
  refine q_iadd (x := i) (y := 1) hx hcb dL_law_840 ?_
  refine q_sld hx hcb hX hbl hbA hS (show i + 1 < L by omega) hL dL_law_841 ?_
  refine ct_callVW (ci := 3) (As := [.int (xs (i + 1))]) (rest := []) C (ct_fr (wr := rW t a jr r) (cl_count l D t x T h mq ma jc r (xs (i + 1)) ok hjc hma)) (cwV 1 hts (gt_app (by simpa using ⟨wm_L_94, wi_yX3_count, wv_X3_count, wz_X3⟩) (gt_code wc_X3_count)) rfl rfl rfl (by decide +kernel) ⟨Nat.le_of_ble_eq_true rfl, Nat.le_of_ble_eq_true rfl⟩) rfl rfl mem_c hP hD hS rfl hl.1 rfl (Nat.le_of_ble_eq_true rfl) dL_law_842 ⟨by show 113 + 5 * r.b + 0 ≤ 600000; omega, by show 8307 + 1434 * r.b + 0 ≤ 7302250; omega⟩ (fun u H locs hu hP hD hS => ?_)
  refine W.eq (g2 := F0 m 845 ls [.int (v_count r (xs (i + 1)))]) rfl ?_
  refine lv_aload_n hx hcb dL_law_845 rfl (lv_at hl 2 rfl) ?_
  refine lv_aload_n hx hcb dL_law_846 rfl (lv_at hl 0 rfl) ?_
  refine lv_iload_n hx hcb dL_law_847 rfl (lv_at hl 3 rfl) ?_
  refine lv_iconst (v := nI 1) hx hcb dL_law_848 (by decide) ?_
  refine q_iadd (x := i) (y := 1) hx hcb dL_law_849 ?_
  refine q_sld hx hcb hX hbl hbA hS (show i + 1 < L by omega) hL dL_law_850 ?_
  refine ct_callVW (ci := 4) (As := [.int (xs (i + 1))]) (rest := [.int (v_count r (xs (i + 1)))]) C (ct_frL (wr := cW t T h mq ma u (r)) (rf_count l D t x a jr r (xs (i + 1)) ok hjr)) (cwV 1 hts (gt_app (by simpa using ⟨wm_L_97, wi_yX4_count, wv_X4_count, wz_X4⟩) (gt_code wc_X4_count)) rfl rfl rfl (by decide +kernel) ⟨Nat.le_of_ble_eq_true rfl, Nat.le_of_ble_eq_true rfl⟩) rfl rfl mem_r hP hD hS rfl hl.1 rfl (Nat.le_of_ble_eq_true rfl) dL_law_851 ⟨by show 113 + 5 * r.b + 0 + 0 ≤ 600000; omega, by show 8307 + 1434 * r.b + 0 + 0 ≤ 7302250; omega⟩ (fun u2 H locs hu2 hP hD hS => ?_)
  refine W.eq (g2 := F0 m 854 ls [.int (v_count r (xs (i + 1))), .int (v_count r (xs (i + 1)))]) rfl ?_
  refine lv_icmp_eq (tgt := 859) hx hcb dL_law_854 (by decide) (fun _ => ?_) (fun q => absurd rfl q)
  have bw : (r).b = r.b + 0 / 5 ∧ (r).wk ≤ r.wk + 1 := bw_id
  have bw1 := bw.1
  exact K (r) u u2 _ _ H locs (by omega) (by omega) bw.2 (ok) hu hu2 hP hD hS
end
