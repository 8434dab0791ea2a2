def r_X3_scrollOfN : Room := { frames := 1, cells := 0, slots := 0, locals := 22 }
section
variable {p : Program} {l : Launch} {e : Env} {s : State} {m : MethodId} {args : Array Value} {below : List Frame} {meth : Method} {c : Code} {Q : State → Prop} {D : va_G} {t : Nat → ClassId} {x : Nat → Nat} {A : Nat → Prop}
set_option maxHeartbeats 1000000 in
set_option maxRecDepth 100000 in
theorem b_X3_scrollOfN (T : Nat → Nat) (h : Nat → Nat) (wk : Nat) (dy : Nat) (b : Nat) (fl : Int64) (tw : Int64) (p0 : Int32) (hno : wi p0 (nI 0) (nI b - nI 1) = false) {H : Heap} {locs : List Loc} {ls : Array Slot} (C : Cx p s m args c cX3_scrollOf 2 RX3 D t x A) (ret : RtA p l e r_X3_scrollOfN s m args below meth c Q D A cX3_scrollOf (Unit) (fun (_ : Unit) => True) (fun (_ : Unit) => some (.null)) (fun (_ : Unit) => [(T 0, .inr (3, tO T h (nI wk) (nI dy) (nI b) fl tw))]) 0 0) (hl : lv_has ls 2 [(0, .ref (T 0)), (1, .int p0)]) (hP : va_P D vwCl [(T 0, .inr (3, tO T h (nI wk) (nI dy) (nI b) fl tw))] H) (hD : va_D A [(T 0, .inr (3, tO T h (nI wk) (nI dy) (nI b) fl tw))]) (hS : va_S A s.heap H locs) : W p l e r_X3_scrollOfN s m args below meth c H locs 0 0 Q (F0 m 0 ls []) := by
  obtain ⟨hx, hcb, hml, hown, hts, hK, hA, hX, hN⟩ := id C
  refine lv_iload_n hx hcb dX3_scrollOf_0 rfl (lv_at hl 1 rfl) ?_
  refine lv_iconst (v := nI 0) hx hcb dX3_scrollOf_1 (by decide) ?_
  refine lv_aload_n hx hcb dX3_scrollOf_2 rfl (lv_at hl 0 rfl) ?_
  refine va_get (D := D) (ci := 3) (v := .int (nI b)) (C := RX3) (T := TX3) (N := 12) hx hcb hts inX3 hown hK hP 0 rfl rfl 9 (by decide) (hts _ wf_X3_72) (fun _ h9 => h9) rfl dX3_scrollOf_3 ?_
  refine lv_iconst (v := nI 1) hx hcb dX3_scrollOf_6 (by decide) ?_
  refine lv_isub hx hcb dX3_scrollOf_7 ?_
  refine ct_callS (as := [.int p0, .int (nI 0), .int ((nI b) - (nI 1))]) (rest := []) (wr := [(T 0, .inr (3, tO T h (nI wk) (nI dy) (nI b) fl tw))]) C (c_X3_isWithin l D t x p0 (nI 0) ((nI b) - (nI 1)) ) (va_cwS 3 hts (gt_app (by simpa using ⟨wm_X3_75, ws_yX3_isWithin, wz_X3⟩) (gt_code wc_X3_isWithin)) rfl rfl rfl (by decide +kernel) ⟨Nat.le_of_ble_eq_true rfl, Nat.le_of_ble_eq_true rfl⟩) hP hD hS [] [0] rfl (by decide) rfl (by decide) (by decide) rfl hl.1 rfl (Nat.le_of_ble_eq_true rfl) dX3_scrollOf_8 ⟨Nat.le_of_ble_eq_true rfl, Nat.le_of_ble_eq_true rfl⟩ (fun u H locs hw_1 hP hD hS => ?_)
  have hP : va_P D vwCl [(T 0, .inr (3, tO T h (nI wk) (nI dy) (nI b) fl tw))] H := hP
  have hD : va_D A [(T 0, .inr (3, tO T h (nI wk) (nI dy) (nI b) fl tw))] := hD
  refine W.eq (g2 := F0 m 11 ls [.int (bI (wi p0 (nI 0) ((nI b) - (nI 1))))]) rfl ?_
  refine q_bif_eq (tgt := 23) hx hcb dX3_scrollOf_11 (by decide) (fun c_2 => ?_) (fun c_2 => ?_)
  · refine lv_null hx hcb dX3_scrollOf_23 ?_
    have hP9 := hP.sub (ws' := [(T 0, .inr (3, tO T h (nI wk) (nI dy) (nI b) fl tw))]) [0] rfl
    have hD9 := hD.sub (ws' := [(T 0, .inr (3, tO T h (nI wk) (nI dy) (nI b) fl tw))]) [0] (by decide) rfl
    exact ret () _ _ _ _ _ rfl (Or.inl rfl) dX3_scrollOf_24 trivial hP9 hD9 hS
  · exact absurd (hno.symm.trans c_2) (by decide)
end
set_option maxHeartbeats 1000000 in
set_option maxRecDepth 100000 in
/-- scrollOf(number), not there -/
theorem c_X3_scrollOfN (l : Launch) (D : va_G) (t : Nat → ClassId) (x : Nat → Nat) (T : Nat → Nat) (h : Nat → Nat) (wk : Nat) (dy : Nat) (b : Nat) (fl : Int64) (tw : Int64) (p0 : Int32) (hno : wi p0 (nI 0) (nI b - nI 1) = false) : Ct l D t x yX3_scrollOf wsX3_scrollOf r_X3_scrollOfN [.ref (T 0), .int p0] [(T 0, .inr (3, tO T h (nI wk) (nI dy) (nI b) fl tw))] (Unit) (fun (_ : Unit) => True) (fun (_ : Unit) => some (.null)) (fun (_ : Unit) => [(T 0, .inr (3, tO T h (nI wk) (nI dy) (nI b) fl tw))]) 0 0 := ct_ofA (by decide) rfl (Nat.le_of_ble_eq_true rfl) rfl (fun p e s m below meth c A ls Q C ret hl hP hD hS => b_X3_scrollOfN T h wk dy b fl tw p0 hno C ret hl hP hD hS)
def r_X3_meterOfN : Room := { frames := 1, cells := 0, slots := 0, locals := 22 }
section
variable {p : Program} {l : Launch} {e : Env} {s : State} {m : MethodId} {args : Array Value} {below : List Frame} {meth : Method} {c : Code} {Q : State → Prop} {D : va_G} {t : Nat → ClassId} {x : Nat → Nat} {A : Nat → Prop}
set_option maxHeartbeats 1000000 in
set_option maxRecDepth 100000 in
theorem b_X3_meterOfN (T : Nat → Nat) (h : Nat → Nat) (wk : Nat) (dy : Nat) (b : Nat) (fl : Int64) (tw : Int64) (p0 : Int32) (hno : wi p0 (nI 0) (nI 7) = false) {H : Heap} {locs : List Loc} {ls : Array Slot} (C : Cx p s m args c cX3_meterOf 2 RX3 D t x A) (ret : RtA p l e r_X3_meterOfN s m args below meth c Q D A cX3_meterOf (Unit) (fun (_ : Unit) => True) (fun (_ : Unit) => some (.null)) (fun (_ : Unit) => [(T 0, .inr (3, tO T h (nI wk) (nI dy) (nI b) fl tw))]) 0 0) (hl : lv_has ls 2 [(0, .ref (T 0)), (1, .int p0)]) (hP : va_P D vwCl [(T 0, .inr (3, tO T h (nI wk) (nI dy) (nI b) fl tw))] H) (hD : va_D A [(T 0, .inr (3, tO T h (nI wk) (nI dy) (nI b) fl tw))]) (hS : va_S A s.heap H locs) : W p l e r_X3_meterOfN s m args below meth c H locs 0 0 Q (F0 m 0 ls []) := by
  obtain ⟨hx, hcb, hml, hown, hts, hK, hA, hX, hN⟩ := id C
  refine lv_iload_n hx hcb dX3_meterOf_0 rfl (lv_at hl 1 rfl) ?_
  refine lv_iconst (v := nI 0) hx hcb dX3_meterOf_1 (by decide) ?_
  refine lv_bipush (v := nI 7) hx hcb dX3_meterOf_2 (by decide) ?_
  refine ct_callS (as := [.int p0, .int (nI 0), .int (nI 7)]) (rest := []) (wr := [(T 0, .inr (3, tO T h (nI wk) (nI dy) (nI b) fl tw))]) C (c_X3_isWithin l D t x p0 (nI 0) (nI 7) ) (va_cwS 3 hts (gt_app (by simpa using ⟨wm_X3_75, ws_yX3_isWithin, wz_X3⟩) (gt_code wc_X3_isWithin)) rfl rfl rfl (by decide +kernel) ⟨Nat.le_of_ble_eq_true rfl, Nat.le_of_ble_eq_true rfl⟩) hP hD hS [] [0] rfl (by decide) rfl (by decide) (by decide) rfl hl.1 rfl (Nat.le_of_ble_eq_true rfl) dX3_meterOf_4 ⟨Nat.le_of_ble_eq_true rfl, Nat.le_of_ble_eq_true rfl⟩ (fun u H locs hw_1 hP hD hS => ?_)
  have hP : va_P D vwCl [(T 0, .inr (3, tO T h (nI wk) (nI dy) (nI b) fl tw))] H := hP
  have hD : va_D A [(T 0, .inr (3, tO T h (nI wk) (nI dy) (nI b) fl tw))] := hD
  refine W.eq (g2 := F0 m 7 ls [.int (bI (wi p0 (nI 0) (nI 7)))]) rfl ?_
  refine q_bif_eq (tgt := 19) hx hcb dX3_meterOf_7 (by decide) (fun c_2 => ?_) (fun c_2 => ?_)
  · refine lv_null hx hcb dX3_meterOf_19 ?_
    have hP9 := hP.sub (ws' := [(T 0, .inr (3, tO T h (nI wk) (nI dy) (nI b) fl tw))]) [0] rfl
    have hD9 := hD.sub (ws' := [(T 0, .inr (3, tO T h (nI wk) (nI dy) (nI b) fl tw))]) [0] (by decide) rfl
    exact ret () _ _ _ _ _ rfl (Or.inl rfl) dX3_meterOf_20 trivial hP9 hD9 hS
  · exact absurd (hno.symm.trans c_2) (by decide)
end
set_option maxHeartbeats 1000000 in
set_option maxRecDepth 100000 in
/-- meterOf(number), not there -/
theorem c_X3_meterOfN (l : Launch) (D : va_G) (t : Nat → ClassId) (x : Nat → Nat) (T : Nat → Nat) (h : Nat → Nat) (wk : Nat) (dy : Nat) (b : Nat) (fl : Int64) (tw : Int64) (p0 : Int32) (hno : wi p0 (nI 0) (nI 7) = false) : Ct l D t x yX3_meterOf wsX3_meterOf r_X3_meterOfN [.ref (T 0), .int p0] [(T 0, .inr (3, tO T h (nI wk) (nI dy) (nI b) fl tw))] (Unit) (fun (_ : Unit) => True) (fun (_ : Unit) => some (.null)) (fun (_ : Unit) => [(T 0, .inr (3, tO T h (nI wk) (nI dy) (nI b) fl tw))]) 0 0 := ct_ofA (by decide) rfl (Nat.le_of_ble_eq_true rfl) rfl (fun p e s m below meth c A ls Q C ret hl hP hD hS => b_X3_meterOfN T h wk dy b fl tw p0 hno C ret hl hP hD hS)
def r_X3_newWeek : Room := { frames := 1, cells := 0, slots := 0, locals := 40 }
section
variable {p : Program} {l : Launch} {e : Env} {s : State} {m : MethodId} {args : Array Value} {below : List Frame} {meth : Method} {c : Code} {Q : State → Prop} {D : va_G} {t : Nat → ClassId} {x : Nat → Nat} {A : Nat → Prop}
set_option maxHeartbeats 1000000 in
set_option maxRecDepth 100000 in
theorem b_X3_newWeek (T : Nat → Nat) (h : Nat → Nat) (wk : Nat) (dy : Nat) (b : Nat) (fl : Int64) (tw : Int64) (one : Int64) (two : Int64) (ky : Nat → Int32) (kz : Nat → Int32) (hky : fb ky) {H : Heap} {locs : List Loc} {ls : Array Slot} (C : Cx p s m args c cX3_newWeek 5 RX3 D t x A) (ret : RtI p l e r_X3_newWeek s m args below meth c Q D A cX3_newWeek (Unit) (fun (_ : Unit) => True) (fun (_ : Unit) => some (.int (nI (wk + 1)))) (fun (_ : Unit) => [(T 0, .inr (3, tO T h (nI (wk + 1)) (nI dy) (nI b) fl tw)), (T 5, .inl (t 0, 16, .inl (kb one two))), (T 6, .inl (t 0, 16, .inl ky))]) 0 0) (hl : lv_has ls 5 [(0, .ref (T 0)), (1, .long one), (3, .long two)]) (hP : va_P D vwCl [(T 0, .inr (3, tO T h (nI wk) (nI dy) (nI b) fl tw)), (T 5, .inl (t 0, 16, .inl ky)), (T 6, .inl (t 0, 16, .inl kz))] H) (hD : va_D A [(T 0, .inr (3, tO T h (nI wk) (nI dy) (nI b) fl tw)), (T 5, .inl (t 0, 16, .inl ky)), (T 6, .inl (t 0, 16, .inl kz))]) (hS : va_S A s.heap H locs) : W p l e r_X3_newWeek s m args below meth c H locs 0 0 Q (F0 m 0 ls []) := by
  obtain ⟨hx, hcb, hml, hown, hts, hK, hA, hX, hN⟩ := id C
  refine lv_aload_n hx hcb dX3_newWeek_0 rfl (lv_at hl 0 rfl) ?_
  refine va_get (D := D) (ci := 3) (v := .ref (T 5)) (C := RX3) (T := TX3) (N := 12) hx hcb hts inX3 hown hK hP 0 rfl rfl 5 (by decide) (hts _ wf_X3_39) (fun _ h9 => h9) rfl dX3_newWeek_1 ?_
  refine lv_iconst (v := nI 0) hx hcb dX3_newWeek_4 (by decide) ?_
  refine lv_aload_n hx hcb dX3_newWeek_5 rfl (lv_at hl 0 rfl) ?_
  refine va_get (D := D) (ci := 3) (v := .ref (T 6)) (C := RX3) (T := TX3) (N := 12) hx hcb hts inX3 hown hK hP 0 rfl rfl 6 (by decide) (hts _ wf_X3_42) (fun _ h9 => h9) rfl dX3_newWeek_6 ?_
  refine lv_iconst (v := nI 0) hx hcb dX3_newWeek_9 (by decide) ?_
  refine lv_bipush (v := nI 16) hx hcb dX3_newWeek_10 (by decide) ?_
  refine q_copyb (sp := 0) (dp := 0) (n := 16) hx hcb (hml.trans hl.1.symm) hown (hts _ wm_X3_45) (hts _ wn_arraycopyName) (hts _ ws_arraycopyName) (hts _ wz_System) hK hP hD hS 1 2 0 0 rfl rfl rfl rfl (by decide) (by decide) (by omega) (by omega) hky (Nat.le_of_ble_eq_true rfl) (Nat.le_of_ble_eq_true rfl) dX3_newWeek_12 (fun H locs hP hD hS => ?_)
  have hP : va_P D vwCl [(T 0, .inr (3, tO T h (nI wk) (nI dy) (nI b) fl tw)), (T 5, .inl (t 0, 16, .inl ky)), (T 6, .inl (t 0, 16, .inl (va_cpy ky kz 0 0 16)))] H := hP
  have hD : va_D A [(T 0, .inr (3, tO T h (nI wk) (nI dy) (nI b) fl tw)), (T 5, .inl (t 0, 16, .inl ky)), (T 6, .inl (t 0, 16, .inl (va_cpy ky kz 0 0 16)))] := hD
  refine lv_aload_n hx hcb dX3_newWeek_15 rfl (lv_at hl 0 rfl) ?_
  refine va_get (D := D) (ci := 3) (v := .ref (T 5)) (C := RX3) (T := TX3) (N := 12) hx hcb hts inX3 hown hK hP 0 rfl rfl 5 (by decide) (hts _ wf_X3_39) (fun _ h9 => h9) rfl dX3_newWeek_16 ?_
  refine lv_iconst (v := nI 0) hx hcb dX3_newWeek_19 (by decide) ?_
  refine lv_bipush (v := nI 8) hx hcb dX3_newWeek_20 (by decide) ?_
  refine lv_lload_n hx hcb dX3_newWeek_22 rfl (lv_at hl 1 rfl) ?_
  refine ct_callS (as := [.ref (T 5), .int (nI 0), .int (nI 8), .long one]) (rest := []) (wr := [(T 0, .inr (3, tO T h (nI wk) (nI dy) (nI b) fl tw)), (T 6, .inl (t 0, 16, .inl (va_cpy ky kz 0 0 16)))]) C (c_X3_writeNumber l D t x (T 5) 0 8 one 16 ky (by omega) (by omega) (by omega)) (va_cwS 4 hts (gt_app (by simpa using ⟨wm_X3_51, ws_yX3_writeNumber, wz_X3⟩) (gt_code wc_X3_writeNumber)) rfl rfl rfl (by decide +kernel) ⟨Nat.le_of_ble_eq_true rfl, Nat.le_of_ble_eq_true rfl⟩) hP hD hS [1] [0, 2] rfl (by decide) rfl (by decide) (by decide) rfl hl.1 rfl (Nat.le_of_ble_eq_true rfl) dX3_newWeek_23 ⟨Nat.le_of_ble_eq_true rfl, Nat.le_of_ble_eq_true rfl⟩ (fun u H locs hw_1 hP hD hS => ?_)
  have hP : va_P D vwCl [(T 0, .inr (3, tO T h (nI wk) (nI dy) (nI b) fl tw)), (T 6, .inl (t 0, 16, .inl (va_cpy ky kz 0 0 16))), (T 5, .inl (t 0, 16, .inl (wnp ky 0 8 one 8)))] H := hP
  have hD : va_D A [(T 0, .inr (3, tO T h (nI wk) (nI dy) (nI b) fl tw)), (T 6, .inl (t 0, 16, .inl (va_cpy ky kz 0 0 16))), (T 5, .inl (t 0, 16, .inl (wnp ky 0 8 one 8)))] := hD
  refine W.eq (g2 := F0 m 26 ls []) rfl ?_
  refine lv_aload_n hx hcb dX3_newWeek_26 rfl (lv_at hl 0 rfl) ?_
  refine va_get (D := D) (ci := 3) (v := .ref (T 5)) (C := RX3) (T := TX3) (N := 12) hx hcb hts inX3 hown hK hP 0 rfl rfl 5 (by decide) (hts _ wf_X3_39) (fun _ h9 => h9) rfl dX3_newWeek_27 ?_
  refine lv_bipush (v := nI 8) hx hcb dX3_newWeek_30 (by decide) ?_
  refine lv_bipush (v := nI 8) hx hcb dX3_newWeek_32 (by decide) ?_
  refine lv_lload_n hx hcb dX3_newWeek_34 rfl (lv_at hl 2 rfl) ?_
  refine ct_callS (as := [.ref (T 5), .int (nI 8), .int (nI 8), .long two]) (rest := []) (wr := [(T 0, .inr (3, tO T h (nI wk) (nI dy) (nI b) fl tw)), (T 6, .inl (t 0, 16, .inl (va_cpy ky kz 0 0 16)))]) C (c_X3_writeNumber l D t x (T 5) 8 8 two 16 (wnp ky 0 8 one 8) (by omega) (by omega) (by omega)) (va_cwS 4 hts (gt_app (by simpa using ⟨wm_X3_51, ws_yX3_writeNumber, wz_X3⟩) (gt_code wc_X3_writeNumber)) rfl rfl rfl (by decide +kernel) ⟨Nat.le_of_ble_eq_true rfl, Nat.le_of_ble_eq_true rfl⟩) hP hD hS [2] [0, 1] rfl (by decide) rfl (by decide) (by decide) rfl hl.1 rfl (Nat.le_of_ble_eq_true rfl) dX3_newWeek_35 ⟨Nat.le_of_ble_eq_true rfl, Nat.le_of_ble_eq_true rfl⟩ (fun u H locs hw_2 hP hD hS => ?_)
  have hP : va_P D vwCl [(T 0, .inr (3, tO T h (nI wk) (nI dy) (nI b) fl tw)), (T 6, .inl (t 0, 16, .inl (va_cpy ky kz 0 0 16))), (T 5, .inl (t 0, 16, .inl (wnp (wnp ky 0 8 one 8) 8 8 two 8)))] H := hP
  have hD : va_D A [(T 0, .inr (3, tO T h (nI wk) (nI dy) (nI b) fl tw)), (T 6, .inl (t 0, 16, .inl (va_cpy ky kz 0 0 16))), (T 5, .inl (t 0, 16, .inl (wnp (wnp ky 0 8 one 8) 8 8 two 8)))] := hD
  refine W.eq (g2 := F0 m 38 ls []) rfl ?_
  refine lv_aload_n hx hcb dX3_newWeek_38 rfl (lv_at hl 0 rfl) ?_
  refine lv_dup hx hcb dX3_newWeek_39 rfl ?_
  refine va_get (D := D) (ci := 3) (v := .int (nI wk)) (C := RX3) (T := TX3) (N := 12) hx hcb hts inX3 hown hK hP 0 rfl rfl 7 (by decide) (hts _ wf_X3_55) (fun _ h9 => h9) rfl dX3_newWeek_40 ?_
  refine lv_iconst (v := nI 1) hx hcb dX3_newWeek_43 (by decide) ?_
  refine q_iadd (x := wk) (y := 1) hx hcb dX3_newWeek_44 ?_
  refine va_put (D := D) (ci := 3) (v := .int (nI (wk + 1))) (ty := .int) (C := RX3) (T := TX3) (N := 12) hx hcb hts inX3 tyX3 tyX3_ok nX3 hown hK hP hD hS 0 rfl rfl 7 (by decide) (hts _ wf_X3_55) (fun _ h9 => h9) rfl (by decide +kernel) rfl rfl (Nat.le_of_ble_eq_true rfl) dX3_newWeek_45 (fun H locs hP hD hS => ?_)
  have hP : va_P D vwCl [(T 0, .inr (3, tO T h (nI (wk + 1)) (nI dy) (nI b) fl tw)), (T 6, .inl (t 0, 16, .inl (va_cpy ky kz 0 0 16))), (T 5, .inl (t 0, 16, .inl (wnp (wnp ky 0 8 one 8) 8 8 two 8)))] H := hP
  have hD : va_D A [(T 0, .inr (3, tO T h (nI (wk + 1)) (nI dy) (nI b) fl tw)), (T 6, .inl (t 0, 16, .inl (va_cpy ky kz 0 0 16))), (T 5, .inl (t 0, 16, .inl (wnp (wnp ky 0 8 one 8) 8 8 two 8)))] := hD
  refine lv_aload_n hx hcb dX3_newWeek_48 rfl (lv_at hl 0 rfl) ?_
  refine va_get (D := D) (ci := 3) (v := .int (nI (wk + 1))) (C := RX3) (T := TX3) (N := 12) hx hcb hts inX3 hown hK hP 0 rfl rfl 7 (by decide) (hts _ wf_X3_55) (fun _ h9 => h9) rfl dX3_newWeek_49 ?_
  have hP9 := hP.sub (ws' := [(T 0, .inr (3, tO T h (nI (wk + 1)) (nI dy) (nI b) fl tw)), (T 5, .inl (t 0, 16, .inl (wnp (wnp ky 0 8 one 8) 8 8 two 8))), (T 6, .inl (t 0, 16, .inl (va_cpy ky kz 0 0 16)))]) [0, 2, 1] rfl
  have hD9 := hD.sub (ws' := [(T 0, .inr (3, tO T h (nI (wk + 1)) (nI dy) (nI b) fl tw)), (T 5, .inl (t 0, 16, .inl (wnp (wnp ky 0 8 one 8) 8 8 two 8))), (T 6, .inl (t 0, 16, .inl (va_cpy ky kz 0 0 16)))]) [0, 2, 1] (by decide) rfl
  have hP9 : va_P D vwCl [(T 0, .inr (3, tO T h (nI (wk + 1)) (nI dy) (nI b) fl tw)), (T 5, .inl (t 0, 16, .inl (kb one two))), (T 6, .inl (t 0, 16, .inl (va_cpy ky kz 0 0 16)))] H := arr_P hP9 1 rfl kb_w2
  have hD9 : va_D A [(T 0, .inr (3, tO T h (nI (wk + 1)) (nI dy) (nI b) fl tw)), (T 5, .inl (t 0, 16, .inl (kb one two))), (T 6, .inl (t 0, 16, .inl (va_cpy ky kz 0 0 16)))] := hD9.set (p := 1) rfl
  have hP9 : va_P D vwCl [(T 0, .inr (3, tO T h (nI (wk + 1)) (nI dy) (nI b) fl tw)), (T 5, .inl (t 0, 16, .inl (kb one two))), (T 6, .inl (t 0, 16, .inl ky))] H := arr_P hP9 2 rfl cpy_16
  have hD9 : va_D A [(T 0, .inr (3, tO T h (nI (wk + 1)) (nI dy) (nI b) fl tw)), (T 5, .inl (t 0, 16, .inl (kb one two))), (T 6, .inl (t 0, 16, .inl ky))] := hD9.set (p := 2) rfl
  exact ret () _ _ _ _ _ rfl dX3_newWeek_52 trivial hP9 hD9 hS
end
set_option maxHeartbeats 1000000 in
set_option maxRecDepth 100000 in
/-- newWeek(first, second) -/
theorem c_X3_newWeek (l : Launch) (D : va_G) (t : Nat → ClassId) (x : Nat → Nat) (T : Nat → Nat) (h : Nat → Nat) (wk : Nat) (dy : Nat) (b : Nat) (fl : Int64) (tw : Int64) (one : Int64) (two : Int64) (ky : Nat → Int32) (kz : Nat → Int32) (hky : fb ky) : Ct l D t x yX3_newWeek wsX3_newWeek r_X3_newWeek [.ref (T 0), .long one, .long two] [(T 0, .inr (3, tO T h (nI wk) (nI dy) (nI b) fl tw)), (T 5, .inl (t 0, 16, .inl ky)), (T 6, .inl (t 0, 16, .inl kz))] (Unit) (fun (_ : Unit) => True) (fun (_ : Unit) => some (.int (nI (wk + 1)))) (fun (_ : Unit) => [(T 0, .inr (3, tO T h (nI (wk + 1)) (nI dy) (nI b) fl tw)), (T 5, .inl (t 0, 16, .inl (kb one two))), (T 6, .inl (t 0, 16, .inl ky))]) 0 0 := ct_ofI (by decide) rfl (Nat.le_of_ble_eq_true rfl) rfl (fun p e s m below meth c A ls Q C ret hl hP hD hS => b_X3_newWeek T h wk dy b fl tw one two ky kz hky C ret hl hP hD hS)
def r_X3_money : Room := { frames := 2, cells := 0, slots := 0, locals := 42 }
section
variable {p : Program} {l : Launch} {e : Env} {s : State} {m : MethodId} {args : Array Value} {below : List Frame} {meth : Method} {c : Code} {Q : State → Prop} {D : va_G} {t : Nat → ClassId} {x : Nat → Nat} {A : Nat → Prop}
set_option maxHeartbeats 1000000 in
set_option maxRecDepth 100000 in
theorem b_X3_money (T : Nat → Nat) (h : Nat → Nat) (wk : Nat) (dy : Nat) (b : Nat) (fl : Int64) (tw : Int64) (p0 : Int32) (c9 : Int64) (pu : Nat → Int64)  {H : Heap} {locs : List Loc} {ls : Array Slot} (C : Cx p s m args c cX3_money 4 RX3 D t x A) (ret : RtZ p l e r_X3_money s m args below meth c Q D A cX3_money (Bool × (Nat → Int64)) (fun (u : Bool × (Nat → Int64)) => u.1 = monf p0 c9 ∧ ((u.1 = false ∧ u.2 = pu) ∨ (u.1 = true ∧ ∃ k, k < 8 ∧ p0 = nI k ∧ u.2 = vp_updL pu k (pu k + c9)))) (fun (u : Bool × (Nat → Int64)) => some (.int (bI u.1))) (fun (u : Bool × (Nat → Int64)) => [(T 0, .inr (3, tO T h (nI wk) (nI dy) (nI b) fl tw)), (T 1, .inl (t 2, 8, .inr (.inl u.2)))]) 0 0) (hl : lv_has ls 4 [(0, .ref (T 0)), (1, .int p0), (2, .long c9)]) (hP : va_P D vwCl [(T 0, .inr (3, tO T h (nI wk) (nI dy) (nI b) fl tw)), (T 1, .inl (t 2, 8, .inr (.inl pu)))] H) (hD : va_D A [(T 0, .inr (3, tO T h (nI wk) (nI dy) (nI b) fl tw)), (T 1, .inl (t 2, 8, .inr (.inl pu)))]) (hS : va_S A s.heap H locs) : W p l e r_X3_money s m args below meth c H locs 0 0 Q (F0 m 0 ls []) := by
  obtain ⟨hx, hcb, hml, hown, hts, hK, hA, hX, hN⟩ := id C
  refine lv_iload_n hx hcb dX3_money_0 rfl (lv_at hl 1 rfl) ?_
  refine ct_callS (as := [.int p0]) (rest := []) (wr := [(T 0, .inr (3, tO T h (nI wk) (nI dy) (nI b) fl tw)), (T 1, .inl (t 2, 8, .inr (.inl pu)))]) C (c_X3_isMotorist l D t x p0 ) (va_cwS 1 hts (gt_app (by simpa using ⟨wm_X3_66, ws_yX3_isMotorist, wz_X3⟩) (gt_code wc_X3_isMotorist)) rfl rfl rfl (by decide +kernel) ⟨Nat.le_of_ble_eq_true rfl, Nat.le_of_ble_eq_true rfl⟩) hP hD hS [] [0, 1] rfl (by decide) rfl (by decide) (by decide) rfl hl.1 rfl (Nat.le_of_ble_eq_true rfl) dX3_money_1 ⟨Nat.le_of_ble_eq_true rfl, Nat.le_of_ble_eq_true rfl⟩ (fun u H locs hw_1 hP hD hS => ?_)
  have hP : va_P D vwCl [(T 0, .inr (3, tO T h (nI wk) (nI dy) (nI b) fl tw)), (T 1, .inl (t 2, 8, .inr (.inl pu)))] H := hP
  have hD : va_D A [(T 0, .inr (3, tO T h (nI wk) (nI dy) (nI b) fl tw)), (T 1, .inl (t 2, 8, .inr (.inl pu)))] := hD
  refine W.eq (g2 := F0 m 4 ls [.int (bI (wi p0 (nI 0) (nI 7)))]) rfl ?_
  refine q_bif_eq (tgt := 21) hx hcb dX3_money_4 (by decide) (fun c_2 => ?_) (fun c_2 => ?_)
  · refine lv_iconst (v := nI 0) hx hcb dX3_money_21 (by decide) ?_
    have hP9 := hP.sub (ws' := [(T 0, .inr (3, tO T h (nI wk) (nI dy) (nI b) fl tw)), (T 1, .inl (t 2, 8, .inr (.inl pu)))]) [0, 1] rfl
    have hD9 := hD.sub (ws' := [(T 0, .inr (3, tO T h (nI wk) (nI dy) (nI b) fl tw)), (T 1, .inl (t 2, 8, .inr (.inl pu)))]) [0, 1] (by decide) rfl
    exact ret (false, pu) _ false _ _ _ _ rfl rfl dX3_money_22 ⟨by rw [monf, c_2]; rfl, Or.inl ⟨rfl, rfl⟩⟩ hP9 hD9 hS
  · have c9t := c_2
    refine lv_lload_n hx hcb dX3_money_7 rfl (lv_at hl 2 rfl) ?_
    refine lv_lconst (v := 1) hx hcb dX3_money_8 (by decide) ?_
    refine W.lcmp hx hcb dX3_money_9 ?_
    refine lv_if_lt (tgt := 21) hx hcb dX3_money_10 (by decide) (fun c_3 => ?_) (fun c_3 => ?_)
    · have c_3 := lgc_lt.mp c_3
      refine lv_iconst (v := nI 0) hx hcb dX3_money_21 (by decide) ?_
      have hP9 := hP.sub (ws' := [(T 0, .inr (3, tO T h (nI wk) (nI dy) (nI b) fl tw)), (T 1, .inl (t 2, 8, .inr (.inl pu)))]) [0, 1] rfl
      have hD9 := hD.sub (ws' := [(T 0, .inr (3, tO T h (nI wk) (nI dy) (nI b) fl tw)), (T 1, .inl (t 2, 8, .inr (.inl pu)))]) [0, 1] (by decide) rfl
      exact ret (false, pu) _ false _ _ _ _ rfl rfl dX3_money_22 ⟨by rw [monf, c_2, decide_eq_true c_3]; rfl, Or.inl ⟨rfl, rfl⟩⟩ hP9 hD9 hS
    · have c_3 := fun q => c_3 (lgc_lt.mpr q)
      refine lv_lload_n hx hcb dX3_money_13 rfl (lv_at hl 2 rfl) ?_
      refine lv_ldc2 (v := 1000000000) hx hcb hown (hts _ wk_X3_70) dX3_money_14 ?_
      refine W.lcmp hx hcb dX3_money_17 ?_
      refine lv_if_le (tgt := 23) hx hcb dX3_money_18 (by decide) (fun c_4 => ?_) (fun c_4 => ?_)
      · have c_4 := lgc_le.mp c_4
        obtain ⟨k, hk0, hk7, rfl⟩ := wi_nat (by decide) (by decide) c9t
        refine lv_aload_n hx hcb dX3_money_23 rfl (lv_at hl 0 rfl) ?_
        refine va_get (D := D) (ci := 3) (v := .ref (T 1)) (C := RX3) (T := TX3) (N := 12) hx hcb hts inX3 hown hK hP 0 rfl rfl 1 (by decide) (hts _ wf_X3_16) (fun _ h9 => h9) rfl dX3_money_24 ?_
        refine lv_iload_n hx hcb dX3_money_27 rfl (lv_at hl 1 rfl) ?_
        refine lv_dup2_11 hx hcb dX3_money_28 rfl rfl ?_
        refine q_lald (j := k) hx hcb hK hP 1 2 rfl rfl (by omega) (by decide) dX3_money_29 ?_
        refine lv_lload_n hx hcb dX3_money_30 rfl (lv_at hl 2 rfl) ?_
        refine lv_ladd hx hcb dX3_money_31 ?_
        refine q_last (j := k) (v := (pu k) + c9) hx hcb hK hP hD hS 1 2 rfl rfl (by omega) (by decide) dX3_money_32 (fun H locs hP hD hS => ?_)
        have hP : va_P D vwCl [(T 0, .inr (3, tO T h (nI wk) (nI dy) (nI b) fl tw)), (T 1, .inl (t 2, 8, .inr (.inl (vp_updL pu k ((pu k) + c9)))))] H := hP
        have hD : va_D A [(T 0, .inr (3, tO T h (nI wk) (nI dy) (nI b) fl tw)), (T 1, .inl (t 2, 8, .inr (.inl (vp_updL pu k ((pu k) + c9)))))] := hD
        refine lv_iconst (v := nI 1) hx hcb dX3_money_33 (by decide) ?_
        have hP9 := hP.sub (ws' := [(T 0, .inr (3, tO T h (nI wk) (nI dy) (nI b) fl tw)), (T 1, .inl (t 2, 8, .inr (.inl (vp_updL pu k ((pu k) + c9)))))]) [0, 1] rfl
        have hD9 := hD.sub (ws' := [(T 0, .inr (3, tO T h (nI wk) (nI dy) (nI b) fl tw)), (T 1, .inl (t 2, 8, .inr (.inl (vp_updL pu k ((pu k) + c9)))))]) [0, 1] (by decide) rfl
        exact ret (true, vp_updL pu k ((pu k) + c9)) _ true _ _ _ _ rfl rfl dX3_money_34 ⟨by rw [monf, c_2, decide_eq_false c_3, decide_eq_true c_4]; rfl, Or.inr ⟨rfl, k, by omega, rfl, rfl⟩⟩ hP9 hD9 hS
      · have c_4 := fun q => c_4 (lgc_le.mpr q)
        refine lv_iconst (v := nI 0) hx hcb dX3_money_21 (by decide) ?_
        have hP9 := hP.sub (ws' := [(T 0, .inr (3, tO T h (nI wk) (nI dy) (nI b) fl tw)), (T 1, .inl (t 2, 8, .inr (.inl pu)))]) [0, 1] rfl
        have hD9 := hD.sub (ws' := [(T 0, .inr (3, tO T h (nI wk) (nI dy) (nI b) fl tw)), (T 1, .inl (t 2, 8, .inr (.inl pu)))]) [0, 1] (by decide) rfl
        exact ret (false, pu) _ false _ _ _ _ rfl rfl dX3_money_22 ⟨by rw [monf, c_2, decide_eq_false c_3, decide_eq_false c_4]; rfl, Or.inl ⟨rfl, rfl⟩⟩ hP9 hD9 hS
end
set_option maxHeartbeats 1000000 in
set_option maxRecDepth 100000 in
/-- money(motorist, cents) -/
theorem c_X3_money (l : Launch) (D : va_G) (t : Nat → ClassId) (x : Nat → Nat) (T : Nat → Nat) (h : Nat → Nat) (wk : Nat) (dy : Nat) (b : Nat) (fl : Int64) (tw : Int64) (p0 : Int32) (c9 : Int64) (pu : Nat → Int64)  : Ct l D t x yX3_money wsX3_money r_X3_money [.ref (T 0), .int p0, .long c9] [(T 0, .inr (3, tO T h (nI wk) (nI dy) (nI b) fl tw)), (T 1, .inl (t 2, 8, .inr (.inl pu)))] (Bool × (Nat → Int64)) (fun (u : Bool × (Nat → Int64)) => u.1 = monf p0 c9 ∧ ((u.1 = false ∧ u.2 = pu) ∨ (u.1 = true ∧ ∃ k, k < 8 ∧ p0 = nI k ∧ u.2 = vp_updL pu k (pu k + c9)))) (fun (u : Bool × (Nat → Int64)) => some (.int (bI u.1))) (fun (u : Bool × (Nat → Int64)) => [(T 0, .inr (3, tO T h (nI wk) (nI dy) (nI b) fl tw)), (T 1, .inl (t 2, 8, .inr (.inl u.2)))]) 0 0 := ct_ofZ (by decide) rfl (Nat.le_of_ble_eq_true rfl) rfl (fun p e s m below meth c A ls Q C ret hl hP hD hS => b_X3_money T h wk dy b fl tw p0 c9 pu  C ret hl hP hD hS)
def r_X3_poke : Room := { frames := 1, cells := 0, slots := 0, locals := 22 }
section
variable {p : Program} {l : Launch} {e : Env} {s : State} {m : MethodId} {args : Array Value} {below : List Frame} {meth : Method} {c : Code} {Q : State → Prop} {D : va_G} {t : Nat → ClassId} {x : Nat → Nat} {A : Nat → Prop}
set_option maxHeartbeats 1000000 in
set_option maxRecDepth 100000 in
theorem b_X3_poke (T : Nat → Nat) (h : Nat → Nat) (wk : Nat) (dy : Nat) (b : Nat) (fl : Int64) (tw : Int64) (p0 : Int32) (p1 : Int32) (bf : Nat → Int32) (hbf : fb bf) {H : Heap} {locs : List Loc} {ls : Array Slot} (C : Cx p s m args c cX3_poke 3 RX3 D t x A) (ret : RtZ p l e r_X3_poke s m args below meth c Q D A cX3_poke (Bool × (Nat → Int32)) (fun (u : Bool × (Nat → Int32)) => u.1 = wi p0 (nI 0) (nI 19) ∧ fb u.2 ∧ ((u.1 = false ∧ u.2 = bf) ∨ (u.1 = true ∧ ∃ k, k < 20 ∧ p0 = nI k ∧ u.2 = upd bf k (bx p1)))) (fun (u : Bool × (Nat → Int32)) => some (.int (bI u.1))) (fun (u : Bool × (Nat → Int32)) => [(T 0, .inr (3, tO T h (nI wk) (nI dy) (nI b) fl tw)), (T 4, .inl (t 0, 20, .inl u.2))]) 0 0) (hl : lv_has ls 3 [(0, .ref (T 0)), (1, .int p0), (2, .int p1)]) (hP : va_P D vwCl [(T 0, .inr (3, tO T h (nI wk) (nI dy) (nI b) fl tw)), (T 4, .inl (t 0, 20, .inl bf))] H) (hD : va_D A [(T 0, .inr (3, tO T h (nI wk) (nI dy) (nI b) fl tw)), (T 4, .inl (t 0, 20, .inl bf))]) (hS : va_S A s.heap H locs) : W p l e r_X3_poke s m args below meth c H locs 0 0 Q (F0 m 0 ls []) := by
  obtain ⟨hx, hcb, hml, hown, hts, hK, hA, hX, hN⟩ := id C
  refine lv_iload_n hx hcb dX3_poke_0 rfl (lv_at hl 1 rfl) ?_
  refine lv_iconst (v := nI 0) hx hcb dX3_poke_1 (by decide) ?_
  refine lv_bipush (v := nI 19) hx hcb dX3_poke_2 (by decide) ?_
  refine ct_callS (as := [.int p0, .int (nI 0), .int (nI 19)]) (rest := []) (wr := [(T 0, .inr (3, tO T h (nI wk) (nI dy) (nI b) fl tw)), (T 4, .inl (t 0, 20, .inl bf))]) C (c_X3_isWithin l D t x p0 (nI 0) (nI 19) ) (va_cwS 3 hts (gt_app (by simpa using ⟨wm_X3_75, ws_yX3_isWithin, wz_X3⟩) (gt_code wc_X3_isWithin)) rfl rfl rfl (by decide +kernel) ⟨Nat.le_of_ble_eq_true rfl, Nat.le_of_ble_eq_true rfl⟩) hP hD hS [] [0, 1] rfl (by decide) rfl (by decide) (by decide) rfl hl.1 rfl (Nat.le_of_ble_eq_true rfl) dX3_poke_4 ⟨Nat.le_of_ble_eq_true rfl, Nat.le_of_ble_eq_true rfl⟩ (fun u H locs hw_1 hP hD hS => ?_)
  have hP : va_P D vwCl [(T 0, .inr (3, tO T h (nI wk) (nI dy) (nI b) fl tw)), (T 4, .inl (t 0, 20, .inl bf))] H := hP
  have hD : va_D A [(T 0, .inr (3, tO T h (nI wk) (nI dy) (nI b) fl tw)), (T 4, .inl (t 0, 20, .inl bf))] := hD
  refine W.eq (g2 := F0 m 7 ls [.int (bI (wi p0 (nI 0) (nI 19)))]) rfl ?_
  refine q_bif_ne (tgt := 12) hx hcb dX3_poke_7 (by decide) (fun c_2 => ?_) (fun c_2 => ?_)
  · have c9t := c_2
    obtain ⟨k, hk0, hk7, rfl⟩ := wi_nat (by decide) (by decide) c9t
    refine lv_aload_n hx hcb dX3_poke_12 rfl (lv_at hl 0 rfl) ?_
    refine va_get (D := D) (ci := 3) (v := .ref (T 4)) (C := RX3) (T := TX3) (N := 12) hx hcb hts inX3 hown hK hP 0 rfl rfl 4 (by decide) (hts _ wf_X3_35) (fun _ h9 => h9) rfl dX3_poke_13 ?_
    refine lv_iload_n hx hcb dX3_poke_16 rfl (lv_at hl 1 rfl) ?_
    refine lv_iload_n hx hcb dX3_poke_17 rfl (lv_at hl 2 rfl) ?_
    refine lv_i2b (v := bx p1) hx hcb dX3_poke_18 rfl ?_
    refine q_bast (j := k) (v := bx p1) hx hcb hK hP hD hS 1 0 rfl rfl (bx_bx _) (by omega) (by decide) dX3_poke_19 (fun H locs hP hD hS => ?_)
    have hP : va_P D vwCl [(T 0, .inr (3, tO T h (nI wk) (nI dy) (nI b) fl tw)), (T 4, .inl (t 0, 20, .inl (upd bf k (bx p1))))] H := hP
    have hD : va_D A [(T 0, .inr (3, tO T h (nI wk) (nI dy) (nI b) fl tw)), (T 4, .inl (t 0, 20, .inl (upd bf k (bx p1))))] := hD
    refine lv_iconst (v := nI 1) hx hcb dX3_poke_20 (by decide) ?_
    have hP9 := hP.sub (ws' := [(T 0, .inr (3, tO T h (nI wk) (nI dy) (nI b) fl tw)), (T 4, .inl (t 0, 20, .inl (upd bf k (bx p1))))]) [0, 1] rfl
    have hD9 := hD.sub (ws' := [(T 0, .inr (3, tO T h (nI wk) (nI dy) (nI b) fl tw)), (T 4, .inl (t 0, 20, .inl (upd bf k (bx p1))))]) [0, 1] (by decide) rfl
    exact ret (true, upd bf k (bx p1)) _ true _ _ _ _ rfl rfl dX3_poke_21 ⟨c9t.symm, (fb_upd hbf (bx_bx _)), Or.inr ⟨rfl, k, by omega, rfl, rfl⟩⟩ hP9 hD9 hS
  · refine lv_iconst (v := nI 0) hx hcb dX3_poke_10 (by decide) ?_
    have hP9 := hP.sub (ws' := [(T 0, .inr (3, tO T h (nI wk) (nI dy) (nI b) fl tw)), (T 4, .inl (t 0, 20, .inl bf))]) [0, 1] rfl
    have hD9 := hD.sub (ws' := [(T 0, .inr (3, tO T h (nI wk) (nI dy) (nI b) fl tw)), (T 4, .inl (t 0, 20, .inl bf))]) [0, 1] (by decide) rfl
    exact ret (false, bf) _ false _ _ _ _ rfl rfl dX3_poke_11 ⟨c_2.symm, hbf, Or.inl ⟨rfl, rfl⟩⟩ hP9 hD9 hS
end
set_option maxHeartbeats 1000000 in
set_option maxRecDepth 100000 in
/-- poke(i, b) -/
theorem c_X3_poke (l : Launch) (D : va_G) (t : Nat → ClassId) (x : Nat → Nat) (T : Nat → Nat) (h : Nat → Nat) (wk : Nat) (dy : Nat) (b : Nat) (fl : Int64) (tw : Int64) (p0 : Int32) (p1 : Int32) (bf : Nat → Int32) (hbf : fb bf) : Ct l D t x yX3_poke wsX3_poke r_X3_poke [.ref (T 0), .int p0, .int p1] [(T 0, .inr (3, tO T h (nI wk) (nI dy) (nI b) fl tw)), (T 4, .inl (t 0, 20, .inl bf))] (Bool × (Nat → Int32)) (fun (u : Bool × (Nat → Int32)) => u.1 = wi p0 (nI 0) (nI 19) ∧ fb u.2 ∧ ((u.1 = false ∧ u.2 = bf) ∨ (u.1 = true ∧ ∃ k, k < 20 ∧ p0 = nI k ∧ u.2 = upd bf k (bx p1)))) (fun (u : Bool × (Nat → Int32)) => some (.int (bI u.1))) (fun (u : Bool × (Nat → Int32)) => [(T 0, .inr (3, tO T h (nI wk) (nI dy) (nI b) fl tw)), (T 4, .inl (t 0, 20, .inl u.2))]) 0 0 := ct_ofZ (by decide) rfl (Nat.le_of_ble_eq_true rfl) rfl (fun p e s m below meth c A ls Q C ret hl hP hD hS => b_X3_poke T h wk dy b fl tw p0 p1 bf hbf C ret hl hP hD hS)
def r_X3_giveBack : Room := { frames := 0, cells := 0, slots := 0, locals := 0 }
section
variable {p : Program} {l : Launch} {e : Env} {s : State} {m : MethodId} {args : Array Value} {below : List Frame} {meth : Method} {c : Code} {Q : State → Prop} {D : va_G} {t : Nat → ClassId} {x : Nat → Nat} {A : Nat → Prop}
set_option maxHeartbeats 1000000 in
set_option maxRecDepth 100000 in
theorem b_X3_giveBack (T : Nat → Nat) (h : Nat → Nat) (wk : Nat) (dy : Nat) (b : Nat) (fl : Int64) (tw : Int64) (g : Nat → Nat) (s_ : Nat) (ow_ : Nat) (n : Nat) (ct : Int32) (st : Int32) (en : Int32) (gn : Int32) (ov : Int32) (bl : Bool) (cl : Bool) (pu : Nat → Int64) (how : ow_ < 8) {H : Heap} {locs : List Loc} {ls : Array Slot} (C : Cx p s m args c cX3_giveBack 4 RX3 D t x A) (ret : RtV p l e r_X3_giveBack s m args below meth c Q D A cX3_giveBack (Unit) (fun (_ : Unit) => True) (fun (_ : Unit) => none) (fun (_ : Unit) => [(T 0, .inr (3, tO T h (nI wk) (nI dy) (nI b) (fl - ((nI n - gn).toInt64 * ct.toInt64)) tw)), (T 1, .inl (t 2, 8, .inr (.inl (vp_updL pu ow_ (pu ow_ + ((nI n - gn).toInt64 * ct.toInt64)))))), (g 0, .inr (2, sO g (nI s_) (nI ow_) (nI n) ct st en (nI n) ov (bI bl) (bI true)))]) 0 0) (hl : lv_has ls 4 [(0, .ref (T 0)), (1, .ref (g 0))]) (hP : va_P D vwCl [(T 0, .inr (3, tO T h (nI wk) (nI dy) (nI b) fl tw)), (T 1, .inl (t 2, 8, .inr (.inl pu))), (g 0, .inr (2, sO g (nI s_) (nI ow_) (nI n) ct st en gn ov (bI bl) (bI cl)))] H) (hD : va_D A [(T 0, .inr (3, tO T h (nI wk) (nI dy) (nI b) fl tw)), (T 1, .inl (t 2, 8, .inr (.inl pu))), (g 0, .inr (2, sO g (nI s_) (nI ow_) (nI n) ct st en gn ov (bI bl) (bI cl)))]) (hS : va_S A s.heap H locs) : W p l e r_X3_giveBack s m args below meth c H locs 0 0 Q (F0 m 0 ls []) := by
  obtain ⟨hx, hcb, hml, hown, hts, hK, hA, hX, hN⟩ := id C
  refine lv_aload_n hx hcb dX3_giveBack_0 rfl (lv_at hl 1 rfl) ?_
  refine va_get (D := D) (ci := 2) (v := .int (nI n)) (C := RX2) (T := TX2) (N := 14) hx hcb hts inX2 hown hK hP 2 rfl rfl 2 (by decide) (hts _ wf_X3_235) (fun _ h9 => h9) rfl dX3_giveBack_1 ?_
  refine lv_aload_n hx hcb dX3_giveBack_4 rfl (lv_at hl 1 rfl) ?_
  refine va_get (D := D) (ci := 2) (v := .int gn) (C := RX2) (T := TX2) (N := 14) hx hcb hts inX2 hown hK hP 2 rfl rfl 10 (by decide) (hts _ wf_X3_238) (fun _ h9 => h9) rfl dX3_giveBack_5 ?_
  refine lv_isub hx hcb dX3_giveBack_8 ?_
  refine lv_i2l (v := ((nI n) - gn).toInt64) hx hcb dX3_giveBack_9 rfl ?_
  refine lv_aload_n hx hcb dX3_giveBack_10 rfl (lv_at hl 1 rfl) ?_
  refine va_get (D := D) (ci := 2) (v := .int ct) (C := RX2) (T := TX2) (N := 14) hx hcb hts inX2 hown hK hP 2 rfl rfl 3 (by decide) (hts _ wf_X3_241) (fun _ h9 => h9) rfl dX3_giveBack_11 ?_
  refine lv_i2l (v := ct.toInt64) hx hcb dX3_giveBack_14 rfl ?_
  refine lv_lmul hx hcb dX3_giveBack_15 ?_
  refine lv_lstore_n (lv' := [(2, .long ((((nI n) - gn).toInt64) * ct.toInt64)), (0, .ref (T 0)), (1, .ref (g 0))]) hx hcb dX3_giveBack_16 rfl hl (by decide) rfl (fun ls hl => ?_)
  refine lv_aload_n hx hcb dX3_giveBack_17 rfl (lv_at hl 1 rfl) ?_
  refine lv_dup hx hcb dX3_giveBack_18 rfl ?_
  refine va_get (D := D) (ci := 3) (v := .long fl) (C := RX3) (T := TX3) (N := 12) hx hcb hts inX3 hown hK hP 0 rfl rfl 10 (by decide) (hts _ wf_X3_90) (fun _ h9 => h9) rfl dX3_giveBack_19 ?_
  refine lv_lload_n hx hcb dX3_giveBack_22 rfl (lv_at hl 0 rfl) ?_
  refine lv_lsub hx hcb dX3_giveBack_23 ?_
  refine va_put (D := D) (ci := 3) (v := .long (fl - ((((nI n) - gn).toInt64) * ct.toInt64))) (ty := .long) (C := RX3) (T := TX3) (N := 12) hx hcb hts inX3 tyX3 tyX3_ok nX3 hown hK hP hD hS 0 rfl rfl 10 (by decide) (hts _ wf_X3_90) (fun _ h9 => h9) rfl (by decide +kernel) rfl rfl (Nat.le_of_ble_eq_true rfl) dX3_giveBack_24 (fun H locs hP hD hS => ?_)
  have hP : va_P D vwCl [(T 0, .inr (3, tO T h (nI wk) (nI dy) (nI b) (fl - ((((nI n) - gn).toInt64) * ct.toInt64)) tw)), (T 1, .inl (t 2, 8, .inr (.inl pu))), (g 0, .inr (2, sO g (nI s_) (nI ow_) (nI n) ct st en gn ov (bI bl) (bI cl)))] H := hP
  have hD : va_D A [(T 0, .inr (3, tO T h (nI wk) (nI dy) (nI b) (fl - ((((nI n) - gn).toInt64) * ct.toInt64)) tw)), (T 1, .inl (t 2, 8, .inr (.inl pu))), (g 0, .inr (2, sO g (nI s_) (nI ow_) (nI n) ct st en gn ov (bI bl) (bI cl)))] := hD
  refine lv_aload_n hx hcb dX3_giveBack_27 rfl (lv_at hl 1 rfl) ?_
  refine va_get (D := D) (ci := 3) (v := .ref (T 1)) (C := RX3) (T := TX3) (N := 12) hx hcb hts inX3 hown hK hP 0 rfl rfl 1 (by decide) (hts _ wf_X3_16) (fun _ h9 => h9) rfl dX3_giveBack_28 ?_
  refine lv_aload_n hx hcb dX3_giveBack_31 rfl (lv_at hl 2 rfl) ?_
  refine va_get (D := D) (ci := 2) (v := .int (nI ow_)) (C := RX2) (T := TX2) (N := 14) hx hcb hts inX2 hown hK hP 2 rfl rfl 1 (by decide) (hts _ wf_X3_244) (fun _ h9 => h9) rfl dX3_giveBack_32 ?_
  refine lv_dup2_11 hx hcb dX3_giveBack_35 rfl rfl ?_
  refine q_lald (j := ow_) hx hcb hK hP 1 2 rfl rfl (by omega) (by decide) dX3_giveBack_36 ?_
  refine lv_lload_n hx hcb dX3_giveBack_37 rfl (lv_at hl 0 rfl) ?_
  refine lv_ladd hx hcb dX3_giveBack_38 ?_
  refine q_last (j := ow_) (v := (pu ow_) + ((((nI n) - gn).toInt64) * ct.toInt64)) hx hcb hK hP hD hS 1 2 rfl rfl (by omega) (by decide) dX3_giveBack_39 (fun H locs hP hD hS => ?_)
  have hP : va_P D vwCl [(T 0, .inr (3, tO T h (nI wk) (nI dy) (nI b) (fl - ((((nI n) - gn).toInt64) * ct.toInt64)) tw)), (T 1, .inl (t 2, 8, .inr (.inl (vp_updL pu ow_ ((pu ow_) + ((((nI n) - gn).toInt64) * ct.toInt64)))))), (g 0, .inr (2, sO g (nI s_) (nI ow_) (nI n) ct st en gn ov (bI bl) (bI cl)))] H := hP
  have hD : va_D A [(T 0, .inr (3, tO T h (nI wk) (nI dy) (nI b) (fl - ((((nI n) - gn).toInt64) * ct.toInt64)) tw)), (T 1, .inl (t 2, 8, .inr (.inl (vp_updL pu ow_ ((pu ow_) + ((((nI n) - gn).toInt64) * ct.toInt64)))))), (g 0, .inr (2, sO g (nI s_) (nI ow_) (nI n) ct st en gn ov (bI bl) (bI cl)))] := hD
  refine lv_aload_n hx hcb dX3_giveBack_40 rfl (lv_at hl 2 rfl) ?_
  refine lv_aload_n hx hcb dX3_giveBack_41 rfl (lv_at hl 2 rfl) ?_
  refine va_get (D := D) (ci := 2) (v := .int (nI n)) (C := RX2) (T := TX2) (N := 14) hx hcb hts inX2 hown hK hP 2 rfl rfl 2 (by decide) (hts _ wf_X3_235) (fun _ h9 => h9) rfl dX3_giveBack_42 ?_
  refine va_put (D := D) (ci := 2) (v := .int (nI n)) (ty := .int) (C := RX2) (T := TX2) (N := 14) hx hcb hts inX2 tyX2 tyX2_ok nX2 hown hK hP hD hS 2 rfl rfl 10 (by decide) (hts _ wf_X3_238) (fun _ h9 => h9) rfl (by decide +kernel) rfl rfl (Nat.le_of_ble_eq_true rfl) dX3_giveBack_45 (fun H locs hP hD hS => ?_)
  have hP : va_P D vwCl [(T 0, .inr (3, tO T h (nI wk) (nI dy) (nI b) (fl - ((((nI n) - gn).toInt64) * ct.toInt64)) tw)), (T 1, .inl (t 2, 8, .inr (.inl (vp_updL pu ow_ ((pu ow_) + ((((nI n) - gn).toInt64) * ct.toInt64)))))), (g 0, .inr (2, sO g (nI s_) (nI ow_) (nI n) ct st en (nI n) ov (bI bl) (bI cl)))] H := hP
  have hD : va_D A [(T 0, .inr (3, tO T h (nI wk) (nI dy) (nI b) (fl - ((((nI n) - gn).toInt64) * ct.toInt64)) tw)), (T 1, .inl (t 2, 8, .inr (.inl (vp_updL pu ow_ ((pu ow_) + ((((nI n) - gn).toInt64) * ct.toInt64)))))), (g 0, .inr (2, sO g (nI s_) (nI ow_) (nI n) ct st en (nI n) ov (bI bl) (bI cl)))] := hD
  refine lv_aload_n hx hcb dX3_giveBack_48 rfl (lv_at hl 2 rfl) ?_
  refine lv_iconst (v := nI 1) hx hcb dX3_giveBack_49 (by decide) ?_
  refine W.eq (g2 := F0 m 50 ls [.int (bI true), .ref (g 0)]) rfl ?_
  refine va_put (D := D) (ci := 2) (v := .int (bI true)) (ty := .boolean) (C := RX2) (T := TX2) (N := 14) hx hcb hts inX2 tyX2 tyX2_ok nX2 hown hK hP hD hS 2 rfl rfl 13 (by decide) (hts _ wf_X3_176) (fun _ h9 => h9) rfl (by decide +kernel) (bI_nar _) (bI_fit _) (Nat.le_of_ble_eq_true rfl) dX3_giveBack_50 (fun H locs hP hD hS => ?_)
  have hP : va_P D vwCl [(T 0, .inr (3, tO T h (nI wk) (nI dy) (nI b) (fl - ((((nI n) - gn).toInt64) * ct.toInt64)) tw)), (T 1, .inl (t 2, 8, .inr (.inl (vp_updL pu ow_ ((pu ow_) + ((((nI n) - gn).toInt64) * ct.toInt64)))))), (g 0, .inr (2, sO g (nI s_) (nI ow_) (nI n) ct st en (nI n) ov (bI bl) (bI true)))] H := hP
  have hD : va_D A [(T 0, .inr (3, tO T h (nI wk) (nI dy) (nI b) (fl - ((((nI n) - gn).toInt64) * ct.toInt64)) tw)), (T 1, .inl (t 2, 8, .inr (.inl (vp_updL pu ow_ ((pu ow_) + ((((nI n) - gn).toInt64) * ct.toInt64)))))), (g 0, .inr (2, sO g (nI s_) (nI ow_) (nI n) ct st en (nI n) ov (bI bl) (bI true)))] := hD
  have hP9 := hP.sub (ws' := [(T 0, .inr (3, tO T h (nI wk) (nI dy) (nI b) (fl - ((((nI n) - gn).toInt64) * ct.toInt64)) tw)), (T 1, .inl (t 2, 8, .inr (.inl (vp_updL pu ow_ ((pu ow_) + ((((nI n) - gn).toInt64) * ct.toInt64)))))), (g 0, .inr (2, sO g (nI s_) (nI ow_) (nI n) ct st en (nI n) ov (bI bl) (bI true)))]) [0, 1, 2] rfl
  have hD9 := hD.sub (ws' := [(T 0, .inr (3, tO T h (nI wk) (nI dy) (nI b) (fl - ((((nI n) - gn).toInt64) * ct.toInt64)) tw)), (T 1, .inl (t 2, 8, .inr (.inl (vp_updL pu ow_ ((pu ow_) + ((((nI n) - gn).toInt64) * ct.toInt64)))))), (g 0, .inr (2, sO g (nI s_) (nI ow_) (nI n) ct st en (nI n) ov (bI bl) (bI true)))]) [0, 1, 2] (by decide) rfl
  exact ret () _ _ _ _ rfl dX3_giveBack_53 trivial hP9 hD9 hS
end
set_option maxHeartbeats 1000000 in
set_option maxRecDepth 100000 in
/-- giveBack(scroll) -/
theorem c_X3_giveBack (l : Launch) (D : va_G) (t : Nat → ClassId) (x : Nat → Nat) (T : Nat → Nat) (h : Nat → Nat) (wk : Nat) (dy : Nat) (b : Nat) (fl : Int64) (tw : Int64) (g : Nat → Nat) (s_ : Nat) (ow_ : Nat) (n : Nat) (ct : Int32) (st : Int32) (en : Int32) (gn : Int32) (ov : Int32) (bl : Bool) (cl : Bool) (pu : Nat → Int64) (how : ow_ < 8) : Ct l D t x yX3_giveBack wsX3_giveBack r_X3_giveBack [.ref (T 0), .ref (g 0)] [(T 0, .inr (3, tO T h (nI wk) (nI dy) (nI b) fl tw)), (T 1, .inl (t 2, 8, .inr (.inl pu))), (g 0, .inr (2, sO g (nI s_) (nI ow_) (nI n) ct st en gn ov (bI bl) (bI cl)))] (Unit) (fun (_ : Unit) => True) (fun (_ : Unit) => none) (fun (_ : Unit) => [(T 0, .inr (3, tO T h (nI wk) (nI dy) (nI b) (fl - ((nI n - gn).toInt64 * ct.toInt64)) tw)), (T 1, .inl (t 2, 8, .inr (.inl (vp_updL pu ow_ (pu ow_ + ((nI n - gn).toInt64 * ct.toInt64)))))), (g 0, .inr (2, sO g (nI s_) (nI ow_) (nI n) ct st en (nI n) ov (bI bl) (bI true)))]) 0 0 := ct_ofV (by decide) rfl (Nat.le_of_ble_eq_true rfl) rfl (fun p e s m below meth c A ls Q C ret hi9 hl hP hD hS => b_X3_giveBack T h wk dy b fl tw g s_ ow_ n ct st en gn ov bl cl pu how C ret hl hP hD hS)
def r_X3_readOut : Room := { frames := 1, cells := 0, slots := 0, locals := 21 }
section
variable {p : Program} {l : Launch} {e : Env} {s : State} {m : MethodId} {args : Array Value} {below : List Frame} {meth : Method} {c : Code} {Q : State → Prop} {D : va_G} {t : Nat → ClassId} {x : Nat → Nat} {A : Nat → Prop}
set_option maxHeartbeats 1000000 in
set_option maxRecDepth 100000 in
theorem b_X3_readOut (T : Nat → Nat) (h : Nat → Nat) (wk : Nat) (dy : Nat) (b : Nat) (fl : Int64) (tw : Int64) (q : Nat → Nat) (mn : Nat) (ks_ : Nat) (lsn : Nat) (wr : Int32) (g : Nat → Nat) (s_ : Nat) (ow_ : Nat) (n : Nat) (ct : Int32) (st : Int32) (en : Int32) (gn : Int32) (ov : Int32) (bl : Bool) (cl : Bool) (ol : Nat → Bool) (ix : Nat → Nat) (bk : Nat → Bool) (rd : Nat → Int32) (hs : s_ < 16) (hm : mn < 8) (hl1 : ol s_ = true → 1 ≤ lsn) {H : Heap} {locs : List Loc} {ls : Array Slot} (C : Cx p s m args c cX3_readOut 4 RX3 D t x A) (ret : RtV p l e r_X3_readOut s m args below meth c Q D A cX3_readOut ((Nat → Int32) × (Nat → Bool) × Nat) (fun (u : (Nat → Int32) × (Nat → Bool) × Nat) => (ol s_ = false ∧ u.1 = rd ∧ u.2.1 = ol ∧ u.2.2 = lsn) ∨ (ol s_ = true ∧ u.1 = upd rd mn (nI (ix s_)) ∧ ((nI dy ≤ en ∧ u.2.1 = ol ∧ u.2.2 = lsn) ∨ (¬ nI dy ≤ en ∧ u.2.1 = va_up ol s_ false ∧ u.2.2 = lsn - 1)))) (fun (u : (Nat → Int32) × (Nat → Bool) × Nat) => none) (fun (u : (Nat → Int32) × (Nat → Bool) × Nat) => [(T 0, .inr (3, tO T h (nI wk) (nI dy) (nI b) fl tw)), (q 0, .inr (1, eO q (nI mn) (nI ks_) (nI u.2.2) wr)), (q 4, .inl (t 3, 16, .inl (fun j => bI (u.2.1 j)))), (q 5, .inl (t 1, 16, .inl (fun j => nI (ix j)))), (q 3, .inl (t 3, 16, .inl (fun j => bI (va_up bk s_ bl j)))), (g 0, .inr (2, sO g (nI s_) (nI ow_) (nI n) ct st en gn ov (bI bl) (bI cl))), (g 3, .inl (t 1, 8, .inl u.1))]) 0 0) (hl : lv_has ls 4 [(0, .ref (T 0)), (1, .ref (q 0)), (2, .ref (g 0))]) (hP : va_P D vwCl [(T 0, .inr (3, tO T h (nI wk) (nI dy) (nI b) fl tw)), (q 0, .inr (1, eO q (nI mn) (nI ks_) (nI lsn) wr)), (q 4, .inl (t 3, 16, .inl (fun j => bI (ol j)))), (q 5, .inl (t 1, 16, .inl (fun j => nI (ix j)))), (q 3, .inl (t 3, 16, .inl (fun j => bI (bk j)))), (g 0, .inr (2, sO g (nI s_) (nI ow_) (nI n) ct st en gn ov (bI bl) (bI cl))), (g 3, .inl (t 1, 8, .inl rd))] H) (hD : va_D A [(T 0, .inr (3, tO T h (nI wk) (nI dy) (nI b) fl tw)), (q 0, .inr (1, eO q (nI mn) (nI ks_) (nI lsn) wr)), (q 4, .inl (t 3, 16, .inl (fun j => bI (ol j)))), (q 5, .inl (t 1, 16, .inl (fun j => nI (ix j)))), (q 3, .inl (t 3, 16, .inl (fun j => bI (bk j)))), (g 0, .inr (2, sO g (nI s_) (nI ow_) (nI n) ct st en gn ov (bI bl) (bI cl))), (g 3, .inl (t 1, 8, .inl rd))]) (hS : va_S A s.heap H locs) : W p l e r_X3_readOut s m args below meth c H locs 0 0 Q (F0 m 0 ls []) := by
  obtain ⟨hx, hcb, hml, hown, hts, hK, hA, hX, hN⟩ := id C
  refine lv_aload_n hx hcb dX3_readOut_0 rfl (lv_at hl 2 rfl) ?_
  refine va_get (D := D) (ci := 2) (v := .int (nI s_)) (C := RX2) (T := TX2) (N := 14) hx hcb hts inX2 hown hK hP 5 rfl rfl 0 (by decide) (hts _ wf_X3_94) (fun _ h9 => h9) rfl dX3_readOut_1 ?_
  refine lv_istore_n (lv' := [(3, .int (nI s_)), (0, .ref (T 0)), (1, .ref (q 0)), (2, .ref (g 0))]) hx hcb dX3_readOut_4 rfl hl (by decide) rfl (fun ls hl => ?_)
  refine lv_aload_n hx hcb dX3_readOut_5 rfl (lv_at hl 2 rfl) ?_
  refine va_get (D := D) (ci := 1) (v := .ref (q 4)) (C := RX1) (T := TX1) (N := 11) hx hcb hts inX1 hown hK hP 1 rfl rfl 5 (by decide) (hts _ wf_X3_192) (fun _ h9 => h9) rfl dX3_readOut_6 ?_
  refine lv_iload_n hx hcb dX3_readOut_9 rfl (lv_at hl 0 rfl) ?_
  refine q_zald (j := s_) hx hcb hK hP 2 3 rfl rfl (by omega) (by decide) dX3_readOut_10 ?_
  refine W.eq (g2 := F0 m 11 ls [.int (bI (ol s_))]) rfl ?_
  refine q_bif_eq (tgt := 45) hx hcb dX3_readOut_11 (by decide) (fun c_1 => ?_) (fun c_1 => ?_)
  · refine lv_aload_n hx hcb dX3_readOut_45 rfl (lv_at hl 2 rfl) ?_
    refine va_get (D := D) (ci := 1) (v := .ref (q 3)) (C := RX1) (T := TX1) (N := 11) hx hcb hts inX1 hown hK hP 1 rfl rfl 4 (by decide) (hts _ wf_X3_230) (fun _ h9 => h9) rfl dX3_readOut_46 ?_
    refine lv_iload_n hx hcb dX3_readOut_49 rfl (lv_at hl 0 rfl) ?_
    refine lv_aload_n hx hcb dX3_readOut_50 rfl (lv_at hl 3 rfl) ?_
    refine va_get (D := D) (ci := 2) (v := .int (bI bl)) (C := RX2) (T := TX2) (N := 14) hx hcb hts inX2 hown hK hP 5 rfl rfl 12 (by decide) (hts _ wf_X3_233) (fun _ h9 => h9) rfl dX3_readOut_51 ?_
    refine q_zast (j := s_) (b := bl) hx hcb hK hP hD hS 4 3 rfl rfl (by omega) (by decide) dX3_readOut_54 (fun H locs hP hD hS => ?_)
    rw [upd_bI] at hP hD
    have hP : va_P D vwCl [(T 0, .inr (3, tO T h (nI wk) (nI dy) (nI b) fl tw)), (q 0, .inr (1, eO q (nI mn) (nI ks_) (nI lsn) wr)), (q 4, .inl (t 3, 16, .inl (fun j => bI (ol j)))), (q 5, .inl (t 1, 16, .inl (fun j => nI (ix j)))), (q 3, .inl (t 3, 16, .inl (fun j => bI (va_up bk s_ bl j)))), (g 0, .inr (2, sO g (nI s_) (nI ow_) (nI n) ct st en gn ov (bI bl) (bI cl))), (g 3, .inl (t 1, 8, .inl rd))] H := hP
    have hD : va_D A [(T 0, .inr (3, tO T h (nI wk) (nI dy) (nI b) fl tw)), (q 0, .inr (1, eO q (nI mn) (nI ks_) (nI lsn) wr)), (q 4, .inl (t 3, 16, .inl (fun j => bI (ol j)))), (q 5, .inl (t 1, 16, .inl (fun j => nI (ix j)))), (q 3, .inl (t 3, 16, .inl (fun j => bI (va_up bk s_ bl j)))), (g 0, .inr (2, sO g (nI s_) (nI ow_) (nI n) ct st en gn ov (bI bl) (bI cl))), (g 3, .inl (t 1, 8, .inl rd))] := hD
    have hP9 := hP.sub (ws' := [(T 0, .inr (3, tO T h (nI wk) (nI dy) (nI b) fl tw)), (q 0, .inr (1, eO q (nI mn) (nI ks_) (nI lsn) wr)), (q 4, .inl (t 3, 16, .inl (fun j => bI (ol j)))), (q 5, .inl (t 1, 16, .inl (fun j => nI (ix j)))), (q 3, .inl (t 3, 16, .inl (fun j => bI (va_up bk s_ bl j)))), (g 0, .inr (2, sO g (nI s_) (nI ow_) (nI n) ct st en gn ov (bI bl) (bI cl))), (g 3, .inl (t 1, 8, .inl rd))]) [0, 1, 2, 3, 4, 5, 6] rfl
    have hD9 := hD.sub (ws' := [(T 0, .inr (3, tO T h (nI wk) (nI dy) (nI b) fl tw)), (q 0, .inr (1, eO q (nI mn) (nI ks_) (nI lsn) wr)), (q 4, .inl (t 3, 16, .inl (fun j => bI (ol j)))), (q 5, .inl (t 1, 16, .inl (fun j => nI (ix j)))), (q 3, .inl (t 3, 16, .inl (fun j => bI (va_up bk s_ bl j)))), (g 0, .inr (2, sO g (nI s_) (nI ow_) (nI n) ct st en gn ov (bI bl) (bI cl))), (g 3, .inl (t 1, 8, .inl rd))]) [0, 1, 2, 3, 4, 5, 6] (by decide) rfl
    exact ret (rd, ol, lsn) _ _ _ _ rfl dX3_readOut_55 (Or.inl ⟨c_1, rfl, rfl, rfl⟩) hP9 hD9 hS
  · refine lv_aload_n hx hcb dX3_readOut_14 rfl (lv_at hl 3 rfl) ?_
    refine va_get (D := D) (ci := 2) (v := .ref (g 3)) (C := RX2) (T := TX2) (N := 14) hx hcb hts inX2 hown hK hP 5 rfl rfl 8 (by decide) (hts _ wf_X3_220) (fun _ h9 => h9) rfl dX3_readOut_15 ?_
    refine lv_aload_n hx hcb dX3_readOut_18 rfl (lv_at hl 2 rfl) ?_
    refine va_get (D := D) (ci := 1) (v := .int (nI mn)) (C := RX1) (T := TX1) (N := 11) hx hcb hts inX1 hown hK hP 1 rfl rfl 0 (by decide) (hts _ wf_X3_223) (fun _ h9 => h9) rfl dX3_readOut_19 ?_
    refine lv_aload_n hx hcb dX3_readOut_22 rfl (lv_at hl 2 rfl) ?_
    refine va_get (D := D) (ci := 1) (v := .ref (q 5)) (C := RX1) (T := TX1) (N := 11) hx hcb hts inX1 hown hK hP 1 rfl rfl 7 (by decide) (hts _ wf_X3_124) (fun _ h9 => h9) rfl dX3_readOut_23 ?_
    refine lv_iload_n hx hcb dX3_readOut_26 rfl (lv_at hl 0 rfl) ?_
    refine q_iald (j := s_) hx hcb hK hP 3 1 rfl rfl (by omega) (by decide) dX3_readOut_27 ?_
    refine W.eq (g2 := F0 m 28 ls [.int (nI (ix s_)), .int (nI mn), .ref (g 3)]) rfl ?_
    refine q_iast (j := mn) (v := nI (ix s_)) hx hcb hK hP hD hS 6 1 rfl rfl (by omega) (by decide) dX3_readOut_28 (fun H locs hP hD hS => ?_)
    have hP : va_P D vwCl [(T 0, .inr (3, tO T h (nI wk) (nI dy) (nI b) fl tw)), (q 0, .inr (1, eO q (nI mn) (nI ks_) (nI lsn) wr)), (q 4, .inl (t 3, 16, .inl (fun j => bI (ol j)))), (q 5, .inl (t 1, 16, .inl (fun j => nI (ix j)))), (q 3, .inl (t 3, 16, .inl (fun j => bI (bk j)))), (g 0, .inr (2, sO g (nI s_) (nI ow_) (nI n) ct st en gn ov (bI bl) (bI cl))), (g 3, .inl (t 1, 8, .inl (upd rd mn (nI (ix s_)))))] H := hP
    have hD : va_D A [(T 0, .inr (3, tO T h (nI wk) (nI dy) (nI b) fl tw)), (q 0, .inr (1, eO q (nI mn) (nI ks_) (nI lsn) wr)), (q 4, .inl (t 3, 16, .inl (fun j => bI (ol j)))), (q 5, .inl (t 1, 16, .inl (fun j => nI (ix j)))), (q 3, .inl (t 3, 16, .inl (fun j => bI (bk j)))), (g 0, .inr (2, sO g (nI s_) (nI ow_) (nI n) ct st en gn ov (bI bl) (bI cl))), (g 3, .inl (t 1, 8, .inl (upd rd mn (nI (ix s_)))))] := hD
    refine lv_aload_n hx hcb dX3_readOut_29 rfl (lv_at hl 3 rfl) ?_
    refine lv_aload_n hx hcb dX3_readOut_30 rfl (lv_at hl 1 rfl) ?_
    refine va_get (D := D) (ci := 3) (v := .int (nI dy)) (C := RX3) (T := TX3) (N := 12) hx hcb hts inX3 hown hK hP 0 rfl rfl 8 (by decide) (hts _ wf_X3_59) (fun _ h9 => h9) rfl dX3_readOut_31 ?_
    refine ct_callV (As := [.int (nI dy)]) (rest := []) (wr := [(T 0, .inr (3, tO T h (nI wk) (nI dy) (nI b) fl tw)), (q 0, .inr (1, eO q (nI mn) (nI ks_) (nI lsn) wr)), (q 4, .inl (t 3, 16, .inl (fun j => bI (ol j)))), (q 5, .inl (t 1, 16, .inl (fun j => nI (ix j)))), (q 3, .inl (t 3, 16, .inl (fun j => bI (bk j)))), (g 3, .inl (t 1, 8, .inl (upd rd mn (nI (ix s_)))))]) C (c_X2_isOver l D t x g s_ ow_ n ct st en gn ov bl cl (nI dy) ) (cwV 1 hts (gt_app (by simpa using ⟨wm_X3_224, wi_yX2_isOver, wv_X2_isOver, wz_X2⟩) (gt_code wc_X2_isOver)) rfl rfl rfl (by decide +kernel) ⟨Nat.le_of_ble_eq_true rfl, Nat.le_of_ble_eq_true rfl⟩) rfl rfl (q0 := 5) rfl hP hD hS [5] [0, 1, 2, 3, 4, 6] rfl (by decide) rfl (by decide) (by decide) rfl hl.1 rfl (Nat.le_of_ble_eq_true rfl) dX3_readOut_34 ⟨Nat.le_of_ble_eq_true rfl, Nat.le_of_ble_eq_true rfl⟩ (fun u H locs hw_2 hP hD hS => ?_)
    have hP : va_P D vwCl [(T 0, .inr (3, tO T h (nI wk) (nI dy) (nI b) fl tw)), (q 0, .inr (1, eO q (nI mn) (nI ks_) (nI lsn) wr)), (q 4, .inl (t 3, 16, .inl (fun j => bI (ol j)))), (q 5, .inl (t 1, 16, .inl (fun j => nI (ix j)))), (q 3, .inl (t 3, 16, .inl (fun j => bI (bk j)))), (g 3, .inl (t 1, 8, .inl (upd rd mn (nI (ix s_))))), (g 0, .inr (2, sO g (nI s_) (nI ow_) (nI n) ct st en gn ov (bI bl) (bI cl)))] H := hP
    have hD : va_D A [(T 0, .inr (3, tO T h (nI wk) (nI dy) (nI b) fl tw)), (q 0, .inr (1, eO q (nI mn) (nI ks_) (nI lsn) wr)), (q 4, .inl (t 3, 16, .inl (fun j => bI (ol j)))), (q 5, .inl (t 1, 16, .inl (fun j => nI (ix j)))), (q 3, .inl (t 3, 16, .inl (fun j => bI (bk j)))), (g 3, .inl (t 1, 8, .inl (upd rd mn (nI (ix s_))))), (g 0, .inr (2, sO g (nI s_) (nI ow_) (nI n) ct st en gn ov (bI bl) (bI cl)))] := hD
    refine W.eq (g2 := F0 m 37 ls [.int (bI (!decide ((nI dy) ≤ en)))]) rfl ?_
    refine q_bif_eq (tgt := 45) hx hcb dX3_readOut_37 (by decide) (fun c_3 => ?_) (fun c_3 => ?_)
    · refine lv_aload_n hx hcb dX3_readOut_45 rfl (lv_at hl 2 rfl) ?_
      refine va_get (D := D) (ci := 1) (v := .ref (q 3)) (C := RX1) (T := TX1) (N := 11) hx hcb hts inX1 hown hK hP 1 rfl rfl 4 (by decide) (hts _ wf_X3_230) (fun _ h9 => h9) rfl dX3_readOut_46 ?_
      refine lv_iload_n hx hcb dX3_readOut_49 rfl (lv_at hl 0 rfl) ?_
      refine lv_aload_n hx hcb dX3_readOut_50 rfl (lv_at hl 3 rfl) ?_
      refine va_get (D := D) (ci := 2) (v := .int (bI bl)) (C := RX2) (T := TX2) (N := 14) hx hcb hts inX2 hown hK hP 6 rfl rfl 12 (by decide) (hts _ wf_X3_233) (fun _ h9 => h9) rfl dX3_readOut_51 ?_
      refine q_zast (j := s_) (b := bl) hx hcb hK hP hD hS 4 3 rfl rfl (by omega) (by decide) dX3_readOut_54 (fun H locs hP hD hS => ?_)
      rw [upd_bI] at hP hD
      have hP : va_P D vwCl [(T 0, .inr (3, tO T h (nI wk) (nI dy) (nI b) fl tw)), (q 0, .inr (1, eO q (nI mn) (nI ks_) (nI lsn) wr)), (q 4, .inl (t 3, 16, .inl (fun j => bI (ol j)))), (q 5, .inl (t 1, 16, .inl (fun j => nI (ix j)))), (q 3, .inl (t 3, 16, .inl (fun j => bI (va_up bk s_ bl j)))), (g 3, .inl (t 1, 8, .inl (upd rd mn (nI (ix s_))))), (g 0, .inr (2, sO g (nI s_) (nI ow_) (nI n) ct st en gn ov (bI bl) (bI cl)))] H := hP
      have hD : va_D A [(T 0, .inr (3, tO T h (nI wk) (nI dy) (nI b) fl tw)), (q 0, .inr (1, eO q (nI mn) (nI ks_) (nI lsn) wr)), (q 4, .inl (t 3, 16, .inl (fun j => bI (ol j)))), (q 5, .inl (t 1, 16, .inl (fun j => nI (ix j)))), (q 3, .inl (t 3, 16, .inl (fun j => bI (va_up bk s_ bl j)))), (g 3, .inl (t 1, 8, .inl (upd rd mn (nI (ix s_))))), (g 0, .inr (2, sO g (nI s_) (nI ow_) (nI n) ct st en gn ov (bI bl) (bI cl)))] := hD
      have hP9 := hP.sub (ws' := [(T 0, .inr (3, tO T h (nI wk) (nI dy) (nI b) fl tw)), (q 0, .inr (1, eO q (nI mn) (nI ks_) (nI lsn) wr)), (q 4, .inl (t 3, 16, .inl (fun j => bI (ol j)))), (q 5, .inl (t 1, 16, .inl (fun j => nI (ix j)))), (q 3, .inl (t 3, 16, .inl (fun j => bI (va_up bk s_ bl j)))), (g 0, .inr (2, sO g (nI s_) (nI ow_) (nI n) ct st en gn ov (bI bl) (bI cl))), (g 3, .inl (t 1, 8, .inl (upd rd mn (nI (ix s_)))))]) [0, 1, 2, 3, 4, 6, 5] rfl
      have hD9 := hD.sub (ws' := [(T 0, .inr (3, tO T h (nI wk) (nI dy) (nI b) fl tw)), (q 0, .inr (1, eO q (nI mn) (nI ks_) (nI lsn) wr)), (q 4, .inl (t 3, 16, .inl (fun j => bI (ol j)))), (q 5, .inl (t 1, 16, .inl (fun j => nI (ix j)))), (q 3, .inl (t 3, 16, .inl (fun j => bI (va_up bk s_ bl j)))), (g 0, .inr (2, sO g (nI s_) (nI ow_) (nI n) ct st en gn ov (bI bl) (bI cl))), (g 3, .inl (t 1, 8, .inl (upd rd mn (nI (ix s_)))))]) [0, 1, 2, 3, 4, 6, 5] (by decide) rfl
      exact ret (upd rd mn (nI (ix s_)), ol, lsn) _ _ _ _ rfl dX3_readOut_55 (Or.inr ⟨c_1, rfl, Or.inl ⟨of_decide_eq_true (nb_t c_3), rfl, rfl⟩⟩) hP9 hD9 hS
    · refine lv_aload_n hx hcb dX3_readOut_40 rfl (lv_at hl 2 rfl) ?_
      refine lv_aload_n hx hcb dX3_readOut_41 rfl (lv_at hl 3 rfl) ?_
      refine ct_callV (As := [.ref (g 0)]) (rest := []) (wr := [(T 0, .inr (3, tO T h (nI wk) (nI dy) (nI b) fl tw)), (q 5, .inl (t 1, 16, .inl (fun j => nI (ix j)))), (q 3, .inl (t 3, 16, .inl (fun j => bI (bk j)))), (g 3, .inl (t 1, 8, .inl (upd rd mn (nI (ix s_)))))]) C (c_X1_strike l D t x q mn ks_ lsn wr g s_ ow_ n ct st en gn ov bl cl ol (by omega) (hl1 c_1)) (cwV 1 hts (gt_app (by simpa using ⟨wm_X3_227, wi_yX1_strike, wv_X1_strike, wz_X1⟩) (gt_code wc_X1_strike)) rfl rfl rfl (by decide +kernel) ⟨Nat.le_of_ble_eq_true rfl, Nat.le_of_ble_eq_true rfl⟩) rfl rfl (q0 := 1) rfl hP hD hS [1, 2, 6] [0, 3, 4, 5] rfl (by decide) rfl (by decide) (by decide) rfl hl.1 rfl (Nat.le_of_ble_eq_true rfl) dX3_readOut_42 ⟨Nat.le_of_ble_eq_true rfl, Nat.le_of_ble_eq_true rfl⟩ (fun u H locs hw_4 hP hD hS => ?_)
      have hP : va_P D vwCl [(T 0, .inr (3, tO T h (nI wk) (nI dy) (nI b) fl tw)), (q 5, .inl (t 1, 16, .inl (fun j => nI (ix j)))), (q 3, .inl (t 3, 16, .inl (fun j => bI (bk j)))), (g 3, .inl (t 1, 8, .inl (upd rd mn (nI (ix s_))))), (q 0, .inr (1, eO q (nI mn) (nI ks_) (nI (lsn - 1)) wr)), (q 4, .inl (t 3, 16, .inl (fun j => bI (va_up ol s_ false j)))), (g 0, .inr (2, sO g (nI s_) (nI ow_) (nI n) ct st en gn ov (bI bl) (bI cl)))] H := hP
      have hD : va_D A [(T 0, .inr (3, tO T h (nI wk) (nI dy) (nI b) fl tw)), (q 5, .inl (t 1, 16, .inl (fun j => nI (ix j)))), (q 3, .inl (t 3, 16, .inl (fun j => bI (bk j)))), (g 3, .inl (t 1, 8, .inl (upd rd mn (nI (ix s_))))), (q 0, .inr (1, eO q (nI mn) (nI ks_) (nI (lsn - 1)) wr)), (q 4, .inl (t 3, 16, .inl (fun j => bI (va_up ol s_ false j)))), (g 0, .inr (2, sO g (nI s_) (nI ow_) (nI n) ct st en gn ov (bI bl) (bI cl)))] := hD
      refine W.eq (g2 := F0 m 45 ls []) rfl ?_
      refine lv_aload_n hx hcb dX3_readOut_45 rfl (lv_at hl 2 rfl) ?_
      refine va_get (D := D) (ci := 1) (v := .ref (q 3)) (C := RX1) (T := TX1) (N := 11) hx hcb hts inX1 hown hK hP 4 rfl rfl 4 (by decide) (hts _ wf_X3_230) (fun _ h9 => h9) rfl dX3_readOut_46 ?_
      refine lv_iload_n hx hcb dX3_readOut_49 rfl (lv_at hl 0 rfl) ?_
      refine lv_aload_n hx hcb dX3_readOut_50 rfl (lv_at hl 3 rfl) ?_
      refine va_get (D := D) (ci := 2) (v := .int (bI bl)) (C := RX2) (T := TX2) (N := 14) hx hcb hts inX2 hown hK hP 6 rfl rfl 12 (by decide) (hts _ wf_X3_233) (fun _ h9 => h9) rfl dX3_readOut_51 ?_
      refine q_zast (j := s_) (b := bl) hx hcb hK hP hD hS 2 3 rfl rfl (by omega) (by decide) dX3_readOut_54 (fun H locs hP hD hS => ?_)
      rw [upd_bI] at hP hD
      have hP : va_P D vwCl [(T 0, .inr (3, tO T h (nI wk) (nI dy) (nI b) fl tw)), (q 5, .inl (t 1, 16, .inl (fun j => nI (ix j)))), (q 3, .inl (t 3, 16, .inl (fun j => bI (va_up bk s_ bl j)))), (g 3, .inl (t 1, 8, .inl (upd rd mn (nI (ix s_))))), (q 0, .inr (1, eO q (nI mn) (nI ks_) (nI (lsn - 1)) wr)), (q 4, .inl (t 3, 16, .inl (fun j => bI (va_up ol s_ false j)))), (g 0, .inr (2, sO g (nI s_) (nI ow_) (nI n) ct st en gn ov (bI bl) (bI cl)))] H := hP
      have hD : va_D A [(T 0, .inr (3, tO T h (nI wk) (nI dy) (nI b) fl tw)), (q 5, .inl (t 1, 16, .inl (fun j => nI (ix j)))), (q 3, .inl (t 3, 16, .inl (fun j => bI (va_up bk s_ bl j)))), (g 3, .inl (t 1, 8, .inl (upd rd mn (nI (ix s_))))), (q 0, .inr (1, eO q (nI mn) (nI ks_) (nI (lsn - 1)) wr)), (q 4, .inl (t 3, 16, .inl (fun j => bI (va_up ol s_ false j)))), (g 0, .inr (2, sO g (nI s_) (nI ow_) (nI n) ct st en gn ov (bI bl) (bI cl)))] := hD
      have hP9 := hP.sub (ws' := [(T 0, .inr (3, tO T h (nI wk) (nI dy) (nI b) fl tw)), (q 0, .inr (1, eO q (nI mn) (nI ks_) (nI (lsn - 1)) wr)), (q 4, .inl (t 3, 16, .inl (fun j => bI (va_up ol s_ false j)))), (q 5, .inl (t 1, 16, .inl (fun j => nI (ix j)))), (q 3, .inl (t 3, 16, .inl (fun j => bI (va_up bk s_ bl j)))), (g 0, .inr (2, sO g (nI s_) (nI ow_) (nI n) ct st en gn ov (bI bl) (bI cl))), (g 3, .inl (t 1, 8, .inl (upd rd mn (nI (ix s_)))))]) [0, 4, 5, 1, 2, 6, 3] rfl
      have hD9 := hD.sub (ws' := [(T 0, .inr (3, tO T h (nI wk) (nI dy) (nI b) fl tw)), (q 0, .inr (1, eO q (nI mn) (nI ks_) (nI (lsn - 1)) wr)), (q 4, .inl (t 3, 16, .inl (fun j => bI (va_up ol s_ false j)))), (q 5, .inl (t 1, 16, .inl (fun j => nI (ix j)))), (q 3, .inl (t 3, 16, .inl (fun j => bI (va_up bk s_ bl j)))), (g 0, .inr (2, sO g (nI s_) (nI ow_) (nI n) ct st en gn ov (bI bl) (bI cl))), (g 3, .inl (t 1, 8, .inl (upd rd mn (nI (ix s_)))))]) [0, 4, 5, 1, 2, 6, 3] (by decide) rfl
      exact ret (upd rd mn (nI (ix s_)), va_up ol s_ false, lsn - 1) _ _ _ _ rfl dX3_readOut_55 (Or.inr ⟨c_1, rfl, Or.inr ⟨of_decide_eq_false (nb_f c_3), rfl, rfl⟩⟩) hP9 hD9 hS
end
set_option maxHeartbeats 1000000 in
set_option maxRecDepth 100000 in
/-- readOut(emptied, scroll) -/
theorem c_X3_readOut (l : Launch) (D : va_G) (t : Nat → ClassId) (x : Nat → Nat) (T : Nat → Nat) (h : Nat → Nat) (wk : Nat) (dy : Nat) (b : Nat) (fl : Int64) (tw : Int64) (q : Nat → Nat) (mn : Nat) (ks_ : Nat) (lsn : Nat) (wr : Int32) (g : Nat → Nat) (s_ : Nat) (ow_ : Nat) (n : Nat) (ct : Int32) (st : Int32) (en : Int32) (gn : Int32) (ov : Int32) (bl : Bool) (cl : Bool) (ol : Nat → Bool) (ix : Nat → Nat) (bk : Nat → Bool) (rd : Nat → Int32) (hs : s_ < 16) (hm : mn < 8) (hl1 : ol s_ = true → 1 ≤ lsn) : Ct l D t x yX3_readOut wsX3_readOut r_X3_readOut [.ref (T 0), .ref (q 0), .ref (g 0)] [(T 0, .inr (3, tO T h (nI wk) (nI dy) (nI b) fl tw)), (q 0, .inr (1, eO q (nI mn) (nI ks_) (nI lsn) wr)), (q 4, .inl (t 3, 16, .inl (fun j => bI (ol j)))), (q 5, .inl (t 1, 16, .inl (fun j => nI (ix j)))), (q 3, .inl (t 3, 16, .inl (fun j => bI (bk j)))), (g 0, .inr (2, sO g (nI s_) (nI ow_) (nI n) ct st en gn ov (bI bl) (bI cl))), (g 3, .inl (t 1, 8, .inl rd))] ((Nat → Int32) × (Nat → Bool) × Nat) (fun (u : (Nat → Int32) × (Nat → Bool) × Nat) => (ol s_ = false ∧ u.1 = rd ∧ u.2.1 = ol ∧ u.2.2 = lsn) ∨ (ol s_ = true ∧ u.1 = upd rd mn (nI (ix s_)) ∧ ((nI dy ≤ en ∧ u.2.1 = ol ∧ u.2.2 = lsn) ∨ (¬ nI dy ≤ en ∧ u.2.1 = va_up ol s_ false ∧ u.2.2 = lsn - 1)))) (fun (u : (Nat → Int32) × (Nat → Bool) × Nat) => none) (fun (u : (Nat → Int32) × (Nat → Bool) × Nat) => [(T 0, .inr (3, tO T h (nI wk) (nI dy) (nI b) fl tw)), (q 0, .inr (1, eO q (nI mn) (nI ks_) (nI u.2.2) wr)), (q 4, .inl (t 3, 16, .inl (fun j => bI (u.2.1 j)))), (q 5, .inl (t 1, 16, .inl (fun j => nI (ix j)))), (q 3, .inl (t 3, 16, .inl (fun j => bI (va_up bk s_ bl j)))), (g 0, .inr (2, sO g (nI s_) (nI ow_) (nI n) ct st en gn ov (bI bl) (bI cl))), (g 3, .inl (t 1, 8, .inl u.1))]) 0 0 := ct_ofV (by decide) rfl (Nat.le_of_ble_eq_true rfl) rfl (fun p e s m below meth c A ls Q C ret hi9 hl hP hD hS => b_X3_readOut T h wk dy b fl tw q mn ks_ lsn wr g s_ ow_ n ct st en gn ov bl cl ol ix bk rd hs hm hl1 C ret hl hP hD hS)
def r_X3_coinByte : Room := { frames := 2, cells := 0, slots := 0, locals := 43 }
section
variable {p : Program} {l : Launch} {e : Env} {s : State} {m : MethodId} {args : Array Value} {below : List Frame} {meth : Method} {c : Code} {Q : State → Prop} {D : va_G} {t : Nat → ClassId} {x : Nat → Nat} {A : Nat → Prop}
set_option maxHeartbeats 1000000 in
set_option maxRecDepth 100000 in
theorem b_X3_coinByte (T : Nat → Nat) (h : Nat → Nat) (wk : Nat) (dy : Nat) (b : Nat) (fl : Int64) (tw : Int64) (g : Nat → Nat) (s_ : Nat) (ow_ : Nat) (n : Nat) (ct : Int32) (st : Int32) (en : Int32) (gn : Int32) (ov : Int32) (bl : Bool) (cl : Bool) (sa : Nat → Option Nat) (p1 : Int32) (p2 : Int32) (cf : Nat → Int32) (hb16 : b ≤ 16) (hs : s_ < b) (hsa : sa s_ = some (g 0)) (hn60 : n ≤ 60) {H : Heap} {locs : List Loc} {ls : Array Slot} (C : Cx p s m args c cX3_coinByte 5 RX3 D t x A) (ret : RtI p l e r_X3_coinByte s m args below meth c Q D A cX3_coinByte (Unit) (fun (_ : Unit) => True) (fun (_ : Unit) => some (.int (cb2 p1 p2 n cf))) (fun (_ : Unit) => [(T 0, .inr (3, tO T h (nI wk) (nI dy) (nI b) fl tw)), (T 2, .inl (t 4, 16, .inr (.inr (.inr (.inr sa))))), (g 0, .inr (2, sO g (nI s_) (nI ow_) (nI n) ct st en gn ov (bI bl) (bI cl))), (g 1, .inl (t 0, n * 20, .inl cf))]) 0 0) (hl : lv_has ls 5 [(0, .ref (T 0)), (1, .int (nI s_)), (2, .int p1), (3, .int p2)]) (hP : va_P D vwCl [(T 0, .inr (3, tO T h (nI wk) (nI dy) (nI b) fl tw)), (T 2, .inl (t 4, 16, .inr (.inr (.inr (.inr sa))))), (g 0, .inr (2, sO g (nI s_) (nI ow_) (nI n) ct st en gn ov (bI bl) (bI cl))), (g 1, .inl (t 0, n * 20, .inl cf))] H) (hD : va_D A [(T 0, .inr (3, tO T h (nI wk) (nI dy) (nI b) fl tw)), (T 2, .inl (t 4, 16, .inr (.inr (.inr (.inr sa))))), (g 0, .inr (2, sO g (nI s_) (nI ow_) (nI n) ct st en gn ov (bI bl) (bI cl))), (g 1, .inl (t 0, n * 20, .inl cf))]) (hS : va_S A s.heap H locs) : W p l e r_X3_coinByte s m args below meth c H locs 0 0 Q (F0 m 0 ls []) := by
  obtain ⟨hx, hcb, hml, hown, hts, hK, hA, hX, hN⟩ := id C
  refine lv_aload_n hx hcb dX3_coinByte_0 rfl (lv_at hl 0 rfl) ?_
  refine lv_iload_n hx hcb dX3_coinByte_1 rfl (lv_at hl 1 rfl) ?_
  refine ct_callV (As := [.int (nI s_)]) (rest := []) (wr := [(g 0, .inr (2, sO g (nI s_) (nI ow_) (nI n) ct st en gn ov (bI bl) (bI cl))), (g 1, .inl (t 0, n * 20, .inl cf))]) C (c_X3_scrollOf l D t x T h wk dy b fl tw s_ sa (g 0) (by omega) (by omega) hsa) (cwV 1 hts (gt_app (by simpa using ⟨wm_X3_97, wi_yX3_scrollOf, wv_X3_scrollOf, wz_X3⟩) (gt_code wc_X3_scrollOf)) rfl rfl rfl (by decide +kernel) ⟨Nat.le_of_ble_eq_true rfl, Nat.le_of_ble_eq_true rfl⟩) rfl rfl (q0 := 0) rfl hP hD hS [0, 1] [2, 3] rfl (by decide) rfl (by decide) (by decide) rfl hl.1 rfl (Nat.le_of_ble_eq_true rfl) dX3_coinByte_2 ⟨Nat.le_of_ble_eq_true rfl, Nat.le_of_ble_eq_true rfl⟩ (fun u H locs hw_1 hP hD hS => ?_)
  have hP : va_P D vwCl [(g 0, .inr (2, sO g (nI s_) (nI ow_) (nI n) ct st en gn ov (bI bl) (bI cl))), (g 1, .inl (t 0, n * 20, .inl cf)), (T 0, .inr (3, tO T h (nI wk) (nI dy) (nI b) fl tw)), (T 2, .inl (t 4, 16, .inr (.inr (.inr (.inr sa)))))] H := hP
  have hD : va_D A [(g 0, .inr (2, sO g (nI s_) (nI ow_) (nI n) ct st en gn ov (bI bl) (bI cl))), (g 1, .inl (t 0, n * 20, .inl cf)), (T 0, .inr (3, tO T h (nI wk) (nI dy) (nI b) fl tw)), (T 2, .inl (t 4, 16, .inr (.inr (.inr (.inr sa)))))] := hD
  refine W.eq (g2 := F0 m 5 ls [.ref (g 0)]) rfl ?_
  refine lv_astore (lv' := [(4, .ref (g 0)), (0, .ref (T 0)), (1, .int (nI s_)), (2, .int p1), (3, .int p2)]) hx hcb dX3_coinByte_5 hl (by decide) rfl (fun ls hl => ?_)
  refine lv_aload hx hcb dX3_coinByte_7 (lv_at hl 0 rfl) ?_
  refine lv_ifnull hx hcb dX3_coinByte_9 ?_
  refine lv_aload hx hcb dX3_coinByte_12 (lv_at hl 0 rfl) ?_
  refine lv_iload_n hx hcb dX3_coinByte_14 rfl (lv_at hl 3 rfl) ?_
  refine ct_callV (As := [.int p1]) (rest := []) (wr := [(g 1, .inl (t 0, n * 20, .inl cf)), (T 0, .inr (3, tO T h (nI wk) (nI dy) (nI b) fl tw)), (T 2, .inl (t 4, 16, .inr (.inr (.inr (.inr sa)))))]) C (c_X2_hasCoin l D t x g s_ ow_ n ct st en gn ov bl cl p1 ) (cwV 1 hts (gt_app (by simpa using ⟨wm_X3_128, wi_yX2_hasCoin, wv_X2_hasCoin, wz_X2⟩) (gt_code wc_X2_hasCoin)) rfl rfl rfl (by decide +kernel) ⟨Nat.le_of_ble_eq_true rfl, Nat.le_of_ble_eq_true rfl⟩) rfl rfl (q0 := 0) rfl hP hD hS [0] [1, 2, 3] rfl (by decide) rfl (by decide) (by decide) rfl hl.1 rfl (Nat.le_of_ble_eq_true rfl) dX3_coinByte_15 ⟨Nat.le_of_ble_eq_true rfl, Nat.le_of_ble_eq_true rfl⟩ (fun u H locs hw_2 hP hD hS => ?_)
  have hP : va_P D vwCl [(g 1, .inl (t 0, n * 20, .inl cf)), (T 0, .inr (3, tO T h (nI wk) (nI dy) (nI b) fl tw)), (T 2, .inl (t 4, 16, .inr (.inr (.inr (.inr sa))))), (g 0, .inr (2, sO g (nI s_) (nI ow_) (nI n) ct st en gn ov (bI bl) (bI cl)))] H := hP
  have hD : va_D A [(g 1, .inl (t 0, n * 20, .inl cf)), (T 0, .inr (3, tO T h (nI wk) (nI dy) (nI b) fl tw)), (T 2, .inl (t 4, 16, .inr (.inr (.inr (.inr sa))))), (g 0, .inr (2, sO g (nI s_) (nI ow_) (nI n) ct st en gn ov (bI bl) (bI cl)))] := hD
  refine W.eq (g2 := F0 m 18 ls [.int (bI (wi p1 (nI 1) (nI n)))]) rfl ?_
  refine q_bif_eq (tgt := 31) hx hcb dX3_coinByte_18 (by decide) (fun c_3 => ?_) (fun c_3 => ?_)
  · refine lv_iconst (v := (-1)) hx hcb dX3_coinByte_31 (by decide) ?_
    have hP9 := hP.sub (ws' := [(T 0, .inr (3, tO T h (nI wk) (nI dy) (nI b) fl tw)), (T 2, .inl (t 4, 16, .inr (.inr (.inr (.inr sa))))), (g 0, .inr (2, sO g (nI s_) (nI ow_) (nI n) ct st en gn ov (bI bl) (bI cl))), (g 1, .inl (t 0, n * 20, .inl cf))]) [1, 2, 3, 0] rfl
    have hD9 := hD.sub (ws' := [(T 0, .inr (3, tO T h (nI wk) (nI dy) (nI b) fl tw)), (T 2, .inl (t 4, 16, .inr (.inr (.inr (.inr sa))))), (g 0, .inr (2, sO g (nI s_) (nI ow_) (nI n) ct st en gn ov (bI bl) (bI cl))), (g 1, .inl (t 0, n * 20, .inl cf))]) [1, 2, 3, 0] (by decide) rfl
    exact ret () _ _ _ _ _ (by rw [cb2, if_neg (by rw [c_3]; exact fun q => absurd q.1 (by decide))]) dX3_coinByte_32 trivial hP9 hD9 hS
  · have c9b := c_3
    obtain ⟨jj, hj1, hj2, rfl⟩ := wi_nat (by decide) (by omega) c_3
    have hc1 : cN (nI jj) = jj := cN_nI (by omega)
    refine lv_iload_n hx hcb dX3_coinByte_21 rfl (lv_at hl 4 rfl) ?_
    refine lv_iconst (v := nI 0) hx hcb dX3_coinByte_22 (by decide) ?_
    refine lv_bipush (v := nI 19) hx hcb dX3_coinByte_23 (by decide) ?_
    refine ct_callS (as := [.int p2, .int (nI 0), .int (nI 19)]) (rest := []) (wr := [(g 1, .inl (t 0, n * 20, .inl cf)), (T 0, .inr (3, tO T h (nI wk) (nI dy) (nI b) fl tw)), (T 2, .inl (t 4, 16, .inr (.inr (.inr (.inr sa))))), (g 0, .inr (2, sO g (nI s_) (nI ow_) (nI n) ct st en gn ov (bI bl) (bI cl)))]) C (c_X3_isWithin l D t x p2 (nI 0) (nI 19) ) (va_cwS 3 hts (gt_app (by simpa using ⟨wm_X3_75, ws_yX3_isWithin, wz_X3⟩) (gt_code wc_X3_isWithin)) rfl rfl rfl (by decide +kernel) ⟨Nat.le_of_ble_eq_true rfl, Nat.le_of_ble_eq_true rfl⟩) hP hD hS [] [0, 1, 2, 3] rfl (by decide) rfl (by decide) (by decide) rfl hl.1 rfl (Nat.le_of_ble_eq_true rfl) dX3_coinByte_25 ⟨Nat.le_of_ble_eq_true rfl, Nat.le_of_ble_eq_true rfl⟩ (fun u H locs hw_4 hP hD hS => ?_)
    have hP : va_P D vwCl [(g 1, .inl (t 0, n * 20, .inl cf)), (T 0, .inr (3, tO T h (nI wk) (nI dy) (nI b) fl tw)), (T 2, .inl (t 4, 16, .inr (.inr (.inr (.inr sa))))), (g 0, .inr (2, sO g (nI s_) (nI ow_) (nI n) ct st en gn ov (bI bl) (bI cl)))] H := hP
    have hD : va_D A [(g 1, .inl (t 0, n * 20, .inl cf)), (T 0, .inr (3, tO T h (nI wk) (nI dy) (nI b) fl tw)), (T 2, .inl (t 4, 16, .inr (.inr (.inr (.inr sa))))), (g 0, .inr (2, sO g (nI s_) (nI ow_) (nI n) ct st en gn ov (bI bl) (bI cl)))] := hD
    refine W.eq (g2 := F0 m 28 ls [.int (bI (wi p2 (nI 0) (nI 19)))]) rfl ?_
    refine q_bif_ne (tgt := 33) hx hcb dX3_coinByte_28 (by decide) (fun c_5 => ?_) (fun c_5 => ?_)
    · have c9c := c_5
      obtain ⟨i9, -, hi9, rfl⟩ := wi_nat (by decide) (by decide) c_5
      have hc2 : cN (nI i9) = i9 := cN_nI (by omega)
      refine lv_aload hx hcb dX3_coinByte_33 (lv_at hl 0 rfl) ?_
      refine va_get (D := D) (ci := 2) (v := .ref (g 1)) (C := RX2) (T := TX2) (N := 14) hx hcb hts inX2 hown hK hP 3 rfl rfl 6 (by decide) (hts _ wf_X3_131) (fun _ h9 => h9) rfl dX3_coinByte_35 ?_
      refine lv_aload hx hcb dX3_coinByte_38 (lv_at hl 0 rfl) ?_
      refine lv_iload_n hx hcb dX3_coinByte_40 rfl (lv_at hl 3 rfl) ?_
      refine ct_callV (As := [.int (nI jj)]) (rest := [.ref (g 1)]) (wr := [(g 1, .inl (t 0, n * 20, .inl cf)), (T 0, .inr (3, tO T h (nI wk) (nI dy) (nI b) fl tw)), (T 2, .inl (t 4, 16, .inr (.inr (.inr (.inr sa)))))]) C (c_X2_coinAt l D t x g s_ ow_ n ct st en gn ov bl cl jj (by omega)) (cwV 1 hts (gt_app (by simpa using ⟨wm_X3_134, wi_yX2_coinAt, wv_X2_coinAt, wz_X2⟩) (gt_code wc_X2_coinAt)) rfl rfl rfl (by decide +kernel) ⟨Nat.le_of_ble_eq_true rfl, Nat.le_of_ble_eq_true rfl⟩) rfl rfl (q0 := 3) rfl hP hD hS [3] [0, 1, 2] rfl (by decide) rfl (by decide) (by decide) rfl hl.1 rfl (Nat.le_of_ble_eq_true rfl) dX3_coinByte_41 ⟨Nat.le_of_ble_eq_true rfl, Nat.le_of_ble_eq_true rfl⟩ (fun u H locs hw_6 hP hD hS => ?_)
      have hP : va_P D vwCl [(g 1, .inl (t 0, n * 20, .inl cf)), (T 0, .inr (3, tO T h (nI wk) (nI dy) (nI b) fl tw)), (T 2, .inl (t 4, 16, .inr (.inr (.inr (.inr sa))))), (g 0, .inr (2, sO g (nI s_) (nI ow_) (nI n) ct st en gn ov (bI bl) (bI cl)))] H := hP
      have hD : va_D A [(g 1, .inl (t 0, n * 20, .inl cf)), (T 0, .inr (3, tO T h (nI wk) (nI dy) (nI b) fl tw)), (T 2, .inl (t 4, 16, .inr (.inr (.inr (.inr sa))))), (g 0, .inr (2, sO g (nI s_) (nI ow_) (nI n) ct st en gn ov (bI bl) (bI cl)))] := hD
      refine W.eq (g2 := F0 m 44 ls [.int (nI ((jj - 1) * 20)), .ref (g 1)]) rfl ?_
      refine lv_iload_n hx hcb dX3_coinByte_44 rfl (lv_at hl 4 rfl) ?_
      refine q_iadd (x := ((jj - 1) * 20)) (y := i9) hx hcb dX3_coinByte_45 ?_
      refine q_bald (j := ((jj - 1) * 20) + i9) hx hcb hK hP 0 0 rfl rfl (by omega) (by omega) dX3_coinByte_46 ?_
      refine lv_sipush (v := nI 255) hx hcb dX3_coinByte_47 (by decide) ?_
      refine lv_iand hx hcb dX3_coinByte_50 ?_
      have hP9 := hP.sub (ws' := [(T 0, .inr (3, tO T h (nI wk) (nI dy) (nI b) fl tw)), (T 2, .inl (t 4, 16, .inr (.inr (.inr (.inr sa))))), (g 0, .inr (2, sO g (nI s_) (nI ow_) (nI n) ct st en gn ov (bI bl) (bI cl))), (g 1, .inl (t 0, n * 20, .inl cf))]) [1, 2, 3, 0] rfl
      have hD9 := hD.sub (ws' := [(T 0, .inr (3, tO T h (nI wk) (nI dy) (nI b) fl tw)), (T 2, .inl (t 4, 16, .inr (.inr (.inr (.inr sa))))), (g 0, .inr (2, sO g (nI s_) (nI ow_) (nI n) ct st en gn ov (bI bl) (bI cl))), (g 1, .inl (t 0, n * 20, .inl cf))]) [1, 2, 3, 0] (by decide) rfl
      exact ret () _ _ _ _ _ (by rw [cb2, hc1, hc2, if_pos ⟨c9b, c9c⟩]) dX3_coinByte_51 trivial hP9 hD9 hS
    · refine lv_iconst (v := (-1)) hx hcb dX3_coinByte_31 (by decide) ?_
      have hP9 := hP.sub (ws' := [(T 0, .inr (3, tO T h (nI wk) (nI dy) (nI b) fl tw)), (T 2, .inl (t 4, 16, .inr (.inr (.inr (.inr sa))))), (g 0, .inr (2, sO g (nI s_) (nI ow_) (nI n) ct st en gn ov (bI bl) (bI cl))), (g 1, .inl (t 0, n * 20, .inl cf))]) [1, 2, 3, 0] rfl
      have hD9 := hD.sub (ws' := [(T 0, .inr (3, tO T h (nI wk) (nI dy) (nI b) fl tw)), (T 2, .inl (t 4, 16, .inr (.inr (.inr (.inr sa))))), (g 0, .inr (2, sO g (nI s_) (nI ow_) (nI n) ct st en gn ov (bI bl) (bI cl))), (g 1, .inl (t 0, n * 20, .inl cf))]) [1, 2, 3, 0] (by decide) rfl
      exact ret () _ _ _ _ _ (by rw [cb2, if_neg (by rw [c_5]; exact fun q => absurd q.2 (by decide))]) dX3_coinByte_32 trivial hP9 hD9 hS
end
set_option maxHeartbeats 1000000 in
set_option maxRecDepth 100000 in
/-- coinByte(scroll, index, i), there -/
theorem c_X3_coinByte (l : Launch) (D : va_G) (t : Nat → ClassId) (x : Nat → Nat) (T : Nat → Nat) (h : Nat → Nat) (wk : Nat) (dy : Nat) (b : Nat) (fl : Int64) (tw : Int64) (g : Nat → Nat) (s_ : Nat) (ow_ : Nat) (n : Nat) (ct : Int32) (st : Int32) (en : Int32) (gn : Int32) (ov : Int32) (bl : Bool) (cl : Bool) (sa : Nat → Option Nat) (p1 : Int32) (p2 : Int32) (cf : Nat → Int32) (hb16 : b ≤ 16) (hs : s_ < b) (hsa : sa s_ = some (g 0)) (hn60 : n ≤ 60) : Ct l D t x yX3_coinByte wsX3_coinByte r_X3_coinByte [.ref (T 0), .int (nI s_), .int p1, .int p2] [(T 0, .inr (3, tO T h (nI wk) (nI dy) (nI b) fl tw)), (T 2, .inl (t 4, 16, .inr (.inr (.inr (.inr sa))))), (g 0, .inr (2, sO g (nI s_) (nI ow_) (nI n) ct st en gn ov (bI bl) (bI cl))), (g 1, .inl (t 0, n * 20, .inl cf))] (Unit) (fun (_ : Unit) => True) (fun (_ : Unit) => some (.int (cb2 p1 p2 n cf))) (fun (_ : Unit) => [(T 0, .inr (3, tO T h (nI wk) (nI dy) (nI b) fl tw)), (T 2, .inl (t 4, 16, .inr (.inr (.inr (.inr sa))))), (g 0, .inr (2, sO g (nI s_) (nI ow_) (nI n) ct st en gn ov (bI bl) (bI cl))), (g 1, .inl (t 0, n * 20, .inl cf))]) 0 0 := ct_ofI (by decide) rfl (Nat.le_of_ble_eq_true rfl) rfl (fun p e s m below meth c A ls Q C ret hl hP hD hS => b_X3_coinByte T h wk dy b fl tw g s_ ow_ n ct st en gn ov bl cl sa p1 p2 cf hb16 hs hsa hn60 C ret hl hP hD hS)
def r_X3_letterByte : Room := { frames := 2, cells := 0, slots := 0, locals := 43 }
section
variable {p : Program} {l : Launch} {e : Env} {s : State} {m : MethodId} {args : Array Value} {below : List Frame} {meth : Method} {c : Code} {Q : State → Prop} {D : va_G} {t : Nat → ClassId} {x : Nat → Nat} {A : Nat → Prop}
set_option maxHeartbeats 1000000 in
set_option maxRecDepth 100000 in
theorem b_X3_letterByte (T : Nat → Nat) (h : Nat → Nat) (wk : Nat) (dy : Nat) (b : Nat) (fl : Int64) (tw : Int64) (g : Nat → Nat) (s_ : Nat) (ow_ : Nat) (n : Nat) (ct : Int32) (st : Int32) (en : Int32) (gn : Int32) (ov : Int32) (bl : Bool) (cl : Bool) (sa : Nat → Option Nat) (p1 : Int32) (lt : Nat → Int32) (hb16 : b ≤ 16) (hs : s_ < b) (hsa : sa s_ = some (g 0)) {H : Heap} {locs : List Loc} {ls : Array Slot} (C : Cx p s m args c cX3_letterByte 4 RX3 D t x A) (ret : RtI p l e r_X3_letterByte s m args below meth c Q D A cX3_letterByte (Unit) (fun (_ : Unit) => True) (fun (_ : Unit) => some (.int (lb2 p1 lt))) (fun (_ : Unit) => [(T 0, .inr (3, tO T h (nI wk) (nI dy) (nI b) fl tw)), (T 2, .inl (t 4, 16, .inr (.inr (.inr (.inr sa))))), (g 0, .inr (2, sO g (nI s_) (nI ow_) (nI n) ct st en gn ov (bI bl) (bI cl))), (g 2, .inl (t 0, 204, .inl lt))]) 0 0) (hl : lv_has ls 4 [(0, .ref (T 0)), (1, .int (nI s_)), (2, .int p1)]) (hP : va_P D vwCl [(T 0, .inr (3, tO T h (nI wk) (nI dy) (nI b) fl tw)), (T 2, .inl (t 4, 16, .inr (.inr (.inr (.inr sa))))), (g 0, .inr (2, sO g (nI s_) (nI ow_) (nI n) ct st en gn ov (bI bl) (bI cl))), (g 2, .inl (t 0, 204, .inl lt))] H) (hD : va_D A [(T 0, .inr (3, tO T h (nI wk) (nI dy) (nI b) fl tw)), (T 2, .inl (t 4, 16, .inr (.inr (.inr (.inr sa))))), (g 0, .inr (2, sO g (nI s_) (nI ow_) (nI n) ct st en gn ov (bI bl) (bI cl))), (g 2, .inl (t 0, 204, .inl lt))]) (hS : va_S A s.heap H locs) : W p l e r_X3_letterByte s m args below meth c H locs 0 0 Q (F0 m 0 ls []) := by
  obtain ⟨hx, hcb, hml, hown, hts, hK, hA, hX, hN⟩ := id C
  refine lv_aload_n hx hcb dX3_letterByte_0 rfl (lv_at hl 0 rfl) ?_
  refine lv_iload_n hx hcb dX3_letterByte_1 rfl (lv_at hl 1 rfl) ?_
  refine ct_callV (As := [.int (nI s_)]) (rest := []) (wr := [(g 0, .inr (2, sO g (nI s_) (nI ow_) (nI n) ct st en gn ov (bI bl) (bI cl))), (g 2, .inl (t 0, 204, .inl lt))]) C (c_X3_scrollOf l D t x T h wk dy b fl tw s_ sa (g 0) (by omega) (by omega) hsa) (cwV 1 hts (gt_app (by simpa using ⟨wm_X3_97, wi_yX3_scrollOf, wv_X3_scrollOf, wz_X3⟩) (gt_code wc_X3_scrollOf)) rfl rfl rfl (by decide +kernel) ⟨Nat.le_of_ble_eq_true rfl, Nat.le_of_ble_eq_true rfl⟩) rfl rfl (q0 := 0) rfl hP hD hS [0, 1] [2, 3] rfl (by decide) rfl (by decide) (by decide) rfl hl.1 rfl (Nat.le_of_ble_eq_true rfl) dX3_letterByte_2 ⟨Nat.le_of_ble_eq_true rfl, Nat.le_of_ble_eq_true rfl⟩ (fun u H locs hw_1 hP hD hS => ?_)
  have hP : va_P D vwCl [(g 0, .inr (2, sO g (nI s_) (nI ow_) (nI n) ct st en gn ov (bI bl) (bI cl))), (g 2, .inl (t 0, 204, .inl lt)), (T 0, .inr (3, tO T h (nI wk) (nI dy) (nI b) fl tw)), (T 2, .inl (t 4, 16, .inr (.inr (.inr (.inr sa)))))] H := hP
  have hD : va_D A [(g 0, .inr (2, sO g (nI s_) (nI ow_) (nI n) ct st en gn ov (bI bl) (bI cl))), (g 2, .inl (t 0, 204, .inl lt)), (T 0, .inr (3, tO T h (nI wk) (nI dy) (nI b) fl tw)), (T 2, .inl (t 4, 16, .inr (.inr (.inr (.inr sa)))))] := hD
  refine W.eq (g2 := F0 m 5 ls [.ref (g 0)]) rfl ?_
  refine lv_astore_n (lv' := [(3, .ref (g 0)), (0, .ref (T 0)), (1, .int (nI s_)), (2, .int p1)]) hx hcb dX3_letterByte_5 rfl hl (by decide) rfl (fun ls hl => ?_)
  refine lv_aload_n hx hcb dX3_letterByte_6 rfl (lv_at hl 0 rfl) ?_
  refine lv_ifnull hx hcb dX3_letterByte_7 ?_
  refine lv_iload_n hx hcb dX3_letterByte_10 rfl (lv_at hl 3 rfl) ?_
  refine lv_iconst (v := nI 0) hx hcb dX3_letterByte_11 (by decide) ?_
  refine lv_sipush (v := nI 203) hx hcb dX3_letterByte_12 (by decide) ?_
  refine ct_callS (as := [.int p1, .int (nI 0), .int (nI 203)]) (rest := []) (wr := [(g 0, .inr (2, sO g (nI s_) (nI ow_) (nI n) ct st en gn ov (bI bl) (bI cl))), (g 2, .inl (t 0, 204, .inl lt)), (T 0, .inr (3, tO T h (nI wk) (nI dy) (nI b) fl tw)), (T 2, .inl (t 4, 16, .inr (.inr (.inr (.inr sa)))))]) C (c_X3_isWithin l D t x p1 (nI 0) (nI 203) ) (va_cwS 3 hts (gt_app (by simpa using ⟨wm_X3_75, ws_yX3_isWithin, wz_X3⟩) (gt_code wc_X3_isWithin)) rfl rfl rfl (by decide +kernel) ⟨Nat.le_of_ble_eq_true rfl, Nat.le_of_ble_eq_true rfl⟩) hP hD hS [] [0, 1, 2, 3] rfl (by decide) rfl (by decide) (by decide) rfl hl.1 rfl (Nat.le_of_ble_eq_true rfl) dX3_letterByte_15 ⟨Nat.le_of_ble_eq_true rfl, Nat.le_of_ble_eq_true rfl⟩ (fun u H locs hw_2 hP hD hS => ?_)
  have hP : va_P D vwCl [(g 0, .inr (2, sO g (nI s_) (nI ow_) (nI n) ct st en gn ov (bI bl) (bI cl))), (g 2, .inl (t 0, 204, .inl lt)), (T 0, .inr (3, tO T h (nI wk) (nI dy) (nI b) fl tw)), (T 2, .inl (t 4, 16, .inr (.inr (.inr (.inr sa)))))] H := hP
  have hD : va_D A [(g 0, .inr (2, sO g (nI s_) (nI ow_) (nI n) ct st en gn ov (bI bl) (bI cl))), (g 2, .inl (t 0, 204, .inl lt)), (T 0, .inr (3, tO T h (nI wk) (nI dy) (nI b) fl tw)), (T 2, .inl (t 4, 16, .inr (.inr (.inr (.inr sa)))))] := hD
  refine W.eq (g2 := F0 m 18 ls [.int (bI (wi p1 (nI 0) (nI 203)))]) rfl ?_
  refine q_bif_ne (tgt := 23) hx hcb dX3_letterByte_18 (by decide) (fun c_3 => ?_) (fun c_3 => ?_)
  · have c9b := c_3
    obtain ⟨jj, -, hj2, rfl⟩ := wi_nat (by decide) (by decide) c_3
    have hc1 : cN (nI jj) = jj := cN_nI (by omega)
    refine lv_aload_n hx hcb dX3_letterByte_23 rfl (lv_at hl 0 rfl) ?_
    refine va_get (D := D) (ci := 2) (v := .ref (g 2)) (C := RX2) (T := TX2) (N := 14) hx hcb hts inX2 hown hK hP 0 rfl rfl 7 (by decide) (hts _ wf_X3_145) (fun _ h9 => h9) rfl dX3_letterByte_24 ?_
    refine lv_iload_n hx hcb dX3_letterByte_27 rfl (lv_at hl 3 rfl) ?_
    refine q_bald (j := jj) hx hcb hK hP 1 0 rfl rfl (by omega) (by decide) dX3_letterByte_28 ?_
    refine lv_sipush (v := nI 255) hx hcb dX3_letterByte_29 (by decide) ?_
    refine lv_iand hx hcb dX3_letterByte_32 ?_
    have hP9 := hP.sub (ws' := [(T 0, .inr (3, tO T h (nI wk) (nI dy) (nI b) fl tw)), (T 2, .inl (t 4, 16, .inr (.inr (.inr (.inr sa))))), (g 0, .inr (2, sO g (nI s_) (nI ow_) (nI n) ct st en gn ov (bI bl) (bI cl))), (g 2, .inl (t 0, 204, .inl lt))]) [2, 3, 0, 1] rfl
    have hD9 := hD.sub (ws' := [(T 0, .inr (3, tO T h (nI wk) (nI dy) (nI b) fl tw)), (T 2, .inl (t 4, 16, .inr (.inr (.inr (.inr sa))))), (g 0, .inr (2, sO g (nI s_) (nI ow_) (nI n) ct st en gn ov (bI bl) (bI cl))), (g 2, .inl (t 0, 204, .inl lt))]) [2, 3, 0, 1] (by decide) rfl
    exact ret () _ _ _ _ _ (by rw [lb2, hc1, if_pos c9b]) dX3_letterByte_33 trivial hP9 hD9 hS
  · refine lv_iconst (v := (-1)) hx hcb dX3_letterByte_21 (by decide) ?_
    have hP9 := hP.sub (ws' := [(T 0, .inr (3, tO T h (nI wk) (nI dy) (nI b) fl tw)), (T 2, .inl (t 4, 16, .inr (.inr (.inr (.inr sa))))), (g 0, .inr (2, sO g (nI s_) (nI ow_) (nI n) ct st en gn ov (bI bl) (bI cl))), (g 2, .inl (t 0, 204, .inl lt))]) [2, 3, 0, 1] rfl
    have hD9 := hD.sub (ws' := [(T 0, .inr (3, tO T h (nI wk) (nI dy) (nI b) fl tw)), (T 2, .inl (t 4, 16, .inr (.inr (.inr (.inr sa))))), (g 0, .inr (2, sO g (nI s_) (nI ow_) (nI n) ct st en gn ov (bI bl) (bI cl))), (g 2, .inl (t 0, 204, .inl lt))]) [2, 3, 0, 1] (by decide) rfl
    exact ret () _ _ _ _ _ (by rw [lb2, if_neg (by rw [c_3]; decide)]) dX3_letterByte_22 trivial hP9 hD9 hS
end
set_option maxHeartbeats 1000000 in
set_option maxRecDepth 100000 in
/-- letterByte(scroll, i), there -/
theorem c_X3_letterByte (l : Launch) (D : va_G) (t : Nat → ClassId) (x : Nat → Nat) (T : Nat → Nat) (h : Nat → Nat) (wk : Nat) (dy : Nat) (b : Nat) (fl : Int64) (tw : Int64) (g : Nat → Nat) (s_ : Nat) (ow_ : Nat) (n : Nat) (ct : Int32) (st : Int32) (en : Int32) (gn : Int32) (ov : Int32) (bl : Bool) (cl : Bool) (sa : Nat → Option Nat) (p1 : Int32) (lt : Nat → Int32) (hb16 : b ≤ 16) (hs : s_ < b) (hsa : sa s_ = some (g 0)) : Ct l D t x yX3_letterByte wsX3_letterByte r_X3_letterByte [.ref (T 0), .int (nI s_), .int p1] [(T 0, .inr (3, tO T h (nI wk) (nI dy) (nI b) fl tw)), (T 2, .inl (t 4, 16, .inr (.inr (.inr (.inr sa))))), (g 0, .inr (2, sO g (nI s_) (nI ow_) (nI n) ct st en gn ov (bI bl) (bI cl))), (g 2, .inl (t 0, 204, .inl lt))] (Unit) (fun (_ : Unit) => True) (fun (_ : Unit) => some (.int (lb2 p1 lt))) (fun (_ : Unit) => [(T 0, .inr (3, tO T h (nI wk) (nI dy) (nI b) fl tw)), (T 2, .inl (t 4, 16, .inr (.inr (.inr (.inr sa))))), (g 0, .inr (2, sO g (nI s_) (nI ow_) (nI n) ct st en gn ov (bI bl) (bI cl))), (g 2, .inl (t 0, 204, .inl lt))]) 0 0 := ct_ofI (by decide) rfl (Nat.le_of_ble_eq_true rfl) rfl (fun p e s m below meth c A ls Q C ret hl hP hD hS => b_X3_letterByte T h wk dy b fl tw g s_ ow_ n ct st en gn ov bl cl sa p1 lt hb16 hs hsa C ret hl hP hD hS)
def r_X3_powerCut : Room := { frames := 2, cells := 0, slots := 0, locals := 43 }
section
variable {p : Program} {l : Launch} {e : Env} {s : State} {m : MethodId} {args : Array Value} {below : List Frame} {meth : Method} {c : Code} {Q : State → Prop} {D : va_G} {t : Nat → ClassId} {x : Nat → Nat} {A : Nat → Prop}
set_option maxHeartbeats 1000000 in
set_option maxRecDepth 100000 in
theorem b_X3_powerCut (T : Nat → Nat) (h : Nat → Nat) (wk : Nat) (dy : Nat) (b : Nat) (fl : Int64) (tw : Int64) (q : Nat → Nat) (mn : Nat) (ks_ : Nat) (lsn : Nat) (wr : Int32) (ma : Nat → Option Nat) (p1 : Int32) (hm : mn < 8) (hma : ma mn = some (q 0)) {H : Heap} {locs : List Loc} {ls : Array Slot} (C : Cx p s m args c cX3_powerCut 4 RX3 D t x A) (ret : RtZ p l e r_X3_powerCut s m args below meth c Q D A cX3_powerCut (Bool × Int32) (fun (u : Bool × Int32) => u.1 = wi p1 (nI 0) (nI 3) ∧ ((u.1 = false ∧ u.2 = wr) ∨ (u.1 = true ∧ u.2 = p1))) (fun (u : Bool × Int32) => some (.int (bI u.1))) (fun (u : Bool × Int32) => [(T 0, .inr (3, tO T h (nI wk) (nI dy) (nI b) fl tw)), (T 3, .inl (t 5, 8, .inr (.inr (.inr (.inr ma))))), (q 0, .inr (1, eO q (nI mn) (nI ks_) (nI lsn) u.2))]) 0 0) (hl : lv_has ls 4 [(0, .ref (T 0)), (1, .int (nI mn)), (2, .int p1)]) (hP : va_P D vwCl [(T 0, .inr (3, tO T h (nI wk) (nI dy) (nI b) fl tw)), (T 3, .inl (t 5, 8, .inr (.inr (.inr (.inr ma))))), (q 0, .inr (1, eO q (nI mn) (nI ks_) (nI lsn) wr))] H) (hD : va_D A [(T 0, .inr (3, tO T h (nI wk) (nI dy) (nI b) fl tw)), (T 3, .inl (t 5, 8, .inr (.inr (.inr (.inr ma))))), (q 0, .inr (1, eO q (nI mn) (nI ks_) (nI lsn) wr))]) (hS : va_S A s.heap H locs) : W p l e r_X3_powerCut s m args below meth c H locs 0 0 Q (F0 m 0 ls []) := by
  obtain ⟨hx, hcb, hml, hown, hts, hK, hA, hX, hN⟩ := id C
  refine lv_aload_n hx hcb dX3_powerCut_0 rfl (lv_at hl 0 rfl) ?_
  refine lv_iload_n hx hcb dX3_powerCut_1 rfl (lv_at hl 1 rfl) ?_
  refine ct_callV (As := [.int (nI mn)]) (rest := []) (wr := [(q 0, .inr (1, eO q (nI mn) (nI ks_) (nI lsn) wr))]) C (c_X3_meterOf l D t x T h wk dy b fl tw mn ma (q 0) (by omega) hma) (cwV 1 hts (gt_app (by simpa using ⟨wm_X3_101, wi_yX3_meterOf, wv_X3_meterOf, wz_X3⟩) (gt_code wc_X3_meterOf)) rfl rfl rfl (by decide +kernel) ⟨Nat.le_of_ble_eq_true rfl, Nat.le_of_ble_eq_true rfl⟩) rfl rfl (q0 := 0) rfl hP hD hS [0, 1] [2] rfl (by decide) rfl (by decide) (by decide) rfl hl.1 rfl (Nat.le_of_ble_eq_true rfl) dX3_powerCut_2 ⟨Nat.le_of_ble_eq_true rfl, Nat.le_of_ble_eq_true rfl⟩ (fun u H locs hw_1 hP hD hS => ?_)
  have hP : va_P D vwCl [(q 0, .inr (1, eO q (nI mn) (nI ks_) (nI lsn) wr)), (T 0, .inr (3, tO T h (nI wk) (nI dy) (nI b) fl tw)), (T 3, .inl (t 5, 8, .inr (.inr (.inr (.inr ma)))))] H := hP
  have hD : va_D A [(q 0, .inr (1, eO q (nI mn) (nI ks_) (nI lsn) wr)), (T 0, .inr (3, tO T h (nI wk) (nI dy) (nI b) fl tw)), (T 3, .inl (t 5, 8, .inr (.inr (.inr (.inr ma)))))] := hD
  refine W.eq (g2 := F0 m 5 ls [.ref (q 0)]) rfl ?_
  refine lv_astore_n (lv' := [(3, .ref (q 0)), (0, .ref (T 0)), (1, .int (nI mn)), (2, .int p1)]) hx hcb dX3_powerCut_5 rfl hl (by decide) rfl (fun ls hl => ?_)
  refine lv_aload_n hx hcb dX3_powerCut_6 rfl (lv_at hl 0 rfl) ?_
  refine lv_ifnull hx hcb dX3_powerCut_7 ?_
  refine lv_iload_n hx hcb dX3_powerCut_10 rfl (lv_at hl 3 rfl) ?_
  refine lv_iconst (v := nI 0) hx hcb dX3_powerCut_11 (by decide) ?_
  refine lv_iconst (v := nI 3) hx hcb dX3_powerCut_12 (by decide) ?_
  refine ct_callS (as := [.int p1, .int (nI 0), .int (nI 3)]) (rest := []) (wr := [(q 0, .inr (1, eO q (nI mn) (nI ks_) (nI lsn) wr)), (T 0, .inr (3, tO T h (nI wk) (nI dy) (nI b) fl tw)), (T 3, .inl (t 5, 8, .inr (.inr (.inr (.inr ma)))))]) C (c_X3_isWithin l D t x p1 (nI 0) (nI 3) ) (va_cwS 3 hts (gt_app (by simpa using ⟨wm_X3_75, ws_yX3_isWithin, wz_X3⟩) (gt_code wc_X3_isWithin)) rfl rfl rfl (by decide +kernel) ⟨Nat.le_of_ble_eq_true rfl, Nat.le_of_ble_eq_true rfl⟩) hP hD hS [] [0, 1, 2] rfl (by decide) rfl (by decide) (by decide) rfl hl.1 rfl (Nat.le_of_ble_eq_true rfl) dX3_powerCut_13 ⟨Nat.le_of_ble_eq_true rfl, Nat.le_of_ble_eq_true rfl⟩ (fun u H locs hw_2 hP hD hS => ?_)
  have hP : va_P D vwCl [(q 0, .inr (1, eO q (nI mn) (nI ks_) (nI lsn) wr)), (T 0, .inr (3, tO T h (nI wk) (nI dy) (nI b) fl tw)), (T 3, .inl (t 5, 8, .inr (.inr (.inr (.inr ma)))))] H := hP
  have hD : va_D A [(q 0, .inr (1, eO q (nI mn) (nI ks_) (nI lsn) wr)), (T 0, .inr (3, tO T h (nI wk) (nI dy) (nI b) fl tw)), (T 3, .inl (t 5, 8, .inr (.inr (.inr (.inr ma)))))] := hD
  refine W.eq (g2 := F0 m 16 ls [.int (bI (wi p1 (nI 0) (nI 3)))]) rfl ?_
  refine q_bif_ne (tgt := 21) hx hcb dX3_powerCut_16 (by decide) (fun c_3 => ?_) (fun c_3 => ?_)
  · refine lv_aload_n hx hcb dX3_powerCut_21 rfl (lv_at hl 0 rfl) ?_
    refine lv_iload_n hx hcb dX3_powerCut_22 rfl (lv_at hl 3 rfl) ?_
    refine va_put (D := D) (ci := 1) (v := .int p1) (ty := .int) (C := RX1) (T := TX1) (N := 11) hx hcb hts inX1 tyX1 tyX1_ok nX1 hown hK hP hD hS 0 rfl rfl 10 (by decide) (hts _ wf_X3_148) (fun _ h9 => h9) rfl (by decide +kernel) rfl rfl (Nat.le_of_ble_eq_true rfl) dX3_powerCut_23 (fun H locs hP hD hS => ?_)
    have hP : va_P D vwCl [(q 0, .inr (1, eO q (nI mn) (nI ks_) (nI lsn) p1)), (T 0, .inr (3, tO T h (nI wk) (nI dy) (nI b) fl tw)), (T 3, .inl (t 5, 8, .inr (.inr (.inr (.inr ma)))))] H := hP
    have hD : va_D A [(q 0, .inr (1, eO q (nI mn) (nI ks_) (nI lsn) p1)), (T 0, .inr (3, tO T h (nI wk) (nI dy) (nI b) fl tw)), (T 3, .inl (t 5, 8, .inr (.inr (.inr (.inr ma)))))] := hD
    refine lv_iconst (v := nI 1) hx hcb dX3_powerCut_26 (by decide) ?_
    have hP9 := hP.sub (ws' := [(T 0, .inr (3, tO T h (nI wk) (nI dy) (nI b) fl tw)), (T 3, .inl (t 5, 8, .inr (.inr (.inr (.inr ma))))), (q 0, .inr (1, eO q (nI mn) (nI ks_) (nI lsn) p1))]) [1, 2, 0] rfl
    have hD9 := hD.sub (ws' := [(T 0, .inr (3, tO T h (nI wk) (nI dy) (nI b) fl tw)), (T 3, .inl (t 5, 8, .inr (.inr (.inr (.inr ma))))), (q 0, .inr (1, eO q (nI mn) (nI ks_) (nI lsn) p1))]) [1, 2, 0] (by decide) rfl
    exact ret (true, p1) _ true _ _ _ _ rfl rfl dX3_powerCut_27 ⟨c_3.symm, Or.inr ⟨rfl, rfl⟩⟩ hP9 hD9 hS
  · refine lv_iconst (v := nI 0) hx hcb dX3_powerCut_19 (by decide) ?_
    have hP9 := hP.sub (ws' := [(T 0, .inr (3, tO T h (nI wk) (nI dy) (nI b) fl tw)), (T 3, .inl (t 5, 8, .inr (.inr (.inr (.inr ma))))), (q 0, .inr (1, eO q (nI mn) (nI ks_) (nI lsn) wr))]) [1, 2, 0] rfl
    have hD9 := hD.sub (ws' := [(T 0, .inr (3, tO T h (nI wk) (nI dy) (nI b) fl tw)), (T 3, .inl (t 5, 8, .inr (.inr (.inr (.inr ma))))), (q 0, .inr (1, eO q (nI mn) (nI ks_) (nI lsn) wr))]) [1, 2, 0] (by decide) rfl
    exact ret (false, wr) _ false _ _ _ _ rfl rfl dX3_powerCut_20 ⟨c_3.symm, Or.inl ⟨rfl, rfl⟩⟩ hP9 hD9 hS
end
set_option maxHeartbeats 1000000 in
set_option maxRecDepth 100000 in
/-- powerCut(meter, writes), there -/
theorem c_X3_powerCut (l : Launch) (D : va_G) (t : Nat → ClassId) (x : Nat → Nat) (T : Nat → Nat) (h : Nat → Nat) (wk : Nat) (dy : Nat) (b : Nat) (fl : Int64) (tw : Int64) (q : Nat → Nat) (mn : Nat) (ks_ : Nat) (lsn : Nat) (wr : Int32) (ma : Nat → Option Nat) (p1 : Int32) (hm : mn < 8) (hma : ma mn = some (q 0)) : Ct l D t x yX3_powerCut wsX3_powerCut r_X3_powerCut [.ref (T 0), .int (nI mn), .int p1] [(T 0, .inr (3, tO T h (nI wk) (nI dy) (nI b) fl tw)), (T 3, .inl (t 5, 8, .inr (.inr (.inr (.inr ma))))), (q 0, .inr (1, eO q (nI mn) (nI ks_) (nI lsn) wr))] (Bool × Int32) (fun (u : Bool × Int32) => u.1 = wi p1 (nI 0) (nI 3) ∧ ((u.1 = false ∧ u.2 = wr) ∨ (u.1 = true ∧ u.2 = p1))) (fun (u : Bool × Int32) => some (.int (bI u.1))) (fun (u : Bool × Int32) => [(T 0, .inr (3, tO T h (nI wk) (nI dy) (nI b) fl tw)), (T 3, .inl (t 5, 8, .inr (.inr (.inr (.inr ma))))), (q 0, .inr (1, eO q (nI mn) (nI ks_) (nI lsn) u.2))]) 0 0 := ct_ofZ (by decide) rfl (Nat.le_of_ble_eq_true rfl) rfl (fun p e s m below meth c A ls Q C ret hl hP hD hS => b_X3_powerCut T h wk dy b fl tw q mn ks_ lsn wr ma p1 hm hma C ret hl hP hD hS)
def r_X3_spent : Room := { frames := 2, cells := 0, slots := 0, locals := 43 }
section
variable {p : Program} {l : Launch} {e : Env} {s : State} {m : MethodId} {args : Array Value} {below : List Frame} {meth : Method} {c : Code} {Q : State → Prop} {D : va_G} {t : Nat → ClassId} {x : Nat → Nat} {A : Nat → Prop}
set_option maxHeartbeats 1000000 in
set_option maxRecDepth 100000 in
theorem b_X3_spent (T : Nat → Nat) (h : Nat → Nat) (wk : Nat) (dy : Nat) (b : Nat) (fl : Int64) (tw : Int64) (q : Nat → Nat) (mn : Nat) (ks_ : Nat) (lsn : Nat) (wr : Int32) (g : Nat → Nat) (s_ : Nat) (ow_ : Nat) (n : Nat) (ct : Int32) (st : Int32) (en : Int32) (gn : Int32) (ov : Int32) (bl : Bool) (cl : Bool) (sa : Nat → Option Nat) (ma : Nat → Option Nat) (ol : Nat → Bool) (ix : Nat → Nat) (hb16 : b ≤ 16) (hs : s_ < b) (hsa : sa s_ = some (g 0)) (hm : mn < 8) (hma : ma mn = some (q 0)) {H : Heap} {locs : List Loc} {ls : Array Slot} (C : Cx p s m args c cX3_spent 5 RX3 D t x A) (ret : RtI p l e r_X3_spent s m args below meth c Q D A cX3_spent (Unit) (fun (_ : Unit) => True) (fun (_ : Unit) => some (.int (sp2 (ol s_) (ix s_)))) (fun (_ : Unit) => [(T 0, .inr (3, tO T h (nI wk) (nI dy) (nI b) fl tw)), (T 2, .inl (t 4, 16, .inr (.inr (.inr (.inr sa))))), (T 3, .inl (t 5, 8, .inr (.inr (.inr (.inr ma))))), (q 0, .inr (1, eO q (nI mn) (nI ks_) (nI lsn) wr)), (q 4, .inl (t 3, 16, .inl (fun j => bI (ol j)))), (q 5, .inl (t 1, 16, .inl (fun j => nI (ix j)))), (g 0, .inr (2, sO g (nI s_) (nI ow_) (nI n) ct st en gn ov (bI bl) (bI cl)))]) 0 0) (hl : lv_has ls 5 [(0, .ref (T 0)), (1, .int (nI s_)), (2, .int (nI mn))]) (hP : va_P D vwCl [(T 0, .inr (3, tO T h (nI wk) (nI dy) (nI b) fl tw)), (T 2, .inl (t 4, 16, .inr (.inr (.inr (.inr sa))))), (T 3, .inl (t 5, 8, .inr (.inr (.inr (.inr ma))))), (q 0, .inr (1, eO q (nI mn) (nI ks_) (nI lsn) wr)), (q 4, .inl (t 3, 16, .inl (fun j => bI (ol j)))), (q 5, .inl (t 1, 16, .inl (fun j => nI (ix j)))), (g 0, .inr (2, sO g (nI s_) (nI ow_) (nI n) ct st en gn ov (bI bl) (bI cl)))] H) (hD : va_D A [(T 0, .inr (3, tO T h (nI wk) (nI dy) (nI b) fl tw)), (T 2, .inl (t 4, 16, .inr (.inr (.inr (.inr sa))))), (T 3, .inl (t 5, 8, .inr (.inr (.inr (.inr ma))))), (q 0, .inr (1, eO q (nI mn) (nI ks_) (nI lsn) wr)), (q 4, .inl (t 3, 16, .inl (fun j => bI (ol j)))), (q 5, .inl (t 1, 16, .inl (fun j => nI (ix j)))), (g 0, .inr (2, sO g (nI s_) (nI ow_) (nI n) ct st en gn ov (bI bl) (bI cl)))]) (hS : va_S A s.heap H locs) : W p l e r_X3_spent s m args below meth c H locs 0 0 Q (F0 m 0 ls []) := by
  obtain ⟨hx, hcb, hml, hown, hts, hK, hA, hX, hN⟩ := id C
  refine lv_aload_n hx hcb dX3_spent_0 rfl (lv_at hl 0 rfl) ?_
  refine lv_iload_n hx hcb dX3_spent_1 rfl (lv_at hl 1 rfl) ?_
  refine ct_callV (As := [.int (nI s_)]) (rest := []) (wr := [(T 3, .inl (t 5, 8, .inr (.inr (.inr (.inr ma))))), (q 0, .inr (1, eO q (nI mn) (nI ks_) (nI lsn) wr)), (q 4, .inl (t 3, 16, .inl (fun j => bI (ol j)))), (q 5, .inl (t 1, 16, .inl (fun j => nI (ix j)))), (g 0, .inr (2, sO g (nI s_) (nI ow_) (nI n) ct st en gn ov (bI bl) (bI cl)))]) C (c_X3_scrollOf l D t x T h wk dy b fl tw s_ sa (g 0) (by omega) (by omega) hsa) (cwV 1 hts (gt_app (by simpa using ⟨wm_X3_97, wi_yX3_scrollOf, wv_X3_scrollOf, wz_X3⟩) (gt_code wc_X3_scrollOf)) rfl rfl rfl (by decide +kernel) ⟨Nat.le_of_ble_eq_true rfl, Nat.le_of_ble_eq_true rfl⟩) rfl rfl (q0 := 0) rfl hP hD hS [0, 1] [2, 3, 4, 5, 6] rfl (by decide) rfl (by decide) (by decide) rfl hl.1 rfl (Nat.le_of_ble_eq_true rfl) dX3_spent_2 ⟨Nat.le_of_ble_eq_true rfl, Nat.le_of_ble_eq_true rfl⟩ (fun u H locs hw_1 hP hD hS => ?_)
  have hP : va_P D vwCl [(T 3, .inl (t 5, 8, .inr (.inr (.inr (.inr ma))))), (q 0, .inr (1, eO q (nI mn) (nI ks_) (nI lsn) wr)), (q 4, .inl (t 3, 16, .inl (fun j => bI (ol j)))), (q 5, .inl (t 1, 16, .inl (fun j => nI (ix j)))), (g 0, .inr (2, sO g (nI s_) (nI ow_) (nI n) ct st en gn ov (bI bl) (bI cl))), (T 0, .inr (3, tO T h (nI wk) (nI dy) (nI b) fl tw)), (T 2, .inl (t 4, 16, .inr (.inr (.inr (.inr sa)))))] H := hP
  have hD : va_D A [(T 3, .inl (t 5, 8, .inr (.inr (.inr (.inr ma))))), (q 0, .inr (1, eO q (nI mn) (nI ks_) (nI lsn) wr)), (q 4, .inl (t 3, 16, .inl (fun j => bI (ol j)))), (q 5, .inl (t 1, 16, .inl (fun j => nI (ix j)))), (g 0, .inr (2, sO g (nI s_) (nI ow_) (nI n) ct st en gn ov (bI bl) (bI cl))), (T 0, .inr (3, tO T h (nI wk) (nI dy) (nI b) fl tw)), (T 2, .inl (t 4, 16, .inr (.inr (.inr (.inr sa)))))] := hD
  refine W.eq (g2 := F0 m 5 ls [.ref (g 0)]) rfl ?_
  refine lv_astore_n (lv' := [(3, .ref (g 0)), (0, .ref (T 0)), (1, .int (nI s_)), (2, .int (nI mn))]) hx hcb dX3_spent_5 rfl hl (by decide) rfl (fun ls hl => ?_)
  refine lv_aload_n hx hcb dX3_spent_6 rfl (lv_at hl 1 rfl) ?_
  refine lv_iload_n hx hcb dX3_spent_7 rfl (lv_at hl 3 rfl) ?_
  refine ct_callV (As := [.int (nI mn)]) (rest := []) (wr := [(q 0, .inr (1, eO q (nI mn) (nI ks_) (nI lsn) wr)), (q 4, .inl (t 3, 16, .inl (fun j => bI (ol j)))), (q 5, .inl (t 1, 16, .inl (fun j => nI (ix j)))), (g 0, .inr (2, sO g (nI s_) (nI ow_) (nI n) ct st en gn ov (bI bl) (bI cl))), (T 2, .inl (t 4, 16, .inr (.inr (.inr (.inr sa)))))]) C (c_X3_meterOf l D t x T h wk dy b fl tw mn ma (q 0) (by omega) hma) (cwV 1 hts (gt_app (by simpa using ⟨wm_X3_101, wi_yX3_meterOf, wv_X3_meterOf, wz_X3⟩) (gt_code wc_X3_meterOf)) rfl rfl rfl (by decide +kernel) ⟨Nat.le_of_ble_eq_true rfl, Nat.le_of_ble_eq_true rfl⟩) rfl rfl (q0 := 5) rfl hP hD hS [5, 0] [1, 2, 3, 4, 6] rfl (by decide) rfl (by decide) (by decide) rfl hl.1 rfl (Nat.le_of_ble_eq_true rfl) dX3_spent_8 ⟨Nat.le_of_ble_eq_true rfl, Nat.le_of_ble_eq_true rfl⟩ (fun u H locs hw_2 hP hD hS => ?_)
  have hP : va_P D vwCl [(q 0, .inr (1, eO q (nI mn) (nI ks_) (nI lsn) wr)), (q 4, .inl (t 3, 16, .inl (fun j => bI (ol j)))), (q 5, .inl (t 1, 16, .inl (fun j => nI (ix j)))), (g 0, .inr (2, sO g (nI s_) (nI ow_) (nI n) ct st en gn ov (bI bl) (bI cl))), (T 2, .inl (t 4, 16, .inr (.inr (.inr (.inr sa))))), (T 0, .inr (3, tO T h (nI wk) (nI dy) (nI b) fl tw)), (T 3, .inl (t 5, 8, .inr (.inr (.inr (.inr ma)))))] H := hP
  have hD : va_D A [(q 0, .inr (1, eO q (nI mn) (nI ks_) (nI lsn) wr)), (q 4, .inl (t 3, 16, .inl (fun j => bI (ol j)))), (q 5, .inl (t 1, 16, .inl (fun j => nI (ix j)))), (g 0, .inr (2, sO g (nI s_) (nI ow_) (nI n) ct st en gn ov (bI bl) (bI cl))), (T 2, .inl (t 4, 16, .inr (.inr (.inr (.inr sa))))), (T 0, .inr (3, tO T h (nI wk) (nI dy) (nI b) fl tw)), (T 3, .inl (t 5, 8, .inr (.inr (.inr (.inr ma)))))] := hD
  refine W.eq (g2 := F0 m 11 ls [.ref (q 0)]) rfl ?_
  refine lv_astore (lv' := [(4, .ref (q 0)), (3, .ref (g 0)), (0, .ref (T 0)), (1, .int (nI s_)), (2, .int (nI mn))]) hx hcb dX3_spent_11 hl (by decide) rfl (fun ls hl => ?_)
  refine lv_aload_n hx hcb dX3_spent_13 rfl (lv_at hl 1 rfl) ?_
  refine lv_ifnull hx hcb dX3_spent_14 ?_
  refine lv_aload hx hcb dX3_spent_17 (lv_at hl 0 rfl) ?_
  refine lv_ifnull hx hcb dX3_spent_19 ?_
  refine lv_aload hx hcb dX3_spent_22 (lv_at hl 0 rfl) ?_
  refine va_get (D := D) (ci := 1) (v := .ref (q 4)) (C := RX1) (T := TX1) (N := 11) hx hcb hts inX1 hown hK hP 0 rfl rfl 5 (by decide) (hts _ wf_X3_192) (fun _ h9 => h9) rfl dX3_spent_24 ?_
  refine lv_aload_n hx hcb dX3_spent_27 rfl (lv_at hl 1 rfl) ?_
  refine va_get (D := D) (ci := 2) (v := .int (nI s_)) (C := RX2) (T := TX2) (N := 14) hx hcb hts inX2 hown hK hP 3 rfl rfl 0 (by decide) (hts _ wf_X3_94) (fun _ h9 => h9) rfl dX3_spent_28 ?_
  refine q_zald (j := s_) hx hcb hK hP 1 3 rfl rfl (by omega) (by decide) dX3_spent_31 ?_
  refine W.eq (g2 := F0 m 32 ls [.int (bI (ol s_))]) rfl ?_
  refine q_bif_ne (tgt := 37) hx hcb dX3_spent_32 (by decide) (fun c_3 => ?_) (fun c_3 => ?_)
  · refine lv_aload hx hcb dX3_spent_37 (lv_at hl 0 rfl) ?_
    refine va_get (D := D) (ci := 1) (v := .ref (q 5)) (C := RX1) (T := TX1) (N := 11) hx hcb hts inX1 hown hK hP 0 rfl rfl 7 (by decide) (hts _ wf_X3_124) (fun _ h9 => h9) rfl dX3_spent_39 ?_
    refine lv_aload_n hx hcb dX3_spent_42 rfl (lv_at hl 1 rfl) ?_
    refine va_get (D := D) (ci := 2) (v := .int (nI s_)) (C := RX2) (T := TX2) (N := 14) hx hcb hts inX2 hown hK hP 3 rfl rfl 0 (by decide) (hts _ wf_X3_94) (fun _ h9 => h9) rfl dX3_spent_43 ?_
    refine q_iald (j := s_) hx hcb hK hP 2 1 rfl rfl (by omega) (by decide) dX3_spent_46 ?_
    refine W.eq (g2 := F0 m 47 ls [.int (nI (ix s_))]) rfl ?_
    have hP9 := hP.sub (ws' := [(T 0, .inr (3, tO T h (nI wk) (nI dy) (nI b) fl tw)), (T 2, .inl (t 4, 16, .inr (.inr (.inr (.inr sa))))), (T 3, .inl (t 5, 8, .inr (.inr (.inr (.inr ma))))), (q 0, .inr (1, eO q (nI mn) (nI ks_) (nI lsn) wr)), (q 4, .inl (t 3, 16, .inl (fun j => bI (ol j)))), (q 5, .inl (t 1, 16, .inl (fun j => nI (ix j)))), (g 0, .inr (2, sO g (nI s_) (nI ow_) (nI n) ct st en gn ov (bI bl) (bI cl)))]) [5, 4, 6, 0, 1, 2, 3] rfl
    have hD9 := hD.sub (ws' := [(T 0, .inr (3, tO T h (nI wk) (nI dy) (nI b) fl tw)), (T 2, .inl (t 4, 16, .inr (.inr (.inr (.inr sa))))), (T 3, .inl (t 5, 8, .inr (.inr (.inr (.inr ma))))), (q 0, .inr (1, eO q (nI mn) (nI ks_) (nI lsn) wr)), (q 4, .inl (t 3, 16, .inl (fun j => bI (ol j)))), (q 5, .inl (t 1, 16, .inl (fun j => nI (ix j)))), (g 0, .inr (2, sO g (nI s_) (nI ow_) (nI n) ct st en gn ov (bI bl) (bI cl)))]) [5, 4, 6, 0, 1, 2, 3] (by decide) rfl
    exact ret () _ _ _ _ _ (by rw [sp2, c_3]; rfl) dX3_spent_47 trivial hP9 hD9 hS
  · refine lv_iconst (v := (-1)) hx hcb dX3_spent_35 (by decide) ?_
    have hP9 := hP.sub (ws' := [(T 0, .inr (3, tO T h (nI wk) (nI dy) (nI b) fl tw)), (T 2, .inl (t 4, 16, .inr (.inr (.inr (.inr sa))))), (T 3, .inl (t 5, 8, .inr (.inr (.inr (.inr ma))))), (q 0, .inr (1, eO q (nI mn) (nI ks_) (nI lsn) wr)), (q 4, .inl (t 3, 16, .inl (fun j => bI (ol j)))), (q 5, .inl (t 1, 16, .inl (fun j => nI (ix j)))), (g 0, .inr (2, sO g (nI s_) (nI ow_) (nI n) ct st en gn ov (bI bl) (bI cl)))]) [5, 4, 6, 0, 1, 2, 3] rfl
    have hD9 := hD.sub (ws' := [(T 0, .inr (3, tO T h (nI wk) (nI dy) (nI b) fl tw)), (T 2, .inl (t 4, 16, .inr (.inr (.inr (.inr sa))))), (T 3, .inl (t 5, 8, .inr (.inr (.inr (.inr ma))))), (q 0, .inr (1, eO q (nI mn) (nI ks_) (nI lsn) wr)), (q 4, .inl (t 3, 16, .inl (fun j => bI (ol j)))), (q 5, .inl (t 1, 16, .inl (fun j => nI (ix j)))), (g 0, .inr (2, sO g (nI s_) (nI ow_) (nI n) ct st en gn ov (bI bl) (bI cl)))]) [5, 4, 6, 0, 1, 2, 3] (by decide) rfl
    exact ret () _ _ _ _ _ (by rw [sp2, c_3]; rfl) dX3_spent_36 trivial hP9 hD9 hS
end
set_option maxHeartbeats 1000000 in
set_option maxRecDepth 100000 in
/-- spent(scroll, meter), there -/
theorem c_X3_spent (l : Launch) (D : va_G) (t : Nat → ClassId) (x : Nat → Nat) (T : Nat → Nat) (h : Nat → Nat) (wk : Nat) (dy : Nat) (b : Nat) (fl : Int64) (tw : Int64) (q : Nat → Nat) (mn : Nat) (ks_ : Nat) (lsn : Nat) (wr : Int32) (g : Nat → Nat) (s_ : Nat) (ow_ : Nat) (n : Nat) (ct : Int32) (st : Int32) (en : Int32) (gn : Int32) (ov : Int32) (bl : Bool) (cl : Bool) (sa : Nat → Option Nat) (ma : Nat → Option Nat) (ol : Nat → Bool) (ix : Nat → Nat) (hb16 : b ≤ 16) (hs : s_ < b) (hsa : sa s_ = some (g 0)) (hm : mn < 8) (hma : ma mn = some (q 0)) : Ct l D t x yX3_spent wsX3_spent r_X3_spent [.ref (T 0), .int (nI s_), .int (nI mn)] [(T 0, .inr (3, tO T h (nI wk) (nI dy) (nI b) fl tw)), (T 2, .inl (t 4, 16, .inr (.inr (.inr (.inr sa))))), (T 3, .inl (t 5, 8, .inr (.inr (.inr (.inr ma))))), (q 0, .inr (1, eO q (nI mn) (nI ks_) (nI lsn) wr)), (q 4, .inl (t 3, 16, .inl (fun j => bI (ol j)))), (q 5, .inl (t 1, 16, .inl (fun j => nI (ix j)))), (g 0, .inr (2, sO g (nI s_) (nI ow_) (nI n) ct st en gn ov (bI bl) (bI cl)))] (Unit) (fun (_ : Unit) => True) (fun (_ : Unit) => some (.int (sp2 (ol s_) (ix s_)))) (fun (_ : Unit) => [(T 0, .inr (3, tO T h (nI wk) (nI dy) (nI b) fl tw)), (T 2, .inl (t 4, 16, .inr (.inr (.inr (.inr sa))))), (T 3, .inl (t 5, 8, .inr (.inr (.inr (.inr ma))))), (q 0, .inr (1, eO q (nI mn) (nI ks_) (nI lsn) wr)), (q 4, .inl (t 3, 16, .inl (fun j => bI (ol j)))), (q 5, .inl (t 1, 16, .inl (fun j => nI (ix j)))), (g 0, .inr (2, sO g (nI s_) (nI ow_) (nI n) ct st en gn ov (bI bl) (bI cl)))]) 0 0 := ct_ofI (by decide) rfl (Nat.le_of_ble_eq_true rfl) rfl (fun p e s m below meth c A ls Q C ret hl hP hD hS => b_X3_spent T h wk dy b fl tw q mn ks_ lsn wr g s_ ow_ n ct st en gn ov bl cl sa ma ol ix hb16 hs hsa hm hma C ret hl hP hD hS)
def r_X3_overspent : Room := { frames := 2, cells := 0, slots := 0, locals := 43 }
section
variable {p : Program} {l : Launch} {e : Env} {s : State} {m : MethodId} {args : Array Value} {below : List Frame} {meth : Method} {c : Code} {Q : State → Prop} {D : va_G} {t : Nat → ClassId} {x : Nat → Nat} {A : Nat → Prop}
set_option maxHeartbeats 1000000 in
set_option maxRecDepth 100000 in
theorem b_X3_overspent (T : Nat → Nat) (h : Nat → Nat) (wk : Nat) (dy : Nat) (b : Nat) (fl : Int64) (tw : Int64) (g : Nat → Nat) (s_ : Nat) (ow_ : Nat) (n : Nat) (ct : Int32) (st : Int32) (en : Int32) (gn : Int32) (ov : Int32) (bl : Bool) (cl : Bool) (sa : Nat → Option Nat) (hb16 : b ≤ 16) (hs : s_ < b) (hsa : sa s_ = some (g 0)) {H : Heap} {locs : List Loc} {ls : Array Slot} (C : Cx p s m args c cX3_overspent 3 RX3 D t x A) (ret : RtI p l e r_X3_overspent s m args below meth c Q D A cX3_overspent (Unit) (fun (_ : Unit) => True) (fun (_ : Unit) => some (.int ov)) (fun (_ : Unit) => [(T 0, .inr (3, tO T h (nI wk) (nI dy) (nI b) fl tw)), (T 2, .inl (t 4, 16, .inr (.inr (.inr (.inr sa))))), (g 0, .inr (2, sO g (nI s_) (nI ow_) (nI n) ct st en gn ov (bI bl) (bI cl)))]) 0 0) (hl : lv_has ls 3 [(0, .ref (T 0)), (1, .int (nI s_))]) (hP : va_P D vwCl [(T 0, .inr (3, tO T h (nI wk) (nI dy) (nI b) fl tw)), (T 2, .inl (t 4, 16, .inr (.inr (.inr (.inr sa))))), (g 0, .inr (2, sO g (nI s_) (nI ow_) (nI n) ct st en gn ov (bI bl) (bI cl)))] H) (hD : va_D A [(T 0, .inr (3, tO T h (nI wk) (nI dy) (nI b) fl tw)), (T 2, .inl (t 4, 16, .inr (.inr (.inr (.inr sa))))), (g 0, .inr (2, sO g (nI s_) (nI ow_) (nI n) ct st en gn ov (bI bl) (bI cl)))]) (hS : va_S A s.heap H locs) : W p l e r_X3_overspent s m args below meth c H locs 0 0 Q (F0 m 0 ls []) := by
  obtain ⟨hx, hcb, hml, hown, hts, hK, hA, hX, hN⟩ := id C
  refine lv_aload_n hx hcb dX3_overspent_0 rfl (lv_at hl 0 rfl) ?_
  refine lv_iload_n hx hcb dX3_overspent_1 rfl (lv_at hl 1 rfl) ?_
  refine ct_callV (As := [.int (nI s_)]) (rest := []) (wr := [(g 0, .inr (2, sO g (nI s_) (nI ow_) (nI n) ct st en gn ov (bI bl) (bI cl)))]) C (c_X3_scrollOf l D t x T h wk dy b fl tw s_ sa (g 0) (by omega) (by omega) hsa) (cwV 1 hts (gt_app (by simpa using ⟨wm_X3_97, wi_yX3_scrollOf, wv_X3_scrollOf, wz_X3⟩) (gt_code wc_X3_scrollOf)) rfl rfl rfl (by decide +kernel) ⟨Nat.le_of_ble_eq_true rfl, Nat.le_of_ble_eq_true rfl⟩) rfl rfl (q0 := 0) rfl hP hD hS [0, 1] [2] rfl (by decide) rfl (by decide) (by decide) rfl hl.1 rfl (Nat.le_of_ble_eq_true rfl) dX3_overspent_2 ⟨Nat.le_of_ble_eq_true rfl, Nat.le_of_ble_eq_true rfl⟩ (fun u H locs hw_1 hP hD hS => ?_)
  have hP : va_P D vwCl [(g 0, .inr (2, sO g (nI s_) (nI ow_) (nI n) ct st en gn ov (bI bl) (bI cl))), (T 0, .inr (3, tO T h (nI wk) (nI dy) (nI b) fl tw)), (T 2, .inl (t 4, 16, .inr (.inr (.inr (.inr sa)))))] H := hP
  have hD : va_D A [(g 0, .inr (2, sO g (nI s_) (nI ow_) (nI n) ct st en gn ov (bI bl) (bI cl))), (T 0, .inr (3, tO T h (nI wk) (nI dy) (nI b) fl tw)), (T 2, .inl (t 4, 16, .inr (.inr (.inr (.inr sa)))))] := hD
  refine W.eq (g2 := F0 m 5 ls [.ref (g 0)]) rfl ?_
  refine lv_astore_n (lv' := [(2, .ref (g 0)), (0, .ref (T 0)), (1, .int (nI s_))]) hx hcb dX3_overspent_5 rfl hl (by decide) rfl (fun ls hl => ?_)
  refine lv_aload_n hx hcb dX3_overspent_6 rfl (lv_at hl 0 rfl) ?_
  refine lv_ifnonnull (tgt := 14) hx hcb dX3_overspent_7 (by decide) ?_
  refine lv_aload_n hx hcb dX3_overspent_14 rfl (lv_at hl 0 rfl) ?_
  refine va_get (D := D) (ci := 2) (v := .int ov) (C := RX2) (T := TX2) (N := 14) hx hcb hts inX2 hown hK hP 0 rfl rfl 11 (by decide) (hts _ wf_X3_196) (fun _ h9 => h9) rfl dX3_overspent_15 ?_
  have hP9 := hP.sub (ws' := [(T 0, .inr (3, tO T h (nI wk) (nI dy) (nI b) fl tw)), (T 2, .inl (t 4, 16, .inr (.inr (.inr (.inr sa))))), (g 0, .inr (2, sO g (nI s_) (nI ow_) (nI n) ct st en gn ov (bI bl) (bI cl)))]) [1, 2, 0] rfl
  have hD9 := hD.sub (ws' := [(T 0, .inr (3, tO T h (nI wk) (nI dy) (nI b) fl tw)), (T 2, .inl (t 4, 16, .inr (.inr (.inr (.inr sa))))), (g 0, .inr (2, sO g (nI s_) (nI ow_) (nI n) ct st en gn ov (bI bl) (bI cl)))]) [1, 2, 0] (by decide) rfl
  exact ret () _ _ _ _ _ rfl dX3_overspent_18 trivial hP9 hD9 hS
end
set_option maxHeartbeats 1000000 in
set_option maxRecDepth 100000 in
/-- overspent(scroll), there -/
theorem c_X3_overspent (l : Launch) (D : va_G) (t : Nat → ClassId) (x : Nat → Nat) (T : Nat → Nat) (h : Nat → Nat) (wk : Nat) (dy : Nat) (b : Nat) (fl : Int64) (tw : Int64) (g : Nat → Nat) (s_ : Nat) (ow_ : Nat) (n : Nat) (ct : Int32) (st : Int32) (en : Int32) (gn : Int32) (ov : Int32) (bl : Bool) (cl : Bool) (sa : Nat → Option Nat) (hb16 : b ≤ 16) (hs : s_ < b) (hsa : sa s_ = some (g 0)) : Ct l D t x yX3_overspent wsX3_overspent r_X3_overspent [.ref (T 0), .int (nI s_)] [(T 0, .inr (3, tO T h (nI wk) (nI dy) (nI b) fl tw)), (T 2, .inl (t 4, 16, .inr (.inr (.inr (.inr sa))))), (g 0, .inr (2, sO g (nI s_) (nI ow_) (nI n) ct st en gn ov (bI bl) (bI cl)))] (Unit) (fun (_ : Unit) => True) (fun (_ : Unit) => some (.int ov)) (fun (_ : Unit) => [(T 0, .inr (3, tO T h (nI wk) (nI dy) (nI b) fl tw)), (T 2, .inl (t 4, 16, .inr (.inr (.inr (.inr sa))))), (g 0, .inr (2, sO g (nI s_) (nI ow_) (nI n) ct st en gn ov (bI bl) (bI cl)))]) 0 0 := ct_ofI (by decide) rfl (Nat.le_of_ble_eq_true rfl) rfl (fun p e s m below meth c A ls Q C ret hl hP hD hS => b_X3_overspent T h wk dy b fl tw g s_ ow_ n ct st en gn ov bl cl sa hb16 hs hsa C ret hl hP hD hS)
def r_X3_minutes : Room := { frames := 2, cells := 0, slots := 0, locals := 43 }
section
variable {p : Program} {l : Launch} {e : Env} {s : State} {m : MethodId} {args : Array Value} {below : List Frame} {meth : Method} {c : Code} {Q : State → Prop} {D : va_G} {t : Nat → ClassId} {x : Nat → Nat} {A : Nat → Prop}
set_option maxHeartbeats 1000000 in
set_option maxRecDepth 100000 in
theorem b_X3_minutes (T : Nat → Nat) (h : Nat → Nat) (wk : Nat) (dy : Nat) (b : Nat) (fl : Int64) (tw : Int64) (q : Nat → Nat) (mn : Nat) (ks_ : Nat) (lsn : Nat) (wr : Int32) (ma : Nat → Option Nat) (p1 : Int32) (mi : Nat → Int32) (hm : mn < 8) (hma : ma mn = some (q 0)) {H : Heap} {locs : List Loc} {ls : Array Slot} (C : Cx p s m args c cX3_minutes 4 RX3 D t x A) (ret : RtI p l e r_X3_minutes s m args below meth c Q D A cX3_minutes (Unit) (fun (_ : Unit) => True) (fun (_ : Unit) => some (.int (mn2 p1 mi))) (fun (_ : Unit) => [(T 0, .inr (3, tO T h (nI wk) (nI dy) (nI b) fl tw)), (T 3, .inl (t 5, 8, .inr (.inr (.inr (.inr ma))))), (q 0, .inr (1, eO q (nI mn) (nI ks_) (nI lsn) wr)), (q 7, .inl (t 1, 16, .inl mi))]) 0 0) (hl : lv_has ls 4 [(0, .ref (T 0)), (1, .int (nI mn)), (2, .int p1)]) (hP : va_P D vwCl [(T 0, .inr (3, tO T h (nI wk) (nI dy) (nI b) fl tw)), (T 3, .inl (t 5, 8, .inr (.inr (.inr (.inr ma))))), (q 0, .inr (1, eO q (nI mn) (nI ks_) (nI lsn) wr)), (q 7, .inl (t 1, 16, .inl mi))] H) (hD : va_D A [(T 0, .inr (3, tO T h (nI wk) (nI dy) (nI b) fl tw)), (T 3, .inl (t 5, 8, .inr (.inr (.inr (.inr ma))))), (q 0, .inr (1, eO q (nI mn) (nI ks_) (nI lsn) wr)), (q 7, .inl (t 1, 16, .inl mi))]) (hS : va_S A s.heap H locs) : W p l e r_X3_minutes s m args below meth c H locs 0 0 Q (F0 m 0 ls []) := by
  obtain ⟨hx, hcb, hml, hown, hts, hK, hA, hX, hN⟩ := id C
  refine lv_aload_n hx hcb dX3_minutes_0 rfl (lv_at hl 0 rfl) ?_
  refine lv_iload_n hx hcb dX3_minutes_1 rfl (lv_at hl 1 rfl) ?_
  refine ct_callV (As := [.int (nI mn)]) (rest := []) (wr := [(q 0, .inr (1, eO q (nI mn) (nI ks_) (nI lsn) wr)), (q 7, .inl (t 1, 16, .inl mi))]) C (c_X3_meterOf l D t x T h wk dy b fl tw mn ma (q 0) (by omega) hma) (cwV 1 hts (gt_app (by simpa using ⟨wm_X3_101, wi_yX3_meterOf, wv_X3_meterOf, wz_X3⟩) (gt_code wc_X3_meterOf)) rfl rfl rfl (by decide +kernel) ⟨Nat.le_of_ble_eq_true rfl, Nat.le_of_ble_eq_true rfl⟩) rfl rfl (q0 := 0) rfl hP hD hS [0, 1] [2, 3] rfl (by decide) rfl (by decide) (by decide) rfl hl.1 rfl (Nat.le_of_ble_eq_true rfl) dX3_minutes_2 ⟨Nat.le_of_ble_eq_true rfl, Nat.le_of_ble_eq_true rfl⟩ (fun u H locs hw_1 hP hD hS => ?_)
  have hP : va_P D vwCl [(q 0, .inr (1, eO q (nI mn) (nI ks_) (nI lsn) wr)), (q 7, .inl (t 1, 16, .inl mi)), (T 0, .inr (3, tO T h (nI wk) (nI dy) (nI b) fl tw)), (T 3, .inl (t 5, 8, .inr (.inr (.inr (.inr ma)))))] H := hP
  have hD : va_D A [(q 0, .inr (1, eO q (nI mn) (nI ks_) (nI lsn) wr)), (q 7, .inl (t 1, 16, .inl mi)), (T 0, .inr (3, tO T h (nI wk) (nI dy) (nI b) fl tw)), (T 3, .inl (t 5, 8, .inr (.inr (.inr (.inr ma)))))] := hD
  refine W.eq (g2 := F0 m 5 ls [.ref (q 0)]) rfl ?_
  refine lv_astore_n (lv' := [(3, .ref (q 0)), (0, .ref (T 0)), (1, .int (nI mn)), (2, .int p1)]) hx hcb dX3_minutes_5 rfl hl (by decide) rfl (fun ls hl => ?_)
  refine lv_aload_n hx hcb dX3_minutes_6 rfl (lv_at hl 0 rfl) ?_
  refine lv_ifnull hx hcb dX3_minutes_7 ?_
  refine lv_iload_n hx hcb dX3_minutes_10 rfl (lv_at hl 3 rfl) ?_
  refine ct_callS (as := [.int p1]) (rest := []) (wr := [(q 0, .inr (1, eO q (nI mn) (nI ks_) (nI lsn) wr)), (q 7, .inl (t 1, 16, .inl mi)), (T 0, .inr (3, tO T h (nI wk) (nI dy) (nI b) fl tw)), (T 3, .inl (t 5, 8, .inr (.inr (.inr (.inr ma)))))]) C (c_X3_isPlate l D t x p1 ) (va_cwS 1 hts (gt_app (by simpa using ⟨wm_X3_117, ws_yX3_isPlate, wz_X3⟩) (gt_code wc_X3_isPlate)) rfl rfl rfl (by decide +kernel) ⟨Nat.le_of_ble_eq_true rfl, Nat.le_of_ble_eq_true rfl⟩) hP hD hS [] [0, 1, 2, 3] rfl (by decide) rfl (by decide) (by decide) rfl hl.1 rfl (Nat.le_of_ble_eq_true rfl) dX3_minutes_11 ⟨Nat.le_of_ble_eq_true rfl, Nat.le_of_ble_eq_true rfl⟩ (fun u H locs hw_2 hP hD hS => ?_)
  have hP : va_P D vwCl [(q 0, .inr (1, eO q (nI mn) (nI ks_) (nI lsn) wr)), (q 7, .inl (t 1, 16, .inl mi)), (T 0, .inr (3, tO T h (nI wk) (nI dy) (nI b) fl tw)), (T 3, .inl (t 5, 8, .inr (.inr (.inr (.inr ma)))))] H := hP
  have hD : va_D A [(q 0, .inr (1, eO q (nI mn) (nI ks_) (nI lsn) wr)), (q 7, .inl (t 1, 16, .inl mi)), (T 0, .inr (3, tO T h (nI wk) (nI dy) (nI b) fl tw)), (T 3, .inl (t 5, 8, .inr (.inr (.inr (.inr ma)))))] := hD
  refine W.eq (g2 := F0 m 14 ls [.int (bI (wi p1 (nI 0) (nI 15)))]) rfl ?_
  refine q_bif_ne (tgt := 19) hx hcb dX3_minutes_14 (by decide) (fun c_3 => ?_) (fun c_3 => ?_)
  · have c9b := c_3
    obtain ⟨jj, -, hj2, rfl⟩ := wi_nat (by decide) (by decide) c_3
    have hc1 : cN (nI jj) = jj := cN_nI (by omega)
    refine lv_aload_n hx hcb dX3_minutes_19 rfl (lv_at hl 0 rfl) ?_
    refine va_get (D := D) (ci := 1) (v := .ref (q 7)) (C := RX1) (T := TX1) (N := 11) hx hcb hts inX1 hown hK hP 0 rfl rfl 9 (by decide) (hts _ wf_X3_199) (fun _ h9 => h9) rfl dX3_minutes_20 ?_
    refine lv_iload_n hx hcb dX3_minutes_23 rfl (lv_at hl 3 rfl) ?_
    refine q_iald (j := jj) hx hcb hK hP 1 1 rfl rfl (by omega) (by decide) dX3_minutes_24 ?_
    have hP9 := hP.sub (ws' := [(T 0, .inr (3, tO T h (nI wk) (nI dy) (nI b) fl tw)), (T 3, .inl (t 5, 8, .inr (.inr (.inr (.inr ma))))), (q 0, .inr (1, eO q (nI mn) (nI ks_) (nI lsn) wr)), (q 7, .inl (t 1, 16, .inl mi))]) [2, 3, 0, 1] rfl
    have hD9 := hD.sub (ws' := [(T 0, .inr (3, tO T h (nI wk) (nI dy) (nI b) fl tw)), (T 3, .inl (t 5, 8, .inr (.inr (.inr (.inr ma))))), (q 0, .inr (1, eO q (nI mn) (nI ks_) (nI lsn) wr)), (q 7, .inl (t 1, 16, .inl mi))]) [2, 3, 0, 1] (by decide) rfl
    exact ret () _ _ _ _ _ (by rw [mn2, hc1, if_pos c9b]) dX3_minutes_25 trivial hP9 hD9 hS
  · refine lv_iconst (v := (-1)) hx hcb dX3_minutes_17 (by decide) ?_
    have hP9 := hP.sub (ws' := [(T 0, .inr (3, tO T h (nI wk) (nI dy) (nI b) fl tw)), (T 3, .inl (t 5, 8, .inr (.inr (.inr (.inr ma))))), (q 0, .inr (1, eO q (nI mn) (nI ks_) (nI lsn) wr)), (q 7, .inl (t 1, 16, .inl mi))]) [2, 3, 0, 1] rfl
    have hD9 := hD.sub (ws' := [(T 0, .inr (3, tO T h (nI wk) (nI dy) (nI b) fl tw)), (T 3, .inl (t 5, 8, .inr (.inr (.inr (.inr ma))))), (q 0, .inr (1, eO q (nI mn) (nI ks_) (nI lsn) wr)), (q 7, .inl (t 1, 16, .inl mi))]) [2, 3, 0, 1] (by decide) rfl
    exact ret () _ _ _ _ _ (by rw [mn2, if_neg (by rw [c_3]; decide)]) dX3_minutes_18 trivial hP9 hD9 hS
end
set_option maxHeartbeats 1000000 in
set_option maxRecDepth 100000 in
/-- minutes(meter, plate), there -/
theorem c_X3_minutes (l : Launch) (D : va_G) (t : Nat → ClassId) (x : Nat → Nat) (T : Nat → Nat) (h : Nat → Nat) (wk : Nat) (dy : Nat) (b : Nat) (fl : Int64) (tw : Int64) (q : Nat → Nat) (mn : Nat) (ks_ : Nat) (lsn : Nat) (wr : Int32) (ma : Nat → Option Nat) (p1 : Int32) (mi : Nat → Int32) (hm : mn < 8) (hma : ma mn = some (q 0)) : Ct l D t x yX3_minutes wsX3_minutes r_X3_minutes [.ref (T 0), .int (nI mn), .int p1] [(T 0, .inr (3, tO T h (nI wk) (nI dy) (nI b) fl tw)), (T 3, .inl (t 5, 8, .inr (.inr (.inr (.inr ma))))), (q 0, .inr (1, eO q (nI mn) (nI ks_) (nI lsn) wr)), (q 7, .inl (t 1, 16, .inl mi))] (Unit) (fun (_ : Unit) => True) (fun (_ : Unit) => some (.int (mn2 p1 mi))) (fun (_ : Unit) => [(T 0, .inr (3, tO T h (nI wk) (nI dy) (nI b) fl tw)), (T 3, .inl (t 5, 8, .inr (.inr (.inr (.inr ma))))), (q 0, .inr (1, eO q (nI mn) (nI ks_) (nI lsn) wr)), (q 7, .inl (t 1, 16, .inl mi))]) 0 0 := ct_ofI (by decide) rfl (Nat.le_of_ble_eq_true rfl) rfl (fun p e s m below meth c A ls Q C ret hl hP hD hS => b_X3_minutes T h wk dy b fl tw q mn ks_ lsn wr ma p1 mi hm hma C ret hl hP hD hS)
def r_X3_insertN : Room := { frames := 2, cells := 0, slots := 0, locals := 43 }
section
variable {p : Program} {l : Launch} {e : Env} {s : State} {m : MethodId} {args : Array Value} {below : List Frame} {meth : Method} {c : Code} {Q : State → Prop} {D : va_G} {t : Nat → ClassId} {x : Nat → Nat} {A : Nat → Prop}
set_option maxHeartbeats 1000000 in
set_option maxRecDepth 100000 in
theorem b_X3_insertN (T : Nat → Nat) (h : Nat → Nat) (wk : Nat) (dy : Nat) (b : Nat) (fl : Int64) (tw : Int64) (p0 : Int32) (p1 : Int32) (sa : Nat → Option Nat) (sg : Nat → Nat → Nat) (ma : Nat → Option Nat) (mq : Nat → Nat → Nat) (hb16 : b ≤ 16) (hsa9 : ∀ j, j < b → sa j = some (sg j 0)) (hma9 : ∀ j, j < 8 → ma j = some (mq j 0)) (hbad : (wi p0 (nI 0) (nI b - nI 1) && wi p1 (nI 0) (nI 7)) = false) {H : Heap} {locs : List Loc} {ls : Array Slot} (C : Cx p s m args c cX3_insert 6 RX3 D t x A) (ret : RtI p l e r_X3_insertN s m args below meth c Q D A cX3_insert (Unit) (fun (_ : Unit) => True) (fun (_ : Unit) => some (.int (-1))) (fun (_ : Unit) => [(T 0, .inr (3, tO T h (nI wk) (nI dy) (nI b) fl tw)), (T 2, .inl (t 4, 16, .inr (.inr (.inr (.inr sa))))), (T 3, .inl (t 5, 8, .inr (.inr (.inr (.inr ma)))))]) 0 0) (hl : lv_has ls 6 [(0, .ref (T 0)), (1, .int p0), (2, .int p1)]) (hP : va_P D vwCl [(T 0, .inr (3, tO T h (nI wk) (nI dy) (nI b) fl tw)), (T 2, .inl (t 4, 16, .inr (.inr (.inr (.inr sa))))), (T 3, .inl (t 5, 8, .inr (.inr (.inr (.inr ma)))))] H) (hD : va_D A [(T 0, .inr (3, tO T h (nI wk) (nI dy) (nI b) fl tw)), (T 2, .inl (t 4, 16, .inr (.inr (.inr (.inr sa))))), (T 3, .inl (t 5, 8, .inr (.inr (.inr (.inr ma)))))]) (hS : va_S A s.heap H locs) : W p l e r_X3_insertN s m args below meth c H locs 0 0 Q (F0 m 0 ls []) := by
  obtain ⟨hx, hcb, hml, hown, hts, hK, hA, hX, hN⟩ := id C
  rcases Bool.eq_false_or_eq_true (wi p0 (nI 0) (nI b - nI 1)) with c_1 | c_1
  · skip
    obtain ⟨sc, hsc, rfl⟩ := wi_b hb16 c_1
    refine lv_aload_n hx hcb dX3_insert_0 rfl (lv_at hl 0 rfl) ?_
    refine lv_iload_n hx hcb dX3_insert_1 rfl (lv_at hl 1 rfl) ?_
    refine ct_callV (As := [.int (nI sc)]) (rest := []) (wr := [(T 3, .inl (t 5, 8, .inr (.inr (.inr (.inr ma)))))]) C (c_X3_scrollOf l D t x T h wk dy b fl tw sc sa (sg sc 0) (by omega) (by omega) (hsa9 sc hsc)) (cwV 1 hts (gt_app (by simpa using ⟨wm_X3_97, wi_yX3_scrollOf, wv_X3_scrollOf, wz_X3⟩) (gt_code wc_X3_scrollOf)) rfl rfl rfl (by decide +kernel) ⟨Nat.le_of_ble_eq_true rfl, Nat.le_of_ble_eq_true rfl⟩) rfl rfl (q0 := 0) rfl hP hD hS [0, 1] [2] rfl (by decide) rfl (by decide) (by decide) rfl hl.1 rfl (Nat.le_of_ble_eq_true rfl) dX3_insert_2 ⟨Nat.le_of_ble_eq_true rfl, Nat.le_of_ble_eq_true rfl⟩ (fun u H locs hw_2 hP hD hS => ?_)
    have hP : va_P D vwCl [(T 3, .inl (t 5, 8, .inr (.inr (.inr (.inr ma))))), (T 0, .inr (3, tO T h (nI wk) (nI dy) (nI b) fl tw)), (T 2, .inl (t 4, 16, .inr (.inr (.inr (.inr sa)))))] H := hP
    have hD : va_D A [(T 3, .inl (t 5, 8, .inr (.inr (.inr (.inr ma))))), (T 0, .inr (3, tO T h (nI wk) (nI dy) (nI b) fl tw)), (T 2, .inl (t 4, 16, .inr (.inr (.inr (.inr sa)))))] := hD
    refine W.eq (g2 := F0 m 5 ls [.ref (sg sc 0)]) rfl ?_
    refine lv_astore_n (lv' := [(3, .ref (sg sc 0)), (0, .ref (T 0)), (1, .int (nI sc)), (2, .int p1)]) hx hcb dX3_insert_5 rfl hl (by decide) rfl (fun ls hl => ?_)
    rcases Bool.eq_false_or_eq_true (wi p1 (nI 0) (nI 7)) with c_3 | c_3
    · skip
      obtain ⟨mt, -, hmt, rfl⟩ := wi_nat (by decide) (by decide) c_3
      refine lv_aload_n hx hcb dX3_insert_6 rfl (lv_at hl 1 rfl) ?_
      refine lv_iload_n hx hcb dX3_insert_7 rfl (lv_at hl 3 rfl) ?_
      refine ct_callV (As := [.int (nI mt)]) (rest := []) (wr := [(T 2, .inl (t 4, 16, .inr (.inr (.inr (.inr sa)))))]) C (c_X3_meterOf l D t x T h wk dy b fl tw mt ma (mq mt 0) (by omega) (hma9 mt (by omega))) (cwV 1 hts (gt_app (by simpa using ⟨wm_X3_101, wi_yX3_meterOf, wv_X3_meterOf, wz_X3⟩) (gt_code wc_X3_meterOf)) rfl rfl rfl (by decide +kernel) ⟨Nat.le_of_ble_eq_true rfl, Nat.le_of_ble_eq_true rfl⟩) rfl rfl (q0 := 1) rfl hP hD hS [1, 0] [2] rfl (by decide) rfl (by decide) (by decide) rfl hl.1 rfl (Nat.le_of_ble_eq_true rfl) dX3_insert_8 ⟨Nat.le_of_ble_eq_true rfl, Nat.le_of_ble_eq_true rfl⟩ (fun u H locs hw_4 hP hD hS => ?_)
      have hP : va_P D vwCl [(T 2, .inl (t 4, 16, .inr (.inr (.inr (.inr sa))))), (T 0, .inr (3, tO T h (nI wk) (nI dy) (nI b) fl tw)), (T 3, .inl (t 5, 8, .inr (.inr (.inr (.inr ma)))))] H := hP
      have hD : va_D A [(T 2, .inl (t 4, 16, .inr (.inr (.inr (.inr sa))))), (T 0, .inr (3, tO T h (nI wk) (nI dy) (nI b) fl tw)), (T 3, .inl (t 5, 8, .inr (.inr (.inr (.inr ma)))))] := hD
      refine W.eq (g2 := F0 m 11 ls [.ref (mq mt 0)]) rfl ?_
      refine lv_astore (lv' := [(4, .ref (mq mt 0)), (3, .ref (sg sc 0)), (0, .ref (T 0)), (1, .int (nI sc)), (2, .int (nI mt))]) hx hcb dX3_insert_11 hl (by decide) rfl (fun ls hl => ?_)
      refine lv_aload_n hx hcb dX3_insert_13 rfl (lv_at hl 1 rfl) ?_
      refine lv_ifnull hx hcb dX3_insert_14 ?_
      refine lv_aload hx hcb dX3_insert_17 (lv_at hl 0 rfl) ?_
      refine lv_ifnonnull (tgt := 24) hx hcb dX3_insert_19 (by decide) ?_
      simp [c_1, c_3] at hbad
    · skip
      refine lv_aload_n hx hcb dX3_insert_6 rfl (lv_at hl 1 rfl) ?_
      refine lv_iload_n hx hcb dX3_insert_7 rfl (lv_at hl 3 rfl) ?_
      refine ct_callV (As := [.int p1]) (rest := []) (wr := [(T 3, .inl (t 5, 8, .inr (.inr (.inr (.inr ma))))), (T 2, .inl (t 4, 16, .inr (.inr (.inr (.inr sa)))))]) C (c_X3_meterOfN l D t x T h wk dy b fl tw p1 c_3) (cwV 1 hts (gt_app (by simpa using ⟨wm_X3_101, wi_yX3_meterOf, wv_X3_meterOf, wz_X3⟩) (gt_code wc_X3_meterOf)) rfl rfl rfl (by decide +kernel) ⟨Nat.le_of_ble_eq_true rfl, Nat.le_of_ble_eq_true rfl⟩) rfl rfl (q0 := 1) rfl hP hD hS [1] [0, 2] rfl (by decide) rfl (by decide) (by decide) rfl hl.1 rfl (Nat.le_of_ble_eq_true rfl) dX3_insert_8 ⟨Nat.le_of_ble_eq_true rfl, Nat.le_of_ble_eq_true rfl⟩ (fun u H locs hw_5 hP hD hS => ?_)
      have hP : va_P D vwCl [(T 3, .inl (t 5, 8, .inr (.inr (.inr (.inr ma))))), (T 2, .inl (t 4, 16, .inr (.inr (.inr (.inr sa))))), (T 0, .inr (3, tO T h (nI wk) (nI dy) (nI b) fl tw))] H := hP
      have hD : va_D A [(T 3, .inl (t 5, 8, .inr (.inr (.inr (.inr ma))))), (T 2, .inl (t 4, 16, .inr (.inr (.inr (.inr sa))))), (T 0, .inr (3, tO T h (nI wk) (nI dy) (nI b) fl tw))] := hD
      refine W.eq (g2 := F0 m 11 ls [.null]) rfl ?_
      refine lv_astoreN (lv' := [(4, .null), (3, .ref (sg sc 0)), (0, .ref (T 0)), (1, .int (nI sc)), (2, .int p1)]) hx hcb dX3_insert_11 hl (by decide) rfl (fun ls hl => ?_)
      refine lv_aload_n hx hcb dX3_insert_13 rfl (lv_at hl 1 rfl) ?_
      refine lv_ifnull hx hcb dX3_insert_14 ?_
      refine lv_aloadN hx hcb dX3_insert_17 (lv_at hl 0 rfl) ?_
      refine lv_ifnonnullN hx hcb dX3_insert_19 ?_
      refine lv_iconst (v := (-1)) hx hcb dX3_insert_22 (by decide) ?_
      have hP9 := hP.sub (ws' := [(T 0, .inr (3, tO T h (nI wk) (nI dy) (nI b) fl tw)), (T 2, .inl (t 4, 16, .inr (.inr (.inr (.inr sa))))), (T 3, .inl (t 5, 8, .inr (.inr (.inr (.inr ma)))))]) [2, 1, 0] rfl
      have hD9 := hD.sub (ws' := [(T 0, .inr (3, tO T h (nI wk) (nI dy) (nI b) fl tw)), (T 2, .inl (t 4, 16, .inr (.inr (.inr (.inr sa))))), (T 3, .inl (t 5, 8, .inr (.inr (.inr (.inr ma)))))]) [2, 1, 0] (by decide) rfl
      exact ret () _ _ _ _ _ rfl dX3_insert_23 trivial hP9 hD9 hS
  · skip
    refine lv_aload_n hx hcb dX3_insert_0 rfl (lv_at hl 0 rfl) ?_
    refine lv_iload_n hx hcb dX3_insert_1 rfl (lv_at hl 1 rfl) ?_
    refine ct_callV (As := [.int p0]) (rest := []) (wr := [(T 2, .inl (t 4, 16, .inr (.inr (.inr (.inr sa))))), (T 3, .inl (t 5, 8, .inr (.inr (.inr (.inr ma)))))]) C (c_X3_scrollOfN l D t x T h wk dy b fl tw p0 c_1) (cwV 1 hts (gt_app (by simpa using ⟨wm_X3_97, wi_yX3_scrollOf, wv_X3_scrollOf, wz_X3⟩) (gt_code wc_X3_scrollOf)) rfl rfl rfl (by decide +kernel) ⟨Nat.le_of_ble_eq_true rfl, Nat.le_of_ble_eq_true rfl⟩) rfl rfl (q0 := 0) rfl hP hD hS [0] [1, 2] rfl (by decide) rfl (by decide) (by decide) rfl hl.1 rfl (Nat.le_of_ble_eq_true rfl) dX3_insert_2 ⟨Nat.le_of_ble_eq_true rfl, Nat.le_of_ble_eq_true rfl⟩ (fun u H locs hw_6 hP hD hS => ?_)
    have hP : va_P D vwCl [(T 2, .inl (t 4, 16, .inr (.inr (.inr (.inr sa))))), (T 3, .inl (t 5, 8, .inr (.inr (.inr (.inr ma))))), (T 0, .inr (3, tO T h (nI wk) (nI dy) (nI b) fl tw))] H := hP
    have hD : va_D A [(T 2, .inl (t 4, 16, .inr (.inr (.inr (.inr sa))))), (T 3, .inl (t 5, 8, .inr (.inr (.inr (.inr ma))))), (T 0, .inr (3, tO T h (nI wk) (nI dy) (nI b) fl tw))] := hD
    refine W.eq (g2 := F0 m 5 ls [.null]) rfl ?_
    refine lv_astore_nN (lv' := [(3, .null), (0, .ref (T 0)), (1, .int p0), (2, .int p1)]) hx hcb dX3_insert_5 rfl hl (by decide) rfl (fun ls hl => ?_)
    rcases Bool.eq_false_or_eq_true (wi p1 (nI 0) (nI 7)) with c_7 | c_7
    · skip
      obtain ⟨mt, -, hmt, rfl⟩ := wi_nat (by decide) (by decide) c_7
      refine lv_aload_n hx hcb dX3_insert_6 rfl (lv_at hl 1 rfl) ?_
      refine lv_iload_n hx hcb dX3_insert_7 rfl (lv_at hl 3 rfl) ?_
      refine ct_callV (As := [.int (nI mt)]) (rest := []) (wr := [(T 2, .inl (t 4, 16, .inr (.inr (.inr (.inr sa)))))]) C (c_X3_meterOf l D t x T h wk dy b fl tw mt ma (mq mt 0) (by omega) (hma9 mt (by omega))) (cwV 1 hts (gt_app (by simpa using ⟨wm_X3_101, wi_yX3_meterOf, wv_X3_meterOf, wz_X3⟩) (gt_code wc_X3_meterOf)) rfl rfl rfl (by decide +kernel) ⟨Nat.le_of_ble_eq_true rfl, Nat.le_of_ble_eq_true rfl⟩) rfl rfl (q0 := 2) rfl hP hD hS [2, 1] [0] rfl (by decide) rfl (by decide) (by decide) rfl hl.1 rfl (Nat.le_of_ble_eq_true rfl) dX3_insert_8 ⟨Nat.le_of_ble_eq_true rfl, Nat.le_of_ble_eq_true rfl⟩ (fun u H locs hw_8 hP hD hS => ?_)
      have hP : va_P D vwCl [(T 2, .inl (t 4, 16, .inr (.inr (.inr (.inr sa))))), (T 0, .inr (3, tO T h (nI wk) (nI dy) (nI b) fl tw)), (T 3, .inl (t 5, 8, .inr (.inr (.inr (.inr ma)))))] H := hP
      have hD : va_D A [(T 2, .inl (t 4, 16, .inr (.inr (.inr (.inr sa))))), (T 0, .inr (3, tO T h (nI wk) (nI dy) (nI b) fl tw)), (T 3, .inl (t 5, 8, .inr (.inr (.inr (.inr ma)))))] := hD
      refine W.eq (g2 := F0 m 11 ls [.ref (mq mt 0)]) rfl ?_
      refine lv_astore (lv' := [(4, .ref (mq mt 0)), (3, .null), (0, .ref (T 0)), (1, .int p0), (2, .int (nI mt))]) hx hcb dX3_insert_11 hl (by decide) rfl (fun ls hl => ?_)
      refine lv_aload_nN hx hcb dX3_insert_13 rfl (lv_at hl 1 rfl) ?_
      refine lv_ifnullN (tgt := 22) hx hcb dX3_insert_14 (by decide) ?_
      refine lv_iconst (v := (-1)) hx hcb dX3_insert_22 (by decide) ?_
      have hP9 := hP.sub (ws' := [(T 0, .inr (3, tO T h (nI wk) (nI dy) (nI b) fl tw)), (T 2, .inl (t 4, 16, .inr (.inr (.inr (.inr sa))))), (T 3, .inl (t 5, 8, .inr (.inr (.inr (.inr ma)))))]) [1, 0, 2] rfl
      have hD9 := hD.sub (ws' := [(T 0, .inr (3, tO T h (nI wk) (nI dy) (nI b) fl tw)), (T 2, .inl (t 4, 16, .inr (.inr (.inr (.inr sa))))), (T 3, .inl (t 5, 8, .inr (.inr (.inr (.inr ma)))))]) [1, 0, 2] (by decide) rfl
      exact ret () _ _ _ _ _ rfl dX3_insert_23 trivial hP9 hD9 hS
    · skip
      refine lv_aload_n hx hcb dX3_insert_6 rfl (lv_at hl 1 rfl) ?_
      refine lv_iload_n hx hcb dX3_insert_7 rfl (lv_at hl 3 rfl) ?_
      refine ct_callV (As := [.int p1]) (rest := []) (wr := [(T 2, .inl (t 4, 16, .inr (.inr (.inr (.inr sa))))), (T 3, .inl (t 5, 8, .inr (.inr (.inr (.inr ma)))))]) C (c_X3_meterOfN l D t x T h wk dy b fl tw p1 c_7) (cwV 1 hts (gt_app (by simpa using ⟨wm_X3_101, wi_yX3_meterOf, wv_X3_meterOf, wz_X3⟩) (gt_code wc_X3_meterOf)) rfl rfl rfl (by decide +kernel) ⟨Nat.le_of_ble_eq_true rfl, Nat.le_of_ble_eq_true rfl⟩) rfl rfl (q0 := 2) rfl hP hD hS [2] [0, 1] rfl (by decide) rfl (by decide) (by decide) rfl hl.1 rfl (Nat.le_of_ble_eq_true rfl) dX3_insert_8 ⟨Nat.le_of_ble_eq_true rfl, Nat.le_of_ble_eq_true rfl⟩ (fun u H locs hw_9 hP hD hS => ?_)
      have hP : va_P D vwCl [(T 2, .inl (t 4, 16, .inr (.inr (.inr (.inr sa))))), (T 3, .inl (t 5, 8, .inr (.inr (.inr (.inr ma))))), (T 0, .inr (3, tO T h (nI wk) (nI dy) (nI b) fl tw))] H := hP
      have hD : va_D A [(T 2, .inl (t 4, 16, .inr (.inr (.inr (.inr sa))))), (T 3, .inl (t 5, 8, .inr (.inr (.inr (.inr ma))))), (T 0, .inr (3, tO T h (nI wk) (nI dy) (nI b) fl tw))] := hD
      refine W.eq (g2 := F0 m 11 ls [.null]) rfl ?_
      refine lv_astoreN (lv' := [(4, .null), (3, .null), (0, .ref (T 0)), (1, .int p0), (2, .int p1)]) hx hcb dX3_insert_11 hl (by decide) rfl (fun ls hl => ?_)
      refine lv_aload_nN hx hcb dX3_insert_13 rfl (lv_at hl 1 rfl) ?_
      refine lv_ifnullN (tgt := 22) hx hcb dX3_insert_14 (by decide) ?_
      refine lv_iconst (v := (-1)) hx hcb dX3_insert_22 (by decide) ?_
      have hP9 := hP.sub (ws' := [(T 0, .inr (3, tO T h (nI wk) (nI dy) (nI b) fl tw)), (T 2, .inl (t 4, 16, .inr (.inr (.inr (.inr sa))))), (T 3, .inl (t 5, 8, .inr (.inr (.inr (.inr ma)))))]) [2, 0, 1] rfl
      have hD9 := hD.sub (ws' := [(T 0, .inr (3, tO T h (nI wk) (nI dy) (nI b) fl tw)), (T 2, .inl (t 4, 16, .inr (.inr (.inr (.inr sa))))), (T 3, .inl (t 5, 8, .inr (.inr (.inr (.inr ma)))))]) [2, 0, 1] (by decide) rfl
      exact ret () _ _ _ _ _ rfl dX3_insert_23 trivial hP9 hD9 hS
end
set_option maxHeartbeats 1000000 in
set_option maxRecDepth 100000 in
/-- insert(..), refused -/
theorem c_X3_insertN (l : Launch) (D : va_G) (t : Nat → ClassId) (x : Nat → Nat) (T : Nat → Nat) (h : Nat → Nat) (wk : Nat) (dy : Nat) (b : Nat) (fl : Int64) (tw : Int64) (p0 : Int32) (p1 : Int32) (sa : Nat → Option Nat) (sg : Nat → Nat → Nat) (ma : Nat → Option Nat) (mq : Nat → Nat → Nat) (hb16 : b ≤ 16) (hsa9 : ∀ j, j < b → sa j = some (sg j 0)) (hma9 : ∀ j, j < 8 → ma j = some (mq j 0)) (hbad : (wi p0 (nI 0) (nI b - nI 1) && wi p1 (nI 0) (nI 7)) = false) : Ct l D t x yX3_insert wsX3_insert r_X3_insertN [.ref (T 0), .int p0, .int p1] [(T 0, .inr (3, tO T h (nI wk) (nI dy) (nI b) fl tw)), (T 2, .inl (t 4, 16, .inr (.inr (.inr (.inr sa))))), (T 3, .inl (t 5, 8, .inr (.inr (.inr (.inr ma)))))] (Unit) (fun (_ : Unit) => True) (fun (_ : Unit) => some (.int (-1))) (fun (_ : Unit) => [(T 0, .inr (3, tO T h (nI wk) (nI dy) (nI b) fl tw)), (T 2, .inl (t 4, 16, .inr (.inr (.inr (.inr sa))))), (T 3, .inl (t 5, 8, .inr (.inr (.inr (.inr ma)))))]) 0 0 := ct_ofI (by decide) rfl (Nat.le_of_ble_eq_true rfl) rfl (fun p e s m below meth c A ls Q C ret hl hP hD hS => b_X3_insertN T h wk dy b fl tw p0 p1 sa sg ma mq hb16 hsa9 hma9 hbad C ret hl hP hD hS)
def r_X3_payN : Room := { frames := 2, cells := 0, slots := 0, locals := 43 }
section
variable {p : Program} {l : Launch} {e : Env} {s : State} {m : MethodId} {args : Array Value} {below : List Frame} {meth : Method} {c : Code} {Q : State → Prop} {D : va_G} {t : Nat → ClassId} {x : Nat → Nat} {A : Nat → Prop}
set_option maxHeartbeats 1000000 in
set_option maxRecDepth 100000 in
theorem b_X3_payN (T : Nat → Nat) (h : Nat → Nat) (wk : Nat) (dy : Nat) (b : Nat) (fl : Int64) (tw : Int64) (p0 : Int32) (p1 : Int32) (p2 : Int32) (p3 : Int32) (sa : Nat → Option Nat) (sg : Nat → Nat → Nat) (ma : Nat → Option Nat) (mq : Nat → Nat → Nat) (hb16 : b ≤ 16) (hsa9 : ∀ j, j < b → sa j = some (sg j 0)) (hma9 : ∀ j, j < 8 → ma j = some (mq j 0)) (hbad : okp p0 p1 p2 p3 b = false) {H : Heap} {locs : List Loc} {ls : Array Slot} (C : Cx p s m args c cX3_pay 8 RX3 D t x A) (ret : RtI p l e r_X3_payN s m args below meth c Q D A cX3_pay (Unit) (fun (_ : Unit) => True) (fun (_ : Unit) => some (.int (-1))) (fun (_ : Unit) => [(T 0, .inr (3, tO T h (nI wk) (nI dy) (nI b) fl tw)), (T 2, .inl (t 4, 16, .inr (.inr (.inr (.inr sa))))), (T 3, .inl (t 5, 8, .inr (.inr (.inr (.inr ma)))))]) 0 0) (hl : lv_has ls 8 [(0, .ref (T 0)), (1, .int p0), (2, .int p1), (3, .int p2), (4, .int p3)]) (hP : va_P D vwCl [(T 0, .inr (3, tO T h (nI wk) (nI dy) (nI b) fl tw)), (T 2, .inl (t 4, 16, .inr (.inr (.inr (.inr sa))))), (T 3, .inl (t 5, 8, .inr (.inr (.inr (.inr ma)))))] H) (hD : va_D A [(T 0, .inr (3, tO T h (nI wk) (nI dy) (nI b) fl tw)), (T 2, .inl (t 4, 16, .inr (.inr (.inr (.inr sa))))), (T 3, .inl (t 5, 8, .inr (.inr (.inr (.inr ma)))))]) (hS : va_S A s.heap H locs) : W p l e r_X3_payN s m args below meth c H locs 0 0 Q (F0 m 0 ls []) := by
  obtain ⟨hx, hcb, hml, hown, hts, hK, hA, hX, hN⟩ := id C
  rcases Bool.eq_false_or_eq_true (wi p0 (nI 0) (nI b - nI 1)) with c_1 | c_1
  · skip
    obtain ⟨sc, hsc, rfl⟩ := wi_b hb16 c_1
    refine lv_aload_n hx hcb dX3_pay_0 rfl (lv_at hl 0 rfl) ?_
    refine lv_iload_n hx hcb dX3_pay_1 rfl (lv_at hl 1 rfl) ?_
    refine ct_callV (As := [.int (nI sc)]) (rest := []) (wr := [(T 3, .inl (t 5, 8, .inr (.inr (.inr (.inr ma)))))]) C (c_X3_scrollOf l D t x T h wk dy b fl tw sc sa (sg sc 0) (by omega) (by omega) (hsa9 sc hsc)) (cwV 1 hts (gt_app (by simpa using ⟨wm_X3_97, wi_yX3_scrollOf, wv_X3_scrollOf, wz_X3⟩) (gt_code wc_X3_scrollOf)) rfl rfl rfl (by decide +kernel) ⟨Nat.le_of_ble_eq_true rfl, Nat.le_of_ble_eq_true rfl⟩) rfl rfl (q0 := 0) rfl hP hD hS [0, 1] [2] rfl (by decide) rfl (by decide) (by decide) rfl hl.1 rfl (Nat.le_of_ble_eq_true rfl) dX3_pay_2 ⟨Nat.le_of_ble_eq_true rfl, Nat.le_of_ble_eq_true rfl⟩ (fun u H locs hw_2 hP hD hS => ?_)
    have hP : va_P D vwCl [(T 3, .inl (t 5, 8, .inr (.inr (.inr (.inr ma))))), (T 0, .inr (3, tO T h (nI wk) (nI dy) (nI b) fl tw)), (T 2, .inl (t 4, 16, .inr (.inr (.inr (.inr sa)))))] H := hP
    have hD : va_D A [(T 3, .inl (t 5, 8, .inr (.inr (.inr (.inr ma))))), (T 0, .inr (3, tO T h (nI wk) (nI dy) (nI b) fl tw)), (T 2, .inl (t 4, 16, .inr (.inr (.inr (.inr sa)))))] := hD
    refine W.eq (g2 := F0 m 5 ls [.ref (sg sc 0)]) rfl ?_
    refine lv_astore (lv' := [(5, .ref (sg sc 0)), (0, .ref (T 0)), (1, .int (nI sc)), (2, .int p1), (3, .int p2), (4, .int p3)]) hx hcb dX3_pay_5 hl (by decide) rfl (fun ls hl => ?_)
    rcases Bool.eq_false_or_eq_true (wi p1 (nI 0) (nI 7)) with c_3 | c_3
    · skip
      obtain ⟨mt, -, hmt, rfl⟩ := wi_nat (by decide) (by decide) c_3
      refine lv_aload_n hx hcb dX3_pay_7 rfl (lv_at hl 1 rfl) ?_
      refine lv_iload_n hx hcb dX3_pay_8 rfl (lv_at hl 3 rfl) ?_
      refine ct_callV (As := [.int (nI mt)]) (rest := []) (wr := [(T 2, .inl (t 4, 16, .inr (.inr (.inr (.inr sa)))))]) C (c_X3_meterOf l D t x T h wk dy b fl tw mt ma (mq mt 0) (by omega) (hma9 mt (by omega))) (cwV 1 hts (gt_app (by simpa using ⟨wm_X3_101, wi_yX3_meterOf, wv_X3_meterOf, wz_X3⟩) (gt_code wc_X3_meterOf)) rfl rfl rfl (by decide +kernel) ⟨Nat.le_of_ble_eq_true rfl, Nat.le_of_ble_eq_true rfl⟩) rfl rfl (q0 := 1) rfl hP hD hS [1, 0] [2] rfl (by decide) rfl (by decide) (by decide) rfl hl.1 rfl (Nat.le_of_ble_eq_true rfl) dX3_pay_9 ⟨Nat.le_of_ble_eq_true rfl, Nat.le_of_ble_eq_true rfl⟩ (fun u H locs hw_4 hP hD hS => ?_)
      have hP : va_P D vwCl [(T 2, .inl (t 4, 16, .inr (.inr (.inr (.inr sa))))), (T 0, .inr (3, tO T h (nI wk) (nI dy) (nI b) fl tw)), (T 3, .inl (t 5, 8, .inr (.inr (.inr (.inr ma)))))] H := hP
      have hD : va_D A [(T 2, .inl (t 4, 16, .inr (.inr (.inr (.inr sa))))), (T 0, .inr (3, tO T h (nI wk) (nI dy) (nI b) fl tw)), (T 3, .inl (t 5, 8, .inr (.inr (.inr (.inr ma)))))] := hD
      refine W.eq (g2 := F0 m 12 ls [.ref (mq mt 0)]) rfl ?_
      refine lv_astore (lv' := [(6, .ref (mq mt 0)), (5, .ref (sg sc 0)), (0, .ref (T 0)), (1, .int (nI sc)), (2, .int (nI mt)), (3, .int p2), (4, .int p3)]) hx hcb dX3_pay_12 hl (by decide) rfl (fun ls hl => ?_)
      refine lv_aload hx hcb dX3_pay_14 (lv_at hl 1 rfl) ?_
      refine lv_ifnull hx hcb dX3_pay_16 ?_
      refine lv_aload hx hcb dX3_pay_19 (lv_at hl 0 rfl) ?_
      refine lv_ifnull hx hcb dX3_pay_21 ?_
      refine lv_iload hx hcb dX3_pay_24 (lv_at hl 6 rfl) ?_
      refine ct_callS (as := [.int p3]) (rest := []) (wr := [(T 2, .inl (t 4, 16, .inr (.inr (.inr (.inr sa))))), (T 0, .inr (3, tO T h (nI wk) (nI dy) (nI b) fl tw)), (T 3, .inl (t 5, 8, .inr (.inr (.inr (.inr ma)))))]) C (c_X3_isPlate l D t x p3 ) (va_cwS 1 hts (gt_app (by simpa using ⟨wm_X3_117, ws_yX3_isPlate, wz_X3⟩) (gt_code wc_X3_isPlate)) rfl rfl rfl (by decide +kernel) ⟨Nat.le_of_ble_eq_true rfl, Nat.le_of_ble_eq_true rfl⟩) hP hD hS [] [0, 1, 2] rfl (by decide) rfl (by decide) (by decide) rfl hl.1 rfl (Nat.le_of_ble_eq_true rfl) dX3_pay_26 ⟨Nat.le_of_ble_eq_true rfl, Nat.le_of_ble_eq_true rfl⟩ (fun u H locs hw_5 hP hD hS => ?_)
      have hP : va_P D vwCl [(T 2, .inl (t 4, 16, .inr (.inr (.inr (.inr sa))))), (T 0, .inr (3, tO T h (nI wk) (nI dy) (nI b) fl tw)), (T 3, .inl (t 5, 8, .inr (.inr (.inr (.inr ma)))))] H := hP
      have hD : va_D A [(T 2, .inl (t 4, 16, .inr (.inr (.inr (.inr sa))))), (T 0, .inr (3, tO T h (nI wk) (nI dy) (nI b) fl tw)), (T 3, .inl (t 5, 8, .inr (.inr (.inr (.inr ma)))))] := hD
      refine W.eq (g2 := F0 m 29 ls [.int (bI (wi p3 (nI 0) (nI 15)))]) rfl ?_
      refine q_bif_eq (tgt := 42) hx hcb dX3_pay_29 (by decide) (fun c_6 => ?_) (fun c_6 => ?_)
      · refine lv_iconst (v := (-1)) hx hcb dX3_pay_42 (by decide) ?_
        have hP9 := hP.sub (ws' := [(T 0, .inr (3, tO T h (nI wk) (nI dy) (nI b) fl tw)), (T 2, .inl (t 4, 16, .inr (.inr (.inr (.inr sa))))), (T 3, .inl (t 5, 8, .inr (.inr (.inr (.inr ma)))))]) [1, 0, 2] rfl
        have hD9 := hD.sub (ws' := [(T 0, .inr (3, tO T h (nI wk) (nI dy) (nI b) fl tw)), (T 2, .inl (t 4, 16, .inr (.inr (.inr (.inr sa))))), (T 3, .inl (t 5, 8, .inr (.inr (.inr (.inr ma)))))]) [1, 0, 2] (by decide) rfl
        exact ret () _ _ _ _ _ rfl dX3_pay_43 trivial hP9 hD9 hS
      · refine lv_iload_n hx hcb dX3_pay_32 rfl (lv_at hl 5 rfl) ?_
        refine lv_iconst (v := nI 1) hx hcb dX3_pay_33 (by decide) ?_
        refine lv_bipush (v := nI 50) hx hcb dX3_pay_34 (by decide) ?_
        refine ct_callS (as := [.int p2, .int (nI 1), .int (nI 50)]) (rest := []) (wr := [(T 2, .inl (t 4, 16, .inr (.inr (.inr (.inr sa))))), (T 0, .inr (3, tO T h (nI wk) (nI dy) (nI b) fl tw)), (T 3, .inl (t 5, 8, .inr (.inr (.inr (.inr ma)))))]) C (c_X3_isWithin l D t x p2 (nI 1) (nI 50) ) (va_cwS 3 hts (gt_app (by simpa using ⟨wm_X3_75, ws_yX3_isWithin, wz_X3⟩) (gt_code wc_X3_isWithin)) rfl rfl rfl (by decide +kernel) ⟨Nat.le_of_ble_eq_true rfl, Nat.le_of_ble_eq_true rfl⟩) hP hD hS [] [0, 1, 2] rfl (by decide) rfl (by decide) (by decide) rfl hl.1 rfl (Nat.le_of_ble_eq_true rfl) dX3_pay_36 ⟨Nat.le_of_ble_eq_true rfl, Nat.le_of_ble_eq_true rfl⟩ (fun u H locs hw_7 hP hD hS => ?_)
        have hP : va_P D vwCl [(T 2, .inl (t 4, 16, .inr (.inr (.inr (.inr sa))))), (T 0, .inr (3, tO T h (nI wk) (nI dy) (nI b) fl tw)), (T 3, .inl (t 5, 8, .inr (.inr (.inr (.inr ma)))))] H := hP
        have hD : va_D A [(T 2, .inl (t 4, 16, .inr (.inr (.inr (.inr sa))))), (T 0, .inr (3, tO T h (nI wk) (nI dy) (nI b) fl tw)), (T 3, .inl (t 5, 8, .inr (.inr (.inr (.inr ma)))))] := hD
        refine W.eq (g2 := F0 m 39 ls [.int (bI (wi p2 (nI 1) (nI 50)))]) rfl ?_
        refine q_bif_ne (tgt := 44) hx hcb dX3_pay_39 (by decide) (fun c_8 => ?_) (fun c_8 => ?_)
        · simp [okp, c_1, c_3, c_6, c_8] at hbad
        · refine lv_iconst (v := (-1)) hx hcb dX3_pay_42 (by decide) ?_
          have hP9 := hP.sub (ws' := [(T 0, .inr (3, tO T h (nI wk) (nI dy) (nI b) fl tw)), (T 2, .inl (t 4, 16, .inr (.inr (.inr (.inr sa))))), (T 3, .inl (t 5, 8, .inr (.inr (.inr (.inr ma)))))]) [1, 0, 2] rfl
          have hD9 := hD.sub (ws' := [(T 0, .inr (3, tO T h (nI wk) (nI dy) (nI b) fl tw)), (T 2, .inl (t 4, 16, .inr (.inr (.inr (.inr sa))))), (T 3, .inl (t 5, 8, .inr (.inr (.inr (.inr ma)))))]) [1, 0, 2] (by decide) rfl
          exact ret () _ _ _ _ _ rfl dX3_pay_43 trivial hP9 hD9 hS
    · skip
      refine lv_aload_n hx hcb dX3_pay_7 rfl (lv_at hl 1 rfl) ?_
      refine lv_iload_n hx hcb dX3_pay_8 rfl (lv_at hl 3 rfl) ?_
      refine ct_callV (As := [.int p1]) (rest := []) (wr := [(T 3, .inl (t 5, 8, .inr (.inr (.inr (.inr ma))))), (T 2, .inl (t 4, 16, .inr (.inr (.inr (.inr sa)))))]) C (c_X3_meterOfN l D t x T h wk dy b fl tw p1 c_3) (cwV 1 hts (gt_app (by simpa using ⟨wm_X3_101, wi_yX3_meterOf, wv_X3_meterOf, wz_X3⟩) (gt_code wc_X3_meterOf)) rfl rfl rfl (by decide +kernel) ⟨Nat.le_of_ble_eq_true rfl, Nat.le_of_ble_eq_true rfl⟩) rfl rfl (q0 := 1) rfl hP hD hS [1] [0, 2] rfl (by decide) rfl (by decide) (by decide) rfl hl.1 rfl (Nat.le_of_ble_eq_true rfl) dX3_pay_9 ⟨Nat.le_of_ble_eq_true rfl, Nat.le_of_ble_eq_true rfl⟩ (fun u H locs hw_9 hP hD hS => ?_)
      have hP : va_P D vwCl [(T 3, .inl (t 5, 8, .inr (.inr (.inr (.inr ma))))), (T 2, .inl (t 4, 16, .inr (.inr (.inr (.inr sa))))), (T 0, .inr (3, tO T h (nI wk) (nI dy) (nI b) fl tw))] H := hP
      have hD : va_D A [(T 3, .inl (t 5, 8, .inr (.inr (.inr (.inr ma))))), (T 2, .inl (t 4, 16, .inr (.inr (.inr (.inr sa))))), (T 0, .inr (3, tO T h (nI wk) (nI dy) (nI b) fl tw))] := hD
      refine W.eq (g2 := F0 m 12 ls [.null]) rfl ?_
      refine lv_astoreN (lv' := [(6, .null), (5, .ref (sg sc 0)), (0, .ref (T 0)), (1, .int (nI sc)), (2, .int p1), (3, .int p2), (4, .int p3)]) hx hcb dX3_pay_12 hl (by decide) rfl (fun ls hl => ?_)
      refine lv_aload hx hcb dX3_pay_14 (lv_at hl 1 rfl) ?_
      refine lv_ifnull hx hcb dX3_pay_16 ?_
      refine lv_aloadN hx hcb dX3_pay_19 (lv_at hl 0 rfl) ?_
      refine lv_ifnullN (tgt := 42) hx hcb dX3_pay_21 (by decide) ?_
      refine lv_iconst (v := (-1)) hx hcb dX3_pay_42 (by decide) ?_
      have hP9 := hP.sub (ws' := [(T 0, .inr (3, tO T h (nI wk) (nI dy) (nI b) fl tw)), (T 2, .inl (t 4, 16, .inr (.inr (.inr (.inr sa))))), (T 3, .inl (t 5, 8, .inr (.inr (.inr (.inr ma)))))]) [2, 1, 0] rfl
      have hD9 := hD.sub (ws' := [(T 0, .inr (3, tO T h (nI wk) (nI dy) (nI b) fl tw)), (T 2, .inl (t 4, 16, .inr (.inr (.inr (.inr sa))))), (T 3, .inl (t 5, 8, .inr (.inr (.inr (.inr ma)))))]) [2, 1, 0] (by decide) rfl
      exact ret () _ _ _ _ _ rfl dX3_pay_43 trivial hP9 hD9 hS
  · skip
    refine lv_aload_n hx hcb dX3_pay_0 rfl (lv_at hl 0 rfl) ?_
    refine lv_iload_n hx hcb dX3_pay_1 rfl (lv_at hl 1 rfl) ?_
    refine ct_callV (As := [.int p0]) (rest := []) (wr := [(T 2, .inl (t 4, 16, .inr (.inr (.inr (.inr sa))))), (T 3, .inl (t 5, 8, .inr (.inr (.inr (.inr ma)))))]) C (c_X3_scrollOfN l D t x T h wk dy b fl tw p0 c_1) (cwV 1 hts (gt_app (by simpa using ⟨wm_X3_97, wi_yX3_scrollOf, wv_X3_scrollOf, wz_X3⟩) (gt_code wc_X3_scrollOf)) rfl rfl rfl (by decide +kernel) ⟨Nat.le_of_ble_eq_true rfl, Nat.le_of_ble_eq_true rfl⟩) rfl rfl (q0 := 0) rfl hP hD hS [0] [1, 2] rfl (by decide) rfl (by decide) (by decide) rfl hl.1 rfl (Nat.le_of_ble_eq_true rfl) dX3_pay_2 ⟨Nat.le_of_ble_eq_true rfl, Nat.le_of_ble_eq_true rfl⟩ (fun u H locs hw_10 hP hD hS => ?_)
    have hP : va_P D vwCl [(T 2, .inl (t 4, 16, .inr (.inr (.inr (.inr sa))))), (T 3, .inl (t 5, 8, .inr (.inr (.inr (.inr ma))))), (T 0, .inr (3, tO T h (nI wk) (nI dy) (nI b) fl tw))] H := hP
    have hD : va_D A [(T 2, .inl (t 4, 16, .inr (.inr (.inr (.inr sa))))), (T 3, .inl (t 5, 8, .inr (.inr (.inr (.inr ma))))), (T 0, .inr (3, tO T h (nI wk) (nI dy) (nI b) fl tw))] := hD
    refine W.eq (g2 := F0 m 5 ls [.null]) rfl ?_
    refine lv_astoreN (lv' := [(5, .null), (0, .ref (T 0)), (1, .int p0), (2, .int p1), (3, .int p2), (4, .int p3)]) hx hcb dX3_pay_5 hl (by decide) rfl (fun ls hl => ?_)
    rcases Bool.eq_false_or_eq_true (wi p1 (nI 0) (nI 7)) with c_11 | c_11
    · skip
      obtain ⟨mt, -, hmt, rfl⟩ := wi_nat (by decide) (by decide) c_11
      refine lv_aload_n hx hcb dX3_pay_7 rfl (lv_at hl 1 rfl) ?_
      refine lv_iload_n hx hcb dX3_pay_8 rfl (lv_at hl 3 rfl) ?_
      refine ct_callV (As := [.int (nI mt)]) (rest := []) (wr := [(T 2, .inl (t 4, 16, .inr (.inr (.inr (.inr sa)))))]) C (c_X3_meterOf l D t x T h wk dy b fl tw mt ma (mq mt 0) (by omega) (hma9 mt (by omega))) (cwV 1 hts (gt_app (by simpa using ⟨wm_X3_101, wi_yX3_meterOf, wv_X3_meterOf, wz_X3⟩) (gt_code wc_X3_meterOf)) rfl rfl rfl (by decide +kernel) ⟨Nat.le_of_ble_eq_true rfl, Nat.le_of_ble_eq_true rfl⟩) rfl rfl (q0 := 2) rfl hP hD hS [2, 1] [0] rfl (by decide) rfl (by decide) (by decide) rfl hl.1 rfl (Nat.le_of_ble_eq_true rfl) dX3_pay_9 ⟨Nat.le_of_ble_eq_true rfl, Nat.le_of_ble_eq_true rfl⟩ (fun u H locs hw_12 hP hD hS => ?_)
      have hP : va_P D vwCl [(T 2, .inl (t 4, 16, .inr (.inr (.inr (.inr sa))))), (T 0, .inr (3, tO T h (nI wk) (nI dy) (nI b) fl tw)), (T 3, .inl (t 5, 8, .inr (.inr (.inr (.inr ma)))))] H := hP
      have hD : va_D A [(T 2, .inl (t 4, 16, .inr (.inr (.inr (.inr sa))))), (T 0, .inr (3, tO T h (nI wk) (nI dy) (nI b) fl tw)), (T 3, .inl (t 5, 8, .inr (.inr (.inr (.inr ma)))))] := hD
      refine W.eq (g2 := F0 m 12 ls [.ref (mq mt 0)]) rfl ?_
      refine lv_astore (lv' := [(6, .ref (mq mt 0)), (5, .null), (0, .ref (T 0)), (1, .int p0), (2, .int (nI mt)), (3, .int p2), (4, .int p3)]) hx hcb dX3_pay_12 hl (by decide) rfl (fun ls hl => ?_)
      refine lv_aloadN hx hcb dX3_pay_14 (lv_at hl 1 rfl) ?_
      refine lv_ifnullN (tgt := 42) hx hcb dX3_pay_16 (by decide) ?_
      refine lv_iconst (v := (-1)) hx hcb dX3_pay_42 (by decide) ?_
      have hP9 := hP.sub (ws' := [(T 0, .inr (3, tO T h (nI wk) (nI dy) (nI b) fl tw)), (T 2, .inl (t 4, 16, .inr (.inr (.inr (.inr sa))))), (T 3, .inl (t 5, 8, .inr (.inr (.inr (.inr ma)))))]) [1, 0, 2] rfl
      have hD9 := hD.sub (ws' := [(T 0, .inr (3, tO T h (nI wk) (nI dy) (nI b) fl tw)), (T 2, .inl (t 4, 16, .inr (.inr (.inr (.inr sa))))), (T 3, .inl (t 5, 8, .inr (.inr (.inr (.inr ma)))))]) [1, 0, 2] (by decide) rfl
      exact ret () _ _ _ _ _ rfl dX3_pay_43 trivial hP9 hD9 hS
    · skip
      refine lv_aload_n hx hcb dX3_pay_7 rfl (lv_at hl 1 rfl) ?_
      refine lv_iload_n hx hcb dX3_pay_8 rfl (lv_at hl 3 rfl) ?_
      refine ct_callV (As := [.int p1]) (rest := []) (wr := [(T 2, .inl (t 4, 16, .inr (.inr (.inr (.inr sa))))), (T 3, .inl (t 5, 8, .inr (.inr (.inr (.inr ma)))))]) C (c_X3_meterOfN l D t x T h wk dy b fl tw p1 c_11) (cwV 1 hts (gt_app (by simpa using ⟨wm_X3_101, wi_yX3_meterOf, wv_X3_meterOf, wz_X3⟩) (gt_code wc_X3_meterOf)) rfl rfl rfl (by decide +kernel) ⟨Nat.le_of_ble_eq_true rfl, Nat.le_of_ble_eq_true rfl⟩) rfl rfl (q0 := 2) rfl hP hD hS [2] [0, 1] rfl (by decide) rfl (by decide) (by decide) rfl hl.1 rfl (Nat.le_of_ble_eq_true rfl) dX3_pay_9 ⟨Nat.le_of_ble_eq_true rfl, Nat.le_of_ble_eq_true rfl⟩ (fun u H locs hw_13 hP hD hS => ?_)
      have hP : va_P D vwCl [(T 2, .inl (t 4, 16, .inr (.inr (.inr (.inr sa))))), (T 3, .inl (t 5, 8, .inr (.inr (.inr (.inr ma))))), (T 0, .inr (3, tO T h (nI wk) (nI dy) (nI b) fl tw))] H := hP
      have hD : va_D A [(T 2, .inl (t 4, 16, .inr (.inr (.inr (.inr sa))))), (T 3, .inl (t 5, 8, .inr (.inr (.inr (.inr ma))))), (T 0, .inr (3, tO T h (nI wk) (nI dy) (nI b) fl tw))] := hD
      refine W.eq (g2 := F0 m 12 ls [.null]) rfl ?_
      refine lv_astoreN (lv' := [(6, .null), (5, .null), (0, .ref (T 0)), (1, .int p0), (2, .int p1), (3, .int p2), (4, .int p3)]) hx hcb dX3_pay_12 hl (by decide) rfl (fun ls hl => ?_)
      refine lv_aloadN hx hcb dX3_pay_14 (lv_at hl 1 rfl) ?_
      refine lv_ifnullN (tgt := 42) hx hcb dX3_pay_16 (by decide) ?_
      refine lv_iconst (v := (-1)) hx hcb dX3_pay_42 (by decide) ?_
      have hP9 := hP.sub (ws' := [(T 0, .inr (3, tO T h (nI wk) (nI dy) (nI b) fl tw)), (T 2, .inl (t 4, 16, .inr (.inr (.inr (.inr sa))))), (T 3, .inl (t 5, 8, .inr (.inr (.inr (.inr ma)))))]) [2, 0, 1] rfl
      have hD9 := hD.sub (ws' := [(T 0, .inr (3, tO T h (nI wk) (nI dy) (nI b) fl tw)), (T 2, .inl (t 4, 16, .inr (.inr (.inr (.inr sa))))), (T 3, .inl (t 5, 8, .inr (.inr (.inr (.inr ma)))))]) [2, 0, 1] (by decide) rfl
      exact ret () _ _ _ _ _ rfl dX3_pay_43 trivial hP9 hD9 hS
end
set_option maxHeartbeats 1000000 in
set_option maxRecDepth 100000 in
/-- pay(..), refused -/
theorem c_X3_payN (l : Launch) (D : va_G) (t : Nat → ClassId) (x : Nat → Nat) (T : Nat → Nat) (h : Nat → Nat) (wk : Nat) (dy : Nat) (b : Nat) (fl : Int64) (tw : Int64) (p0 : Int32) (p1 : Int32) (p2 : Int32) (p3 : Int32) (sa : Nat → Option Nat) (sg : Nat → Nat → Nat) (ma : Nat → Option Nat) (mq : Nat → Nat → Nat) (hb16 : b ≤ 16) (hsa9 : ∀ j, j < b → sa j = some (sg j 0)) (hma9 : ∀ j, j < 8 → ma j = some (mq j 0)) (hbad : okp p0 p1 p2 p3 b = false) : Ct l D t x yX3_pay wsX3_pay r_X3_payN [.ref (T 0), .int p0, .int p1, .int p2, .int p3] [(T 0, .inr (3, tO T h (nI wk) (nI dy) (nI b) fl tw)), (T 2, .inl (t 4, 16, .inr (.inr (.inr (.inr sa))))), (T 3, .inl (t 5, 8, .inr (.inr (.inr (.inr ma)))))] (Unit) (fun (_ : Unit) => True) (fun (_ : Unit) => some (.int (-1))) (fun (_ : Unit) => [(T 0, .inr (3, tO T h (nI wk) (nI dy) (nI b) fl tw)), (T 2, .inl (t 4, 16, .inr (.inr (.inr (.inr sa))))), (T 3, .inl (t 5, 8, .inr (.inr (.inr (.inr ma)))))]) 0 0 := ct_ofI (by decide) rfl (Nat.le_of_ble_eq_true rfl) rfl (fun p e s m below meth c A ls Q C ret hl hP hD hS => b_X3_payN T h wk dy b fl tw p0 p1 p2 p3 sa sg ma mq hb16 hsa9 hma9 hbad C ret hl hP hD hS)
def r_X3_offerN : Room := { frames := 2, cells := 0, slots := 0, locals := 43 }
section
variable {p : Program} {l : Launch} {e : Env} {s : State} {m : MethodId} {args : Array Value} {below : List Frame} {meth : Method} {c : Code} {Q : State → Prop} {D : va_G} {t : Nat → ClassId} {x : Nat → Nat} {A : Nat → Prop}
set_option maxHeartbeats 1000000 in
set_option maxRecDepth 100000 in
theorem b_X3_offerN (T : Nat → Nat) (h : Nat → Nat) (wk : Nat) (dy : Nat) (b : Nat) (fl : Int64) (tw : Int64) (p0 : Int32) (p1 : Int32) (p2 : Int32) (p3 : Int32) (sa : Nat → Option Nat) (sg : Nat → Nat → Nat) (ma : Nat → Option Nat) (mq : Nat → Nat → Nat) (hb16 : b ≤ 16) (hsa9 : ∀ j, j < b → sa j = some (sg j 0)) (hma9 : ∀ j, j < 8 → ma j = some (mq j 0)) (hbad : oko p0 p1 p3 b = false) {H : Heap} {locs : List Loc} {ls : Array Slot} (C : Cx p s m args c cX3_offer 7 RX3 D t x A) (ret : RtI p l e r_X3_offerN s m args below meth c Q D A cX3_offer (Unit) (fun (_ : Unit) => True) (fun (_ : Unit) => some (.int (-1))) (fun (_ : Unit) => [(T 0, .inr (3, tO T h (nI wk) (nI dy) (nI b) fl tw)), (T 2, .inl (t 4, 16, .inr (.inr (.inr (.inr sa))))), (T 3, .inl (t 5, 8, .inr (.inr (.inr (.inr ma)))))]) 0 0) (hl : lv_has ls 7 [(0, .ref (T 0)), (1, .int p0), (2, .int p1), (3, .int p2), (4, .int p3)]) (hP : va_P D vwCl [(T 0, .inr (3, tO T h (nI wk) (nI dy) (nI b) fl tw)), (T 2, .inl (t 4, 16, .inr (.inr (.inr (.inr sa))))), (T 3, .inl (t 5, 8, .inr (.inr (.inr (.inr ma)))))] H) (hD : va_D A [(T 0, .inr (3, tO T h (nI wk) (nI dy) (nI b) fl tw)), (T 2, .inl (t 4, 16, .inr (.inr (.inr (.inr sa))))), (T 3, .inl (t 5, 8, .inr (.inr (.inr (.inr ma)))))]) (hS : va_S A s.heap H locs) : W p l e r_X3_offerN s m args below meth c H locs 0 0 Q (F0 m 0 ls []) := by
  obtain ⟨hx, hcb, hml, hown, hts, hK, hA, hX, hN⟩ := id C
  rcases Bool.eq_false_or_eq_true (wi p0 (nI 0) (nI b - nI 1)) with c_1 | c_1
  · skip
    obtain ⟨sc, hsc, rfl⟩ := wi_b hb16 c_1
    refine lv_aload_n hx hcb dX3_offer_0 rfl (lv_at hl 0 rfl) ?_
    refine lv_iload_n hx hcb dX3_offer_1 rfl (lv_at hl 1 rfl) ?_
    refine ct_callV (As := [.int (nI sc)]) (rest := []) (wr := [(T 3, .inl (t 5, 8, .inr (.inr (.inr (.inr ma)))))]) C (c_X3_scrollOf l D t x T h wk dy b fl tw sc sa (sg sc 0) (by omega) (by omega) (hsa9 sc hsc)) (cwV 1 hts (gt_app (by simpa using ⟨wm_X3_97, wi_yX3_scrollOf, wv_X3_scrollOf, wz_X3⟩) (gt_code wc_X3_scrollOf)) rfl rfl rfl (by decide +kernel) ⟨Nat.le_of_ble_eq_true rfl, Nat.le_of_ble_eq_true rfl⟩) rfl rfl (q0 := 0) rfl hP hD hS [0, 1] [2] rfl (by decide) rfl (by decide) (by decide) rfl hl.1 rfl (Nat.le_of_ble_eq_true rfl) dX3_offer_2 ⟨Nat.le_of_ble_eq_true rfl, Nat.le_of_ble_eq_true rfl⟩ (fun u H locs hw_2 hP hD hS => ?_)
    have hP : va_P D vwCl [(T 3, .inl (t 5, 8, .inr (.inr (.inr (.inr ma))))), (T 0, .inr (3, tO T h (nI wk) (nI dy) (nI b) fl tw)), (T 2, .inl (t 4, 16, .inr (.inr (.inr (.inr sa)))))] H := hP
    have hD : va_D A [(T 3, .inl (t 5, 8, .inr (.inr (.inr (.inr ma))))), (T 0, .inr (3, tO T h (nI wk) (nI dy) (nI b) fl tw)), (T 2, .inl (t 4, 16, .inr (.inr (.inr (.inr sa)))))] := hD
    refine W.eq (g2 := F0 m 5 ls [.ref (sg sc 0)]) rfl ?_
    refine lv_astore (lv' := [(5, .ref (sg sc 0)), (0, .ref (T 0)), (1, .int (nI sc)), (2, .int p1), (3, .int p2), (4, .int p3)]) hx hcb dX3_offer_5 hl (by decide) rfl (fun ls hl => ?_)
    rcases Bool.eq_false_or_eq_true (wi p1 (nI 0) (nI 7)) with c_3 | c_3
    · skip
      obtain ⟨mt, -, hmt, rfl⟩ := wi_nat (by decide) (by decide) c_3
      refine lv_aload_n hx hcb dX3_offer_7 rfl (lv_at hl 1 rfl) ?_
      refine lv_iload_n hx hcb dX3_offer_8 rfl (lv_at hl 3 rfl) ?_
      refine ct_callV (As := [.int (nI mt)]) (rest := []) (wr := [(T 2, .inl (t 4, 16, .inr (.inr (.inr (.inr sa)))))]) C (c_X3_meterOf l D t x T h wk dy b fl tw mt ma (mq mt 0) (by omega) (hma9 mt (by omega))) (cwV 1 hts (gt_app (by simpa using ⟨wm_X3_101, wi_yX3_meterOf, wv_X3_meterOf, wz_X3⟩) (gt_code wc_X3_meterOf)) rfl rfl rfl (by decide +kernel) ⟨Nat.le_of_ble_eq_true rfl, Nat.le_of_ble_eq_true rfl⟩) rfl rfl (q0 := 1) rfl hP hD hS [1, 0] [2] rfl (by decide) rfl (by decide) (by decide) rfl hl.1 rfl (Nat.le_of_ble_eq_true rfl) dX3_offer_9 ⟨Nat.le_of_ble_eq_true rfl, Nat.le_of_ble_eq_true rfl⟩ (fun u H locs hw_4 hP hD hS => ?_)
      have hP : va_P D vwCl [(T 2, .inl (t 4, 16, .inr (.inr (.inr (.inr sa))))), (T 0, .inr (3, tO T h (nI wk) (nI dy) (nI b) fl tw)), (T 3, .inl (t 5, 8, .inr (.inr (.inr (.inr ma)))))] H := hP
      have hD : va_D A [(T 2, .inl (t 4, 16, .inr (.inr (.inr (.inr sa))))), (T 0, .inr (3, tO T h (nI wk) (nI dy) (nI b) fl tw)), (T 3, .inl (t 5, 8, .inr (.inr (.inr (.inr ma)))))] := hD
      refine W.eq (g2 := F0 m 12 ls [.ref (mq mt 0)]) rfl ?_
      refine lv_astore (lv' := [(6, .ref (mq mt 0)), (5, .ref (sg sc 0)), (0, .ref (T 0)), (1, .int (nI sc)), (2, .int (nI mt)), (3, .int p2), (4, .int p3)]) hx hcb dX3_offer_12 hl (by decide) rfl (fun ls hl => ?_)
      refine lv_aload hx hcb dX3_offer_14 (lv_at hl 1 rfl) ?_
      refine lv_ifnull hx hcb dX3_offer_16 ?_
      refine lv_aload hx hcb dX3_offer_19 (lv_at hl 0 rfl) ?_
      refine lv_ifnull hx hcb dX3_offer_21 ?_
      refine lv_iload hx hcb dX3_offer_24 (lv_at hl 6 rfl) ?_
      refine ct_callS (as := [.int p3]) (rest := []) (wr := [(T 2, .inl (t 4, 16, .inr (.inr (.inr (.inr sa))))), (T 0, .inr (3, tO T h (nI wk) (nI dy) (nI b) fl tw)), (T 3, .inl (t 5, 8, .inr (.inr (.inr (.inr ma)))))]) C (c_X3_isPlate l D t x p3 ) (va_cwS 1 hts (gt_app (by simpa using ⟨wm_X3_117, ws_yX3_isPlate, wz_X3⟩) (gt_code wc_X3_isPlate)) rfl rfl rfl (by decide +kernel) ⟨Nat.le_of_ble_eq_true rfl, Nat.le_of_ble_eq_true rfl⟩) hP hD hS [] [0, 1, 2] rfl (by decide) rfl (by decide) (by decide) rfl hl.1 rfl (Nat.le_of_ble_eq_true rfl) dX3_offer_26 ⟨Nat.le_of_ble_eq_true rfl, Nat.le_of_ble_eq_true rfl⟩ (fun u H locs hw_5 hP hD hS => ?_)
      have hP : va_P D vwCl [(T 2, .inl (t 4, 16, .inr (.inr (.inr (.inr sa))))), (T 0, .inr (3, tO T h (nI wk) (nI dy) (nI b) fl tw)), (T 3, .inl (t 5, 8, .inr (.inr (.inr (.inr ma)))))] H := hP
      have hD : va_D A [(T 2, .inl (t 4, 16, .inr (.inr (.inr (.inr sa))))), (T 0, .inr (3, tO T h (nI wk) (nI dy) (nI b) fl tw)), (T 3, .inl (t 5, 8, .inr (.inr (.inr (.inr ma)))))] := hD
      refine W.eq (g2 := F0 m 29 ls [.int (bI (wi p3 (nI 0) (nI 15)))]) rfl ?_
      refine q_bif_ne (tgt := 34) hx hcb dX3_offer_29 (by decide) (fun c_6 => ?_) (fun c_6 => ?_)
      · simp [oko, c_1, c_3, c_6] at hbad
      · refine lv_iconst (v := (-1)) hx hcb dX3_offer_32 (by decide) ?_
        have hP9 := hP.sub (ws' := [(T 0, .inr (3, tO T h (nI wk) (nI dy) (nI b) fl tw)), (T 2, .inl (t 4, 16, .inr (.inr (.inr (.inr sa))))), (T 3, .inl (t 5, 8, .inr (.inr (.inr (.inr ma)))))]) [1, 0, 2] rfl
        have hD9 := hD.sub (ws' := [(T 0, .inr (3, tO T h (nI wk) (nI dy) (nI b) fl tw)), (T 2, .inl (t 4, 16, .inr (.inr (.inr (.inr sa))))), (T 3, .inl (t 5, 8, .inr (.inr (.inr (.inr ma)))))]) [1, 0, 2] (by decide) rfl
        exact ret () _ _ _ _ _ rfl dX3_offer_33 trivial hP9 hD9 hS
    · skip
      refine lv_aload_n hx hcb dX3_offer_7 rfl (lv_at hl 1 rfl) ?_
      refine lv_iload_n hx hcb dX3_offer_8 rfl (lv_at hl 3 rfl) ?_
      refine ct_callV (As := [.int p1]) (rest := []) (wr := [(T 3, .inl (t 5, 8, .inr (.inr (.inr (.inr ma))))), (T 2, .inl (t 4, 16, .inr (.inr (.inr (.inr sa)))))]) C (c_X3_meterOfN l D t x T h wk dy b fl tw p1 c_3) (cwV 1 hts (gt_app (by simpa using ⟨wm_X3_101, wi_yX3_meterOf, wv_X3_meterOf, wz_X3⟩) (gt_code wc_X3_meterOf)) rfl rfl rfl (by decide +kernel) ⟨Nat.le_of_ble_eq_true rfl, Nat.le_of_ble_eq_true rfl⟩) rfl rfl (q0 := 1) rfl hP hD hS [1] [0, 2] rfl (by decide) rfl (by decide) (by decide) rfl hl.1 rfl (Nat.le_of_ble_eq_true rfl) dX3_offer_9 ⟨Nat.le_of_ble_eq_true rfl, Nat.le_of_ble_eq_true rfl⟩ (fun u H locs hw_7 hP hD hS => ?_)
      have hP : va_P D vwCl [(T 3, .inl (t 5, 8, .inr (.inr (.inr (.inr ma))))), (T 2, .inl (t 4, 16, .inr (.inr (.inr (.inr sa))))), (T 0, .inr (3, tO T h (nI wk) (nI dy) (nI b) fl tw))] H := hP
      have hD : va_D A [(T 3, .inl (t 5, 8, .inr (.inr (.inr (.inr ma))))), (T 2, .inl (t 4, 16, .inr (.inr (.inr (.inr sa))))), (T 0, .inr (3, tO T h (nI wk) (nI dy) (nI b) fl tw))] := hD
      refine W.eq (g2 := F0 m 12 ls [.null]) rfl ?_
      refine lv_astoreN (lv' := [(6, .null), (5, .ref (sg sc 0)), (0, .ref (T 0)), (1, .int (nI sc)), (2, .int p1), (3, .int p2), (4, .int p3)]) hx hcb dX3_offer_12 hl (by decide) rfl (fun ls hl => ?_)
      refine lv_aload hx hcb dX3_offer_14 (lv_at hl 1 rfl) ?_
      refine lv_ifnull hx hcb dX3_offer_16 ?_
      refine lv_aloadN hx hcb dX3_offer_19 (lv_at hl 0 rfl) ?_
      refine lv_ifnullN (tgt := 32) hx hcb dX3_offer_21 (by decide) ?_
      refine lv_iconst (v := (-1)) hx hcb dX3_offer_32 (by decide) ?_
      have hP9 := hP.sub (ws' := [(T 0, .inr (3, tO T h (nI wk) (nI dy) (nI b) fl tw)), (T 2, .inl (t 4, 16, .inr (.inr (.inr (.inr sa))))), (T 3, .inl (t 5, 8, .inr (.inr (.inr (.inr ma)))))]) [2, 1, 0] rfl
      have hD9 := hD.sub (ws' := [(T 0, .inr (3, tO T h (nI wk) (nI dy) (nI b) fl tw)), (T 2, .inl (t 4, 16, .inr (.inr (.inr (.inr sa))))), (T 3, .inl (t 5, 8, .inr (.inr (.inr (.inr ma)))))]) [2, 1, 0] (by decide) rfl
      exact ret () _ _ _ _ _ rfl dX3_offer_33 trivial hP9 hD9 hS
  · skip
    refine lv_aload_n hx hcb dX3_offer_0 rfl (lv_at hl 0 rfl) ?_
    refine lv_iload_n hx hcb dX3_offer_1 rfl (lv_at hl 1 rfl) ?_
    refine ct_callV (As := [.int p0]) (rest := []) (wr := [(T 2, .inl (t 4, 16, .inr (.inr (.inr (.inr sa))))), (T 3, .inl (t 5, 8, .inr (.inr (.inr (.inr ma)))))]) C (c_X3_scrollOfN l D t x T h wk dy b fl tw p0 c_1) (cwV 1 hts (gt_app (by simpa using ⟨wm_X3_97, wi_yX3_scrollOf, wv_X3_scrollOf, wz_X3⟩) (gt_code wc_X3_scrollOf)) rfl rfl rfl (by decide +kernel) ⟨Nat.le_of_ble_eq_true rfl, Nat.le_of_ble_eq_true rfl⟩) rfl rfl (q0 := 0) rfl hP hD hS [0] [1, 2] rfl (by decide) rfl (by decide) (by decide) rfl hl.1 rfl (Nat.le_of_ble_eq_true rfl) dX3_offer_2 ⟨Nat.le_of_ble_eq_true rfl, Nat.le_of_ble_eq_true rfl⟩ (fun u H locs hw_8 hP hD hS => ?_)
    have hP : va_P D vwCl [(T 2, .inl (t 4, 16, .inr (.inr (.inr (.inr sa))))), (T 3, .inl (t 5, 8, .inr (.inr (.inr (.inr ma))))), (T 0, .inr (3, tO T h (nI wk) (nI dy) (nI b) fl tw))] H := hP
    have hD : va_D A [(T 2, .inl (t 4, 16, .inr (.inr (.inr (.inr sa))))), (T 3, .inl (t 5, 8, .inr (.inr (.inr (.inr ma))))), (T 0, .inr (3, tO T h (nI wk) (nI dy) (nI b) fl tw))] := hD
    refine W.eq (g2 := F0 m 5 ls [.null]) rfl ?_
    refine lv_astoreN (lv' := [(5, .null), (0, .ref (T 0)), (1, .int p0), (2, .int p1), (3, .int p2), (4, .int p3)]) hx hcb dX3_offer_5 hl (by decide) rfl (fun ls hl => ?_)
    rcases Bool.eq_false_or_eq_true (wi p1 (nI 0) (nI 7)) with c_9 | c_9
    · skip
      obtain ⟨mt, -, hmt, rfl⟩ := wi_nat (by decide) (by decide) c_9
      refine lv_aload_n hx hcb dX3_offer_7 rfl (lv_at hl 1 rfl) ?_
      refine lv_iload_n hx hcb dX3_offer_8 rfl (lv_at hl 3 rfl) ?_
      refine ct_callV (As := [.int (nI mt)]) (rest := []) (wr := [(T 2, .inl (t 4, 16, .inr (.inr (.inr (.inr sa)))))]) C (c_X3_meterOf l D t x T h wk dy b fl tw mt ma (mq mt 0) (by omega) (hma9 mt (by omega))) (cwV 1 hts (gt_app (by simpa using ⟨wm_X3_101, wi_yX3_meterOf, wv_X3_meterOf, wz_X3⟩) (gt_code wc_X3_meterOf)) rfl rfl rfl (by decide +kernel) ⟨Nat.le_of_ble_eq_true rfl, Nat.le_of_ble_eq_true rfl⟩) rfl rfl (q0 := 2) rfl hP hD hS [2, 1] [0] rfl (by decide) rfl (by decide) (by decide) rfl hl.1 rfl (Nat.le_of_ble_eq_true rfl) dX3_offer_9 ⟨Nat.le_of_ble_eq_true rfl, Nat.le_of_ble_eq_true rfl⟩ (fun u H locs hw_10 hP hD hS => ?_)
      have hP : va_P D vwCl [(T 2, .inl (t 4, 16, .inr (.inr (.inr (.inr sa))))), (T 0, .inr (3, tO T h (nI wk) (nI dy) (nI b) fl tw)), (T 3, .inl (t 5, 8, .inr (.inr (.inr (.inr ma)))))] H := hP
      have hD : va_D A [(T 2, .inl (t 4, 16, .inr (.inr (.inr (.inr sa))))), (T 0, .inr (3, tO T h (nI wk) (nI dy) (nI b) fl tw)), (T 3, .inl (t 5, 8, .inr (.inr (.inr (.inr ma)))))] := hD
      refine W.eq (g2 := F0 m 12 ls [.ref (mq mt 0)]) rfl ?_
      refine lv_astore (lv' := [(6, .ref (mq mt 0)), (5, .null), (0, .ref (T 0)), (1, .int p0), (2, .int (nI mt)), (3, .int p2), (4, .int p3)]) hx hcb dX3_offer_12 hl (by decide) rfl (fun ls hl => ?_)
      refine lv_aloadN hx hcb dX3_offer_14 (lv_at hl 1 rfl) ?_
      refine lv_ifnullN (tgt := 32) hx hcb dX3_offer_16 (by decide) ?_
      refine lv_iconst (v := (-1)) hx hcb dX3_offer_32 (by decide) ?_
      have hP9 := hP.sub (ws' := [(T 0, .inr (3, tO T h (nI wk) (nI dy) (nI b) fl tw)), (T 2, .inl (t 4, 16, .inr (.inr (.inr (.inr sa))))), (T 3, .inl (t 5, 8, .inr (.inr (.inr (.inr ma)))))]) [1, 0, 2] rfl
      have hD9 := hD.sub (ws' := [(T 0, .inr (3, tO T h (nI wk) (nI dy) (nI b) fl tw)), (T 2, .inl (t 4, 16, .inr (.inr (.inr (.inr sa))))), (T 3, .inl (t 5, 8, .inr (.inr (.inr (.inr ma)))))]) [1, 0, 2] (by decide) rfl
      exact ret () _ _ _ _ _ rfl dX3_offer_33 trivial hP9 hD9 hS
    · skip
      refine lv_aload_n hx hcb dX3_offer_7 rfl (lv_at hl 1 rfl) ?_
      refine lv_iload_n hx hcb dX3_offer_8 rfl (lv_at hl 3 rfl) ?_
      refine ct_callV (As := [.int p1]) (rest := []) (wr := [(T 2, .inl (t 4, 16, .inr (.inr (.inr (.inr sa))))), (T 3, .inl (t 5, 8, .inr (.inr (.inr (.inr ma)))))]) C (c_X3_meterOfN l D t x T h wk dy b fl tw p1 c_9) (cwV 1 hts (gt_app (by simpa using ⟨wm_X3_101, wi_yX3_meterOf, wv_X3_meterOf, wz_X3⟩) (gt_code wc_X3_meterOf)) rfl rfl rfl (by decide +kernel) ⟨Nat.le_of_ble_eq_true rfl, Nat.le_of_ble_eq_true rfl⟩) rfl rfl (q0 := 2) rfl hP hD hS [2] [0, 1] rfl (by decide) rfl (by decide) (by decide) rfl hl.1 rfl (Nat.le_of_ble_eq_true rfl) dX3_offer_9 ⟨Nat.le_of_ble_eq_true rfl, Nat.le_of_ble_eq_true rfl⟩ (fun u H locs hw_11 hP hD hS => ?_)
      have hP : va_P D vwCl [(T 2, .inl (t 4, 16, .inr (.inr (.inr (.inr sa))))), (T 3, .inl (t 5, 8, .inr (.inr (.inr (.inr ma))))), (T 0, .inr (3, tO T h (nI wk) (nI dy) (nI b) fl tw))] H := hP
      have hD : va_D A [(T 2, .inl (t 4, 16, .inr (.inr (.inr (.inr sa))))), (T 3, .inl (t 5, 8, .inr (.inr (.inr (.inr ma))))), (T 0, .inr (3, tO T h (nI wk) (nI dy) (nI b) fl tw))] := hD
      refine W.eq (g2 := F0 m 12 ls [.null]) rfl ?_
      refine lv_astoreN (lv' := [(6, .null), (5, .null), (0, .ref (T 0)), (1, .int p0), (2, .int p1), (3, .int p2), (4, .int p3)]) hx hcb dX3_offer_12 hl (by decide) rfl (fun ls hl => ?_)
      refine lv_aloadN hx hcb dX3_offer_14 (lv_at hl 1 rfl) ?_
      refine lv_ifnullN (tgt := 32) hx hcb dX3_offer_16 (by decide) ?_
      refine lv_iconst (v := (-1)) hx hcb dX3_offer_32 (by decide) ?_
      have hP9 := hP.sub (ws' := [(T 0, .inr (3, tO T h (nI wk) (nI dy) (nI b) fl tw)), (T 2, .inl (t 4, 16, .inr (.inr (.inr (.inr sa))))), (T 3, .inl (t 5, 8, .inr (.inr (.inr (.inr ma)))))]) [2, 0, 1] rfl
      have hD9 := hD.sub (ws' := [(T 0, .inr (3, tO T h (nI wk) (nI dy) (nI b) fl tw)), (T 2, .inl (t 4, 16, .inr (.inr (.inr (.inr sa))))), (T 3, .inl (t 5, 8, .inr (.inr (.inr (.inr ma)))))]) [2, 0, 1] (by decide) rfl
      exact ret () _ _ _ _ _ rfl dX3_offer_33 trivial hP9 hD9 hS
end
set_option maxHeartbeats 1000000 in
set_option maxRecDepth 100000 in
/-- offer(..), refused -/
theorem c_X3_offerN (l : Launch) (D : va_G) (t : Nat → ClassId) (x : Nat → Nat) (T : Nat → Nat) (h : Nat → Nat) (wk : Nat) (dy : Nat) (b : Nat) (fl : Int64) (tw : Int64) (p0 : Int32) (p1 : Int32) (p2 : Int32) (p3 : Int32) (sa : Nat → Option Nat) (sg : Nat → Nat → Nat) (ma : Nat → Option Nat) (mq : Nat → Nat → Nat) (hb16 : b ≤ 16) (hsa9 : ∀ j, j < b → sa j = some (sg j 0)) (hma9 : ∀ j, j < 8 → ma j = some (mq j 0)) (hbad : oko p0 p1 p3 b = false) : Ct l D t x yX3_offer wsX3_offer r_X3_offerN [.ref (T 0), .int p0, .int p1, .int p2, .int p3] [(T 0, .inr (3, tO T h (nI wk) (nI dy) (nI b) fl tw)), (T 2, .inl (t 4, 16, .inr (.inr (.inr (.inr sa))))), (T 3, .inl (t 5, 8, .inr (.inr (.inr (.inr ma)))))] (Unit) (fun (_ : Unit) => True) (fun (_ : Unit) => some (.int (-1))) (fun (_ : Unit) => [(T 0, .inr (3, tO T h (nI wk) (nI dy) (nI b) fl tw)), (T 2, .inl (t 4, 16, .inr (.inr (.inr (.inr sa))))), (T 3, .inl (t 5, 8, .inr (.inr (.inr (.inr ma)))))]) 0 0 := ct_ofI (by decide) rfl (Nat.le_of_ble_eq_true rfl) rfl (fun p e s m below meth c A ls Q C ret hl hP hD hS => b_X3_offerN T h wk dy b fl tw p0 p1 p2 p3 sa sg ma mq hb16 hsa9 hma9 hbad C ret hl hP hD hS)
def r_X3_coinByteN : Room := { frames := 2, cells := 0, slots := 0, locals := 43 }
section
variable {p : Program} {l : Launch} {e : Env} {s : State} {m : MethodId} {args : Array Value} {below : List Frame} {meth : Method} {c : Code} {Q : State → Prop} {D : va_G} {t : Nat → ClassId} {x : Nat → Nat} {A : Nat → Prop}
set_option maxHeartbeats 1000000 in
set_option maxRecDepth 100000 in
theorem b_X3_coinByteN (T : Nat → Nat) (h : Nat → Nat) (wk : Nat) (dy : Nat) (b : Nat) (fl : Int64) (tw : Int64) (p0 : Int32) (p1 : Int32) (p2 : Int32) (sa : Nat → Option Nat) (sg : Nat → Nat → Nat) (hb16 : b ≤ 16) (hsa9 : ∀ j, j < b → sa j = some (sg j 0)) (hbad : wi p0 (nI 0) (nI b - nI 1) = false) {H : Heap} {locs : List Loc} {ls : Array Slot} (C : Cx p s m args c cX3_coinByte 5 RX3 D t x A) (ret : RtI p l e r_X3_coinByteN s m args below meth c Q D A cX3_coinByte (Unit) (fun (_ : Unit) => True) (fun (_ : Unit) => some (.int (-1))) (fun (_ : Unit) => [(T 0, .inr (3, tO T h (nI wk) (nI dy) (nI b) fl tw)), (T 2, .inl (t 4, 16, .inr (.inr (.inr (.inr sa)))))]) 0 0) (hl : lv_has ls 5 [(0, .ref (T 0)), (1, .int p0), (2, .int p1), (3, .int p2)]) (hP : va_P D vwCl [(T 0, .inr (3, tO T h (nI wk) (nI dy) (nI b) fl tw)), (T 2, .inl (t 4, 16, .inr (.inr (.inr (.inr sa)))))] H) (hD : va_D A [(T 0, .inr (3, tO T h (nI wk) (nI dy) (nI b) fl tw)), (T 2, .inl (t 4, 16, .inr (.inr (.inr (.inr sa)))))]) (hS : va_S A s.heap H locs) : W p l e r_X3_coinByteN s m args below meth c H locs 0 0 Q (F0 m 0 ls []) := by
  obtain ⟨hx, hcb, hml, hown, hts, hK, hA, hX, hN⟩ := id C
  rcases Bool.eq_false_or_eq_true (wi p0 (nI 0) (nI b - nI 1)) with c_1 | c_1
  · skip
    obtain ⟨sc, hsc, rfl⟩ := wi_b hb16 c_1
    refine lv_aload_n hx hcb dX3_coinByte_0 rfl (lv_at hl 0 rfl) ?_
    refine lv_iload_n hx hcb dX3_coinByte_1 rfl (lv_at hl 1 rfl) ?_
    refine ct_callV (As := [.int (nI sc)]) (rest := []) (wr := []) C (c_X3_scrollOf l D t x T h wk dy b fl tw sc sa (sg sc 0) (by omega) (by omega) (hsa9 sc hsc)) (cwV 1 hts (gt_app (by simpa using ⟨wm_X3_97, wi_yX3_scrollOf, wv_X3_scrollOf, wz_X3⟩) (gt_code wc_X3_scrollOf)) rfl rfl rfl (by decide +kernel) ⟨Nat.le_of_ble_eq_true rfl, Nat.le_of_ble_eq_true rfl⟩) rfl rfl (q0 := 0) rfl hP hD hS [0, 1] [] rfl (by decide) rfl (by decide) (by decide) rfl hl.1 rfl (Nat.le_of_ble_eq_true rfl) dX3_coinByte_2 ⟨Nat.le_of_ble_eq_true rfl, Nat.le_of_ble_eq_true rfl⟩ (fun u H locs hw_2 hP hD hS => ?_)
    have hP : va_P D vwCl [(T 0, .inr (3, tO T h (nI wk) (nI dy) (nI b) fl tw)), (T 2, .inl (t 4, 16, .inr (.inr (.inr (.inr sa)))))] H := hP
    have hD : va_D A [(T 0, .inr (3, tO T h (nI wk) (nI dy) (nI b) fl tw)), (T 2, .inl (t 4, 16, .inr (.inr (.inr (.inr sa)))))] := hD
    refine W.eq (g2 := F0 m 5 ls [.ref (sg sc 0)]) rfl ?_
    refine lv_astore (lv' := [(4, .ref (sg sc 0)), (0, .ref (T 0)), (1, .int (nI sc)), (2, .int p1), (3, .int p2)]) hx hcb dX3_coinByte_5 hl (by decide) rfl (fun ls hl => ?_)
    refine lv_aload hx hcb dX3_coinByte_7 (lv_at hl 0 rfl) ?_
    refine lv_ifnull hx hcb dX3_coinByte_9 ?_
    simp [c_1] at hbad
  · skip
    refine lv_aload_n hx hcb dX3_coinByte_0 rfl (lv_at hl 0 rfl) ?_
    refine lv_iload_n hx hcb dX3_coinByte_1 rfl (lv_at hl 1 rfl) ?_
    refine ct_callV (As := [.int p0]) (rest := []) (wr := [(T 2, .inl (t 4, 16, .inr (.inr (.inr (.inr sa)))))]) C (c_X3_scrollOfN l D t x T h wk dy b fl tw p0 c_1) (cwV 1 hts (gt_app (by simpa using ⟨wm_X3_97, wi_yX3_scrollOf, wv_X3_scrollOf, wz_X3⟩) (gt_code wc_X3_scrollOf)) rfl rfl rfl (by decide +kernel) ⟨Nat.le_of_ble_eq_true rfl, Nat.le_of_ble_eq_true rfl⟩) rfl rfl (q0 := 0) rfl hP hD hS [0] [1] rfl (by decide) rfl (by decide) (by decide) rfl hl.1 rfl (Nat.le_of_ble_eq_true rfl) dX3_coinByte_2 ⟨Nat.le_of_ble_eq_true rfl, Nat.le_of_ble_eq_true rfl⟩ (fun u H locs hw_3 hP hD hS => ?_)
    have hP : va_P D vwCl [(T 2, .inl (t 4, 16, .inr (.inr (.inr (.inr sa))))), (T 0, .inr (3, tO T h (nI wk) (nI dy) (nI b) fl tw))] H := hP
    have hD : va_D A [(T 2, .inl (t 4, 16, .inr (.inr (.inr (.inr sa))))), (T 0, .inr (3, tO T h (nI wk) (nI dy) (nI b) fl tw))] := hD
    refine W.eq (g2 := F0 m 5 ls [.null]) rfl ?_
    refine lv_astoreN (lv' := [(4, .null), (0, .ref (T 0)), (1, .int p0), (2, .int p1), (3, .int p2)]) hx hcb dX3_coinByte_5 hl (by decide) rfl (fun ls hl => ?_)
    refine lv_aloadN hx hcb dX3_coinByte_7 (lv_at hl 0 rfl) ?_
    refine lv_ifnullN (tgt := 31) hx hcb dX3_coinByte_9 (by decide) ?_
    refine lv_iconst (v := (-1)) hx hcb dX3_coinByte_31 (by decide) ?_
    have hP9 := hP.sub (ws' := [(T 0, .inr (3, tO T h (nI wk) (nI dy) (nI b) fl tw)), (T 2, .inl (t 4, 16, .inr (.inr (.inr (.inr sa)))))]) [1, 0] rfl
    have hD9 := hD.sub (ws' := [(T 0, .inr (3, tO T h (nI wk) (nI dy) (nI b) fl tw)), (T 2, .inl (t 4, 16, .inr (.inr (.inr (.inr sa)))))]) [1, 0] (by decide) rfl
    exact ret () _ _ _ _ _ rfl dX3_coinByte_32 trivial hP9 hD9 hS
end
set_option maxHeartbeats 1000000 in
set_option maxRecDepth 100000 in
/-- coinByte(..), refused -/
theorem c_X3_coinByteN (l : Launch) (D : va_G) (t : Nat → ClassId) (x : Nat → Nat) (T : Nat → Nat) (h : Nat → Nat) (wk : Nat) (dy : Nat) (b : Nat) (fl : Int64) (tw : Int64) (p0 : Int32) (p1 : Int32) (p2 : Int32) (sa : Nat → Option Nat) (sg : Nat → Nat → Nat) (hb16 : b ≤ 16) (hsa9 : ∀ j, j < b → sa j = some (sg j 0)) (hbad : wi p0 (nI 0) (nI b - nI 1) = false) : Ct l D t x yX3_coinByte wsX3_coinByte r_X3_coinByteN [.ref (T 0), .int p0, .int p1, .int p2] [(T 0, .inr (3, tO T h (nI wk) (nI dy) (nI b) fl tw)), (T 2, .inl (t 4, 16, .inr (.inr (.inr (.inr sa)))))] (Unit) (fun (_ : Unit) => True) (fun (_ : Unit) => some (.int (-1))) (fun (_ : Unit) => [(T 0, .inr (3, tO T h (nI wk) (nI dy) (nI b) fl tw)), (T 2, .inl (t 4, 16, .inr (.inr (.inr (.inr sa)))))]) 0 0 := ct_ofI (by decide) rfl (Nat.le_of_ble_eq_true rfl) rfl (fun p e s m below meth c A ls Q C ret hl hP hD hS => b_X3_coinByteN T h wk dy b fl tw p0 p1 p2 sa sg hb16 hsa9 hbad C ret hl hP hD hS)
def r_X3_letterByteN : Room := { frames := 2, cells := 0, slots := 0, locals := 43 }
section
variable {p : Program} {l : Launch} {e : Env} {s : State} {m : MethodId} {args : Array Value} {below : List Frame} {meth : Method} {c : Code} {Q : State → Prop} {D : va_G} {t : Nat → ClassId} {x : Nat → Nat} {A : Nat → Prop}
set_option maxHeartbeats 1000000 in
set_option maxRecDepth 100000 in
theorem b_X3_letterByteN (T : Nat → Nat) (h : Nat → Nat) (wk : Nat) (dy : Nat) (b : Nat) (fl : Int64) (tw : Int64) (p0 : Int32) (p1 : Int32) (sa : Nat → Option Nat) (sg : Nat → Nat → Nat) (hb16 : b ≤ 16) (hsa9 : ∀ j, j < b → sa j = some (sg j 0)) (hbad : wi p0 (nI 0) (nI b - nI 1) = false) {H : Heap} {locs : List Loc} {ls : Array Slot} (C : Cx p s m args c cX3_letterByte 4 RX3 D t x A) (ret : RtI p l e r_X3_letterByteN s m args below meth c Q D A cX3_letterByte (Unit) (fun (_ : Unit) => True) (fun (_ : Unit) => some (.int (-1))) (fun (_ : Unit) => [(T 0, .inr (3, tO T h (nI wk) (nI dy) (nI b) fl tw)), (T 2, .inl (t 4, 16, .inr (.inr (.inr (.inr sa)))))]) 0 0) (hl : lv_has ls 4 [(0, .ref (T 0)), (1, .int p0), (2, .int p1)]) (hP : va_P D vwCl [(T 0, .inr (3, tO T h (nI wk) (nI dy) (nI b) fl tw)), (T 2, .inl (t 4, 16, .inr (.inr (.inr (.inr sa)))))] H) (hD : va_D A [(T 0, .inr (3, tO T h (nI wk) (nI dy) (nI b) fl tw)), (T 2, .inl (t 4, 16, .inr (.inr (.inr (.inr sa)))))]) (hS : va_S A s.heap H locs) : W p l e r_X3_letterByteN s m args below meth c H locs 0 0 Q (F0 m 0 ls []) := by
  obtain ⟨hx, hcb, hml, hown, hts, hK, hA, hX, hN⟩ := id C
  rcases Bool.eq_false_or_eq_true (wi p0 (nI 0) (nI b - nI 1)) with c_1 | c_1
  · skip
    obtain ⟨sc, hsc, rfl⟩ := wi_b hb16 c_1
    refine lv_aload_n hx hcb dX3_letterByte_0 rfl (lv_at hl 0 rfl) ?_
    refine lv_iload_n hx hcb dX3_letterByte_1 rfl (lv_at hl 1 rfl) ?_
    refine ct_callV (As := [.int (nI sc)]) (rest := []) (wr := []) C (c_X3_scrollOf l D t x T h wk dy b fl tw sc sa (sg sc 0) (by omega) (by omega) (hsa9 sc hsc)) (cwV 1 hts (gt_app (by simpa using ⟨wm_X3_97, wi_yX3_scrollOf, wv_X3_scrollOf, wz_X3⟩) (gt_code wc_X3_scrollOf)) rfl rfl rfl (by decide +kernel) ⟨Nat.le_of_ble_eq_true rfl, Nat.le_of_ble_eq_true rfl⟩) rfl rfl (q0 := 0) rfl hP hD hS [0, 1] [] rfl (by decide) rfl (by decide) (by decide) rfl hl.1 rfl (Nat.le_of_ble_eq_true rfl) dX3_letterByte_2 ⟨Nat.le_of_ble_eq_true rfl, Nat.le_of_ble_eq_true rfl⟩ (fun u H locs hw_2 hP hD hS => ?_)
    have hP : va_P D vwCl [(T 0, .inr (3, tO T h (nI wk) (nI dy) (nI b) fl tw)), (T 2, .inl (t 4, 16, .inr (.inr (.inr (.inr sa)))))] H := hP
    have hD : va_D A [(T 0, .inr (3, tO T h (nI wk) (nI dy) (nI b) fl tw)), (T 2, .inl (t 4, 16, .inr (.inr (.inr (.inr sa)))))] := hD
    refine W.eq (g2 := F0 m 5 ls [.ref (sg sc 0)]) rfl ?_
    refine lv_astore_n (lv' := [(3, .ref (sg sc 0)), (0, .ref (T 0)), (1, .int (nI sc)), (2, .int p1)]) hx hcb dX3_letterByte_5 rfl hl (by decide) rfl (fun ls hl => ?_)
    refine lv_aload_n hx hcb dX3_letterByte_6 rfl (lv_at hl 0 rfl) ?_
    refine lv_ifnull hx hcb dX3_letterByte_7 ?_
    simp [c_1] at hbad
  · skip
    refine lv_aload_n hx hcb dX3_letterByte_0 rfl (lv_at hl 0 rfl) ?_
    refine lv_iload_n hx hcb dX3_letterByte_1 rfl (lv_at hl 1 rfl) ?_
    refine ct_callV (As := [.int p0]) (rest := []) (wr := [(T 2, .inl (t 4, 16, .inr (.inr (.inr (.inr sa)))))]) C (c_X3_scrollOfN l D t x T h wk dy b fl tw p0 c_1) (cwV 1 hts (gt_app (by simpa using ⟨wm_X3_97, wi_yX3_scrollOf, wv_X3_scrollOf, wz_X3⟩) (gt_code wc_X3_scrollOf)) rfl rfl rfl (by decide +kernel) ⟨Nat.le_of_ble_eq_true rfl, Nat.le_of_ble_eq_true rfl⟩) rfl rfl (q0 := 0) rfl hP hD hS [0] [1] rfl (by decide) rfl (by decide) (by decide) rfl hl.1 rfl (Nat.le_of_ble_eq_true rfl) dX3_letterByte_2 ⟨Nat.le_of_ble_eq_true rfl, Nat.le_of_ble_eq_true rfl⟩ (fun u H locs hw_3 hP hD hS => ?_)
    have hP : va_P D vwCl [(T 2, .inl (t 4, 16, .inr (.inr (.inr (.inr sa))))), (T 0, .inr (3, tO T h (nI wk) (nI dy) (nI b) fl tw))] H := hP
    have hD : va_D A [(T 2, .inl (t 4, 16, .inr (.inr (.inr (.inr sa))))), (T 0, .inr (3, tO T h (nI wk) (nI dy) (nI b) fl tw))] := hD
    refine W.eq (g2 := F0 m 5 ls [.null]) rfl ?_
    refine lv_astore_nN (lv' := [(3, .null), (0, .ref (T 0)), (1, .int p0), (2, .int p1)]) hx hcb dX3_letterByte_5 rfl hl (by decide) rfl (fun ls hl => ?_)
    refine lv_aload_nN hx hcb dX3_letterByte_6 rfl (lv_at hl 0 rfl) ?_
    refine lv_ifnullN (tgt := 21) hx hcb dX3_letterByte_7 (by decide) ?_
    refine lv_iconst (v := (-1)) hx hcb dX3_letterByte_21 (by decide) ?_
    have hP9 := hP.sub (ws' := [(T 0, .inr (3, tO T h (nI wk) (nI dy) (nI b) fl tw)), (T 2, .inl (t 4, 16, .inr (.inr (.inr (.inr sa)))))]) [1, 0] rfl
    have hD9 := hD.sub (ws' := [(T 0, .inr (3, tO T h (nI wk) (nI dy) (nI b) fl tw)), (T 2, .inl (t 4, 16, .inr (.inr (.inr (.inr sa)))))]) [1, 0] (by decide) rfl
    exact ret () _ _ _ _ _ rfl dX3_letterByte_22 trivial hP9 hD9 hS
end
set_option maxHeartbeats 1000000 in
set_option maxRecDepth 100000 in
/-- letterByte(..), refused -/
theorem c_X3_letterByteN (l : Launch) (D : va_G) (t : Nat → ClassId) (x : Nat → Nat) (T : Nat → Nat) (h : Nat → Nat) (wk : Nat) (dy : Nat) (b : Nat) (fl : Int64) (tw : Int64) (p0 : Int32) (p1 : Int32) (sa : Nat → Option Nat) (sg : Nat → Nat → Nat) (hb16 : b ≤ 16) (hsa9 : ∀ j, j < b → sa j = some (sg j 0)) (hbad : wi p0 (nI 0) (nI b - nI 1) = false) : Ct l D t x yX3_letterByte wsX3_letterByte r_X3_letterByteN [.ref (T 0), .int p0, .int p1] [(T 0, .inr (3, tO T h (nI wk) (nI dy) (nI b) fl tw)), (T 2, .inl (t 4, 16, .inr (.inr (.inr (.inr sa)))))] (Unit) (fun (_ : Unit) => True) (fun (_ : Unit) => some (.int (-1))) (fun (_ : Unit) => [(T 0, .inr (3, tO T h (nI wk) (nI dy) (nI b) fl tw)), (T 2, .inl (t 4, 16, .inr (.inr (.inr (.inr sa)))))]) 0 0 := ct_ofI (by decide) rfl (Nat.le_of_ble_eq_true rfl) rfl (fun p e s m below meth c A ls Q C ret hl hP hD hS => b_X3_letterByteN T h wk dy b fl tw p0 p1 sa sg hb16 hsa9 hbad C ret hl hP hD hS)
def r_X3_powerCutN : Room := { frames := 2, cells := 0, slots := 0, locals := 43 }
section
variable {p : Program} {l : Launch} {e : Env} {s : State} {m : MethodId} {args : Array Value} {below : List Frame} {meth : Method} {c : Code} {Q : State → Prop} {D : va_G} {t : Nat → ClassId} {x : Nat → Nat} {A : Nat → Prop}
set_option maxHeartbeats 1000000 in
set_option maxRecDepth 100000 in
theorem b_X3_powerCutN (T : Nat → Nat) (h : Nat → Nat) (wk : Nat) (dy : Nat) (b : Nat) (fl : Int64) (tw : Int64) (p0 : Int32) (p1 : Int32) (ma : Nat → Option Nat) (mq : Nat → Nat → Nat) (hma9 : ∀ j, j < 8 → ma j = some (mq j 0)) (hbad : wi p0 (nI 0) (nI 7) = false) {H : Heap} {locs : List Loc} {ls : Array Slot} (C : Cx p s m args c cX3_powerCut 4 RX3 D t x A) (ret : RtZ p l e r_X3_powerCutN s m args below meth c Q D A cX3_powerCut (Unit) (fun (_ : Unit) => True) (fun (_ : Unit) => some (.int (bI false))) (fun (_ : Unit) => [(T 0, .inr (3, tO T h (nI wk) (nI dy) (nI b) fl tw)), (T 3, .inl (t 5, 8, .inr (.inr (.inr (.inr ma)))))]) 0 0) (hl : lv_has ls 4 [(0, .ref (T 0)), (1, .int p0), (2, .int p1)]) (hP : va_P D vwCl [(T 0, .inr (3, tO T h (nI wk) (nI dy) (nI b) fl tw)), (T 3, .inl (t 5, 8, .inr (.inr (.inr (.inr ma)))))] H) (hD : va_D A [(T 0, .inr (3, tO T h (nI wk) (nI dy) (nI b) fl tw)), (T 3, .inl (t 5, 8, .inr (.inr (.inr (.inr ma)))))]) (hS : va_S A s.heap H locs) : W p l e r_X3_powerCutN s m args below meth c H locs 0 0 Q (F0 m 0 ls []) := by
  obtain ⟨hx, hcb, hml, hown, hts, hK, hA, hX, hN⟩ := id C
  rcases Bool.eq_false_or_eq_true (wi p0 (nI 0) (nI 7)) with c_1 | c_1
  · skip
    obtain ⟨mt, -, hmt, rfl⟩ := wi_nat (by decide) (by decide) c_1
    refine lv_aload_n hx hcb dX3_powerCut_0 rfl (lv_at hl 0 rfl) ?_
    refine lv_iload_n hx hcb dX3_powerCut_1 rfl (lv_at hl 1 rfl) ?_
    refine ct_callV (As := [.int (nI mt)]) (rest := []) (wr := []) C (c_X3_meterOf l D t x T h wk dy b fl tw mt ma (mq mt 0) (by omega) (hma9 mt (by omega))) (cwV 1 hts (gt_app (by simpa using ⟨wm_X3_101, wi_yX3_meterOf, wv_X3_meterOf, wz_X3⟩) (gt_code wc_X3_meterOf)) rfl rfl rfl (by decide +kernel) ⟨Nat.le_of_ble_eq_true rfl, Nat.le_of_ble_eq_true rfl⟩) rfl rfl (q0 := 0) rfl hP hD hS [0, 1] [] rfl (by decide) rfl (by decide) (by decide) rfl hl.1 rfl (Nat.le_of_ble_eq_true rfl) dX3_powerCut_2 ⟨Nat.le_of_ble_eq_true rfl, Nat.le_of_ble_eq_true rfl⟩ (fun u H locs hw_2 hP hD hS => ?_)
    have hP : va_P D vwCl [(T 0, .inr (3, tO T h (nI wk) (nI dy) (nI b) fl tw)), (T 3, .inl (t 5, 8, .inr (.inr (.inr (.inr ma)))))] H := hP
    have hD : va_D A [(T 0, .inr (3, tO T h (nI wk) (nI dy) (nI b) fl tw)), (T 3, .inl (t 5, 8, .inr (.inr (.inr (.inr ma)))))] := hD
    refine W.eq (g2 := F0 m 5 ls [.ref (mq mt 0)]) rfl ?_
    refine lv_astore_n (lv' := [(3, .ref (mq mt 0)), (0, .ref (T 0)), (1, .int (nI mt)), (2, .int p1)]) hx hcb dX3_powerCut_5 rfl hl (by decide) rfl (fun ls hl => ?_)
    refine lv_aload_n hx hcb dX3_powerCut_6 rfl (lv_at hl 0 rfl) ?_
    refine lv_ifnull hx hcb dX3_powerCut_7 ?_
    simp [c_1] at hbad
  · skip
    refine lv_aload_n hx hcb dX3_powerCut_0 rfl (lv_at hl 0 rfl) ?_
    refine lv_iload_n hx hcb dX3_powerCut_1 rfl (lv_at hl 1 rfl) ?_
    refine ct_callV (As := [.int p0]) (rest := []) (wr := [(T 3, .inl (t 5, 8, .inr (.inr (.inr (.inr ma)))))]) C (c_X3_meterOfN l D t x T h wk dy b fl tw p0 c_1) (cwV 1 hts (gt_app (by simpa using ⟨wm_X3_101, wi_yX3_meterOf, wv_X3_meterOf, wz_X3⟩) (gt_code wc_X3_meterOf)) rfl rfl rfl (by decide +kernel) ⟨Nat.le_of_ble_eq_true rfl, Nat.le_of_ble_eq_true rfl⟩) rfl rfl (q0 := 0) rfl hP hD hS [0] [1] rfl (by decide) rfl (by decide) (by decide) rfl hl.1 rfl (Nat.le_of_ble_eq_true rfl) dX3_powerCut_2 ⟨Nat.le_of_ble_eq_true rfl, Nat.le_of_ble_eq_true rfl⟩ (fun u H locs hw_3 hP hD hS => ?_)
    have hP : va_P D vwCl [(T 3, .inl (t 5, 8, .inr (.inr (.inr (.inr ma))))), (T 0, .inr (3, tO T h (nI wk) (nI dy) (nI b) fl tw))] H := hP
    have hD : va_D A [(T 3, .inl (t 5, 8, .inr (.inr (.inr (.inr ma))))), (T 0, .inr (3, tO T h (nI wk) (nI dy) (nI b) fl tw))] := hD
    refine W.eq (g2 := F0 m 5 ls [.null]) rfl ?_
    refine lv_astore_nN (lv' := [(3, .null), (0, .ref (T 0)), (1, .int p0), (2, .int p1)]) hx hcb dX3_powerCut_5 rfl hl (by decide) rfl (fun ls hl => ?_)
    refine lv_aload_nN hx hcb dX3_powerCut_6 rfl (lv_at hl 0 rfl) ?_
    refine lv_ifnullN (tgt := 19) hx hcb dX3_powerCut_7 (by decide) ?_
    refine lv_iconst (v := nI 0) hx hcb dX3_powerCut_19 (by decide) ?_
    have hP9 := hP.sub (ws' := [(T 0, .inr (3, tO T h (nI wk) (nI dy) (nI b) fl tw)), (T 3, .inl (t 5, 8, .inr (.inr (.inr (.inr ma)))))]) [1, 0] rfl
    have hD9 := hD.sub (ws' := [(T 0, .inr (3, tO T h (nI wk) (nI dy) (nI b) fl tw)), (T 3, .inl (t 5, 8, .inr (.inr (.inr (.inr ma)))))]) [1, 0] (by decide) rfl
    exact ret () _ false _ _ _ _ rfl rfl dX3_powerCut_20 trivial hP9 hD9 hS
end
set_option maxHeartbeats 1000000 in
set_option maxRecDepth 100000 in
/-- powerCut(..), refused -/
theorem c_X3_powerCutN (l : Launch) (D : va_G) (t : Nat → ClassId) (x : Nat → Nat) (T : Nat → Nat) (h : Nat → Nat) (wk : Nat) (dy : Nat) (b : Nat) (fl : Int64) (tw : Int64) (p0 : Int32) (p1 : Int32) (ma : Nat → Option Nat) (mq : Nat → Nat → Nat) (hma9 : ∀ j, j < 8 → ma j = some (mq j 0)) (hbad : wi p0 (nI 0) (nI 7) = false) : Ct l D t x yX3_powerCut wsX3_powerCut r_X3_powerCutN [.ref (T 0), .int p0, .int p1] [(T 0, .inr (3, tO T h (nI wk) (nI dy) (nI b) fl tw)), (T 3, .inl (t 5, 8, .inr (.inr (.inr (.inr ma)))))] (Unit) (fun (_ : Unit) => True) (fun (_ : Unit) => some (.int (bI false))) (fun (_ : Unit) => [(T 0, .inr (3, tO T h (nI wk) (nI dy) (nI b) fl tw)), (T 3, .inl (t 5, 8, .inr (.inr (.inr (.inr ma)))))]) 0 0 := ct_ofZ (by decide) rfl (Nat.le_of_ble_eq_true rfl) rfl (fun p e s m below meth c A ls Q C ret hl hP hD hS => b_X3_powerCutN T h wk dy b fl tw p0 p1 ma mq hma9 hbad C ret hl hP hD hS)
def r_X3_spentN : Room := { frames := 2, cells := 0, slots := 0, locals := 43 }
section
variable {p : Program} {l : Launch} {e : Env} {s : State} {m : MethodId} {args : Array Value} {below : List Frame} {meth : Method} {c : Code} {Q : State → Prop} {D : va_G} {t : Nat → ClassId} {x : Nat → Nat} {A : Nat → Prop}
set_option maxHeartbeats 1000000 in
set_option maxRecDepth 100000 in
theorem b_X3_spentN (T : Nat → Nat) (h : Nat → Nat) (wk : Nat) (dy : Nat) (b : Nat) (fl : Int64) (tw : Int64) (p0 : Int32) (p1 : Int32) (sa : Nat → Option Nat) (sg : Nat → Nat → Nat) (ma : Nat → Option Nat) (mq : Nat → Nat → Nat) (hb16 : b ≤ 16) (hsa9 : ∀ j, j < b → sa j = some (sg j 0)) (hma9 : ∀ j, j < 8 → ma j = some (mq j 0)) (hbad : (wi p0 (nI 0) (nI b - nI 1) && wi p1 (nI 0) (nI 7)) = false) {H : Heap} {locs : List Loc} {ls : Array Slot} (C : Cx p s m args c cX3_spent 5 RX3 D t x A) (ret : RtI p l e r_X3_spentN s m args below meth c Q D A cX3_spent (Unit) (fun (_ : Unit) => True) (fun (_ : Unit) => some (.int (-1))) (fun (_ : Unit) => [(T 0, .inr (3, tO T h (nI wk) (nI dy) (nI b) fl tw)), (T 2, .inl (t 4, 16, .inr (.inr (.inr (.inr sa))))), (T 3, .inl (t 5, 8, .inr (.inr (.inr (.inr ma)))))]) 0 0) (hl : lv_has ls 5 [(0, .ref (T 0)), (1, .int p0), (2, .int p1)]) (hP : va_P D vwCl [(T 0, .inr (3, tO T h (nI wk) (nI dy) (nI b) fl tw)), (T 2, .inl (t 4, 16, .inr (.inr (.inr (.inr sa))))), (T 3, .inl (t 5, 8, .inr (.inr (.inr (.inr ma)))))] H) (hD : va_D A [(T 0, .inr (3, tO T h (nI wk) (nI dy) (nI b) fl tw)), (T 2, .inl (t 4, 16, .inr (.inr (.inr (.inr sa))))), (T 3, .inl (t 5, 8, .inr (.inr (.inr (.inr ma)))))]) (hS : va_S A s.heap H locs) : W p l e r_X3_spentN s m args below meth c H locs 0 0 Q (F0 m 0 ls []) := by
  obtain ⟨hx, hcb, hml, hown, hts, hK, hA, hX, hN⟩ := id C
  rcases Bool.eq_false_or_eq_true (wi p0 (nI 0) (nI b - nI 1)) with c_1 | c_1
  · skip
    obtain ⟨sc, hsc, rfl⟩ := wi_b hb16 c_1
    refine lv_aload_n hx hcb dX3_spent_0 rfl (lv_at hl 0 rfl) ?_
    refine lv_iload_n hx hcb dX3_spent_1 rfl (lv_at hl 1 rfl) ?_
    refine ct_callV (As := [.int (nI sc)]) (rest := []) (wr := [(T 3, .inl (t 5, 8, .inr (.inr (.inr (.inr ma)))))]) C (c_X3_scrollOf l D t x T h wk dy b fl tw sc sa (sg sc 0) (by omega) (by omega) (hsa9 sc hsc)) (cwV 1 hts (gt_app (by simpa using ⟨wm_X3_97, wi_yX3_scrollOf, wv_X3_scrollOf, wz_X3⟩) (gt_code wc_X3_scrollOf)) rfl rfl rfl (by decide +kernel) ⟨Nat.le_of_ble_eq_true rfl, Nat.le_of_ble_eq_true rfl⟩) rfl rfl (q0 := 0) rfl hP hD hS [0, 1] [2] rfl (by decide) rfl (by decide) (by decide) rfl hl.1 rfl (Nat.le_of_ble_eq_true rfl) dX3_spent_2 ⟨Nat.le_of_ble_eq_true rfl, Nat.le_of_ble_eq_true rfl⟩ (fun u H locs hw_2 hP hD hS => ?_)
    have hP : va_P D vwCl [(T 3, .inl (t 5, 8, .inr (.inr (.inr (.inr ma))))), (T 0, .inr (3, tO T h (nI wk) (nI dy) (nI b) fl tw)), (T 2, .inl (t 4, 16, .inr (.inr (.inr (.inr sa)))))] H := hP
    have hD : va_D A [(T 3, .inl (t 5, 8, .inr (.inr (.inr (.inr ma))))), (T 0, .inr (3, tO T h (nI wk) (nI dy) (nI b) fl tw)), (T 2, .inl (t 4, 16, .inr (.inr (.inr (.inr sa)))))] := hD
    refine W.eq (g2 := F0 m 5 ls [.ref (sg sc 0)]) rfl ?_
    refine lv_astore_n (lv' := [(3, .ref (sg sc 0)), (0, .ref (T 0)), (1, .int (nI sc)), (2, .int p1)]) hx hcb dX3_spent_5 rfl hl (by decide) rfl (fun ls hl => ?_)
    rcases Bool.eq_false_or_eq_true (wi p1 (nI 0) (nI 7)) with c_3 | c_3
    · skip
      obtain ⟨mt, -, hmt, rfl⟩ := wi_nat (by decide) (by decide) c_3
      refine lv_aload_n hx hcb dX3_spent_6 rfl (lv_at hl 1 rfl) ?_
      refine lv_iload_n hx hcb dX3_spent_7 rfl (lv_at hl 3 rfl) ?_
      refine ct_callV (As := [.int (nI mt)]) (rest := []) (wr := [(T 2, .inl (t 4, 16, .inr (.inr (.inr (.inr sa)))))]) C (c_X3_meterOf l D t x T h wk dy b fl tw mt ma (mq mt 0) (by omega) (hma9 mt (by omega))) (cwV 1 hts (gt_app (by simpa using ⟨wm_X3_101, wi_yX3_meterOf, wv_X3_meterOf, wz_X3⟩) (gt_code wc_X3_meterOf)) rfl rfl rfl (by decide +kernel) ⟨Nat.le_of_ble_eq_true rfl, Nat.le_of_ble_eq_true rfl⟩) rfl rfl (q0 := 1) rfl hP hD hS [1, 0] [2] rfl (by decide) rfl (by decide) (by decide) rfl hl.1 rfl (Nat.le_of_ble_eq_true rfl) dX3_spent_8 ⟨Nat.le_of_ble_eq_true rfl, Nat.le_of_ble_eq_true rfl⟩ (fun u H locs hw_4 hP hD hS => ?_)
      have hP : va_P D vwCl [(T 2, .inl (t 4, 16, .inr (.inr (.inr (.inr sa))))), (T 0, .inr (3, tO T h (nI wk) (nI dy) (nI b) fl tw)), (T 3, .inl (t 5, 8, .inr (.inr (.inr (.inr ma)))))] H := hP
      have hD : va_D A [(T 2, .inl (t 4, 16, .inr (.inr (.inr (.inr sa))))), (T 0, .inr (3, tO T h (nI wk) (nI dy) (nI b) fl tw)), (T 3, .inl (t 5, 8, .inr (.inr (.inr (.inr ma)))))] := hD
      refine W.eq (g2 := F0 m 11 ls [.ref (mq mt 0)]) rfl ?_
      refine lv_astore (lv' := [(4, .ref (mq mt 0)), (3, .ref (sg sc 0)), (0, .ref (T 0)), (1, .int (nI sc)), (2, .int (nI mt))]) hx hcb dX3_spent_11 hl (by decide) rfl (fun ls hl => ?_)
      refine lv_aload_n hx hcb dX3_spent_13 rfl (lv_at hl 1 rfl) ?_
      refine lv_ifnull hx hcb dX3_spent_14 ?_
      refine lv_aload hx hcb dX3_spent_17 (lv_at hl 0 rfl) ?_
      refine lv_ifnull hx hcb dX3_spent_19 ?_
      simp [c_1, c_3] at hbad
    · skip
      refine lv_aload_n hx hcb dX3_spent_6 rfl (lv_at hl 1 rfl) ?_
      refine lv_iload_n hx hcb dX3_spent_7 rfl (lv_at hl 3 rfl) ?_
      refine ct_callV (As := [.int p1]) (rest := []) (wr := [(T 3, .inl (t 5, 8, .inr (.inr (.inr (.inr ma))))), (T 2, .inl (t 4, 16, .inr (.inr (.inr (.inr sa)))))]) C (c_X3_meterOfN l D t x T h wk dy b fl tw p1 c_3) (cwV 1 hts (gt_app (by simpa using ⟨wm_X3_101, wi_yX3_meterOf, wv_X3_meterOf, wz_X3⟩) (gt_code wc_X3_meterOf)) rfl rfl rfl (by decide +kernel) ⟨Nat.le_of_ble_eq_true rfl, Nat.le_of_ble_eq_true rfl⟩) rfl rfl (q0 := 1) rfl hP hD hS [1] [0, 2] rfl (by decide) rfl (by decide) (by decide) rfl hl.1 rfl (Nat.le_of_ble_eq_true rfl) dX3_spent_8 ⟨Nat.le_of_ble_eq_true rfl, Nat.le_of_ble_eq_true rfl⟩ (fun u H locs hw_5 hP hD hS => ?_)
      have hP : va_P D vwCl [(T 3, .inl (t 5, 8, .inr (.inr (.inr (.inr ma))))), (T 2, .inl (t 4, 16, .inr (.inr (.inr (.inr sa))))), (T 0, .inr (3, tO T h (nI wk) (nI dy) (nI b) fl tw))] H := hP
      have hD : va_D A [(T 3, .inl (t 5, 8, .inr (.inr (.inr (.inr ma))))), (T 2, .inl (t 4, 16, .inr (.inr (.inr (.inr sa))))), (T 0, .inr (3, tO T h (nI wk) (nI dy) (nI b) fl tw))] := hD
      refine W.eq (g2 := F0 m 11 ls [.null]) rfl ?_
      refine lv_astoreN (lv' := [(4, .null), (3, .ref (sg sc 0)), (0, .ref (T 0)), (1, .int (nI sc)), (2, .int p1)]) hx hcb dX3_spent_11 hl (by decide) rfl (fun ls hl => ?_)
      refine lv_aload_n hx hcb dX3_spent_13 rfl (lv_at hl 1 rfl) ?_
      refine lv_ifnull hx hcb dX3_spent_14 ?_
      refine lv_aloadN hx hcb dX3_spent_17 (lv_at hl 0 rfl) ?_
      refine lv_ifnullN (tgt := 35) hx hcb dX3_spent_19 (by decide) ?_
      refine lv_iconst (v := (-1)) hx hcb dX3_spent_35 (by decide) ?_
      have hP9 := hP.sub (ws' := [(T 0, .inr (3, tO T h (nI wk) (nI dy) (nI b) fl tw)), (T 2, .inl (t 4, 16, .inr (.inr (.inr (.inr sa))))), (T 3, .inl (t 5, 8, .inr (.inr (.inr (.inr ma)))))]) [2, 1, 0] rfl
      have hD9 := hD.sub (ws' := [(T 0, .inr (3, tO T h (nI wk) (nI dy) (nI b) fl tw)), (T 2, .inl (t 4, 16, .inr (.inr (.inr (.inr sa))))), (T 3, .inl (t 5, 8, .inr (.inr (.inr (.inr ma)))))]) [2, 1, 0] (by decide) rfl
      exact ret () _ _ _ _ _ rfl dX3_spent_36 trivial hP9 hD9 hS
  · skip
    refine lv_aload_n hx hcb dX3_spent_0 rfl (lv_at hl 0 rfl) ?_
    refine lv_iload_n hx hcb dX3_spent_1 rfl (lv_at hl 1 rfl) ?_
    refine ct_callV (As := [.int p0]) (rest := []) (wr := [(T 2, .inl (t 4, 16, .inr (.inr (.inr (.inr sa))))), (T 3, .inl (t 5, 8, .inr (.inr (.inr (.inr ma)))))]) C (c_X3_scrollOfN l D t x T h wk dy b fl tw p0 c_1) (cwV 1 hts (gt_app (by simpa using ⟨wm_X3_97, wi_yX3_scrollOf, wv_X3_scrollOf, wz_X3⟩) (gt_code wc_X3_scrollOf)) rfl rfl rfl (by decide +kernel) ⟨Nat.le_of_ble_eq_true rfl, Nat.le_of_ble_eq_true rfl⟩) rfl rfl (q0 := 0) rfl hP hD hS [0] [1, 2] rfl (by decide) rfl (by decide) (by decide) rfl hl.1 rfl (Nat.le_of_ble_eq_true rfl) dX3_spent_2 ⟨Nat.le_of_ble_eq_true rfl, Nat.le_of_ble_eq_true rfl⟩ (fun u H locs hw_6 hP hD hS => ?_)
    have hP : va_P D vwCl [(T 2, .inl (t 4, 16, .inr (.inr (.inr (.inr sa))))), (T 3, .inl (t 5, 8, .inr (.inr (.inr (.inr ma))))), (T 0, .inr (3, tO T h (nI wk) (nI dy) (nI b) fl tw))] H := hP
    have hD : va_D A [(T 2, .inl (t 4, 16, .inr (.inr (.inr (.inr sa))))), (T 3, .inl (t 5, 8, .inr (.inr (.inr (.inr ma))))), (T 0, .inr (3, tO T h (nI wk) (nI dy) (nI b) fl tw))] := hD
    refine W.eq (g2 := F0 m 5 ls [.null]) rfl ?_
    refine lv_astore_nN (lv' := [(3, .null), (0, .ref (T 0)), (1, .int p0), (2, .int p1)]) hx hcb dX3_spent_5 rfl hl (by decide) rfl (fun ls hl => ?_)
    rcases Bool.eq_false_or_eq_true (wi p1 (nI 0) (nI 7)) with c_7 | c_7
    · skip
      obtain ⟨mt, -, hmt, rfl⟩ := wi_nat (by decide) (by decide) c_7
      refine lv_aload_n hx hcb dX3_spent_6 rfl (lv_at hl 1 rfl) ?_
      refine lv_iload_n hx hcb dX3_spent_7 rfl (lv_at hl 3 rfl) ?_
      refine ct_callV (As := [.int (nI mt)]) (rest := []) (wr := [(T 2, .inl (t 4, 16, .inr (.inr (.inr (.inr sa)))))]) C (c_X3_meterOf l D t x T h wk dy b fl tw mt ma (mq mt 0) (by omega) (hma9 mt (by omega))) (cwV 1 hts (gt_app (by simpa using ⟨wm_X3_101, wi_yX3_meterOf, wv_X3_meterOf, wz_X3⟩) (gt_code wc_X3_meterOf)) rfl rfl rfl (by decide +kernel) ⟨Nat.le_of_ble_eq_true rfl, Nat.le_of_ble_eq_true rfl⟩) rfl rfl (q0 := 2) rfl hP hD hS [2, 1] [0] rfl (by decide) rfl (by decide) (by decide) rfl hl.1 rfl (Nat.le_of_ble_eq_true rfl) dX3_spent_8 ⟨Nat.le_of_ble_eq_true rfl, Nat.le_of_ble_eq_true rfl⟩ (fun u H locs hw_8 hP hD hS => ?_)
      have hP : va_P D vwCl [(T 2, .inl (t 4, 16, .inr (.inr (.inr (.inr sa))))), (T 0, .inr (3, tO T h (nI wk) (nI dy) (nI b) fl tw)), (T 3, .inl (t 5, 8, .inr (.inr (.inr (.inr ma)))))] H := hP
      have hD : va_D A [(T 2, .inl (t 4, 16, .inr (.inr (.inr (.inr sa))))), (T 0, .inr (3, tO T h (nI wk) (nI dy) (nI b) fl tw)), (T 3, .inl (t 5, 8, .inr (.inr (.inr (.inr ma)))))] := hD
      refine W.eq (g2 := F0 m 11 ls [.ref (mq mt 0)]) rfl ?_
      refine lv_astore (lv' := [(4, .ref (mq mt 0)), (3, .null), (0, .ref (T 0)), (1, .int p0), (2, .int (nI mt))]) hx hcb dX3_spent_11 hl (by decide) rfl (fun ls hl => ?_)
      refine lv_aload_nN hx hcb dX3_spent_13 rfl (lv_at hl 1 rfl) ?_
      refine lv_ifnullN (tgt := 35) hx hcb dX3_spent_14 (by decide) ?_
      refine lv_iconst (v := (-1)) hx hcb dX3_spent_35 (by decide) ?_
      have hP9 := hP.sub (ws' := [(T 0, .inr (3, tO T h (nI wk) (nI dy) (nI b) fl tw)), (T 2, .inl (t 4, 16, .inr (.inr (.inr (.inr sa))))), (T 3, .inl (t 5, 8, .inr (.inr (.inr (.inr ma)))))]) [1, 0, 2] rfl
      have hD9 := hD.sub (ws' := [(T 0, .inr (3, tO T h (nI wk) (nI dy) (nI b) fl tw)), (T 2, .inl (t 4, 16, .inr (.inr (.inr (.inr sa))))), (T 3, .inl (t 5, 8, .inr (.inr (.inr (.inr ma)))))]) [1, 0, 2] (by decide) rfl
      exact ret () _ _ _ _ _ rfl dX3_spent_36 trivial hP9 hD9 hS
    · skip
      refine lv_aload_n hx hcb dX3_spent_6 rfl (lv_at hl 1 rfl) ?_
      refine lv_iload_n hx hcb dX3_spent_7 rfl (lv_at hl 3 rfl) ?_
      refine ct_callV (As := [.int p1]) (rest := []) (wr := [(T 2, .inl (t 4, 16, .inr (.inr (.inr (.inr sa))))), (T 3, .inl (t 5, 8, .inr (.inr (.inr (.inr ma)))))]) C (c_X3_meterOfN l D t x T h wk dy b fl tw p1 c_7) (cwV 1 hts (gt_app (by simpa using ⟨wm_X3_101, wi_yX3_meterOf, wv_X3_meterOf, wz_X3⟩) (gt_code wc_X3_meterOf)) rfl rfl rfl (by decide +kernel) ⟨Nat.le_of_ble_eq_true rfl, Nat.le_of_ble_eq_true rfl⟩) rfl rfl (q0 := 2) rfl hP hD hS [2] [0, 1] rfl (by decide) rfl (by decide) (by decide) rfl hl.1 rfl (Nat.le_of_ble_eq_true rfl) dX3_spent_8 ⟨Nat.le_of_ble_eq_true rfl, Nat.le_of_ble_eq_true rfl⟩ (fun u H locs hw_9 hP hD hS => ?_)
      have hP : va_P D vwCl [(T 2, .inl (t 4, 16, .inr (.inr (.inr (.inr sa))))), (T 3, .inl (t 5, 8, .inr (.inr (.inr (.inr ma))))), (T 0, .inr (3, tO T h (nI wk) (nI dy) (nI b) fl tw))] H := hP
      have hD : va_D A [(T 2, .inl (t 4, 16, .inr (.inr (.inr (.inr sa))))), (T 3, .inl (t 5, 8, .inr (.inr (.inr (.inr ma))))), (T 0, .inr (3, tO T h (nI wk) (nI dy) (nI b) fl tw))] := hD
      refine W.eq (g2 := F0 m 11 ls [.null]) rfl ?_
      refine lv_astoreN (lv' := [(4, .null), (3, .null), (0, .ref (T 0)), (1, .int p0), (2, .int p1)]) hx hcb dX3_spent_11 hl (by decide) rfl (fun ls hl => ?_)
      refine lv_aload_nN hx hcb dX3_spent_13 rfl (lv_at hl 1 rfl) ?_
      refine lv_ifnullN (tgt := 35) hx hcb dX3_spent_14 (by decide) ?_
      refine lv_iconst (v := (-1)) hx hcb dX3_spent_35 (by decide) ?_
      have hP9 := hP.sub (ws' := [(T 0, .inr (3, tO T h (nI wk) (nI dy) (nI b) fl tw)), (T 2, .inl (t 4, 16, .inr (.inr (.inr (.inr sa))))), (T 3, .inl (t 5, 8, .inr (.inr (.inr (.inr ma)))))]) [2, 0, 1] rfl
      have hD9 := hD.sub (ws' := [(T 0, .inr (3, tO T h (nI wk) (nI dy) (nI b) fl tw)), (T 2, .inl (t 4, 16, .inr (.inr (.inr (.inr sa))))), (T 3, .inl (t 5, 8, .inr (.inr (.inr (.inr ma)))))]) [2, 0, 1] (by decide) rfl
      exact ret () _ _ _ _ _ rfl dX3_spent_36 trivial hP9 hD9 hS
end
set_option maxHeartbeats 1000000 in
set_option maxRecDepth 100000 in
/-- spent(..), refused -/
theorem c_X3_spentN (l : Launch) (D : va_G) (t : Nat → ClassId) (x : Nat → Nat) (T : Nat → Nat) (h : Nat → Nat) (wk : Nat) (dy : Nat) (b : Nat) (fl : Int64) (tw : Int64) (p0 : Int32) (p1 : Int32) (sa : Nat → Option Nat) (sg : Nat → Nat → Nat) (ma : Nat → Option Nat) (mq : Nat → Nat → Nat) (hb16 : b ≤ 16) (hsa9 : ∀ j, j < b → sa j = some (sg j 0)) (hma9 : ∀ j, j < 8 → ma j = some (mq j 0)) (hbad : (wi p0 (nI 0) (nI b - nI 1) && wi p1 (nI 0) (nI 7)) = false) : Ct l D t x yX3_spent wsX3_spent r_X3_spentN [.ref (T 0), .int p0, .int p1] [(T 0, .inr (3, tO T h (nI wk) (nI dy) (nI b) fl tw)), (T 2, .inl (t 4, 16, .inr (.inr (.inr (.inr sa))))), (T 3, .inl (t 5, 8, .inr (.inr (.inr (.inr ma)))))] (Unit) (fun (_ : Unit) => True) (fun (_ : Unit) => some (.int (-1))) (fun (_ : Unit) => [(T 0, .inr (3, tO T h (nI wk) (nI dy) (nI b) fl tw)), (T 2, .inl (t 4, 16, .inr (.inr (.inr (.inr sa))))), (T 3, .inl (t 5, 8, .inr (.inr (.inr (.inr ma)))))]) 0 0 := ct_ofI (by decide) rfl (Nat.le_of_ble_eq_true rfl) rfl (fun p e s m below meth c A ls Q C ret hl hP hD hS => b_X3_spentN T h wk dy b fl tw p0 p1 sa sg ma mq hb16 hsa9 hma9 hbad C ret hl hP hD hS)
def r_X3_overspentN : Room := { frames := 2, cells := 0, slots := 0, locals := 43 }
section
variable {p : Program} {l : Launch} {e : Env} {s : State} {m : MethodId} {args : Array Value} {below : List Frame} {meth : Method} {c : Code} {Q : State → Prop} {D : va_G} {t : Nat → ClassId} {x : Nat → Nat} {A : Nat → Prop}
set_option maxHeartbeats 1000000 in
set_option maxRecDepth 100000 in
theorem b_X3_overspentN (T : Nat → Nat) (h : Nat → Nat) (wk : Nat) (dy : Nat) (b : Nat) (fl : Int64) (tw : Int64) (p0 : Int32) (sa : Nat → Option Nat) (sg : Nat → Nat → Nat) (hb16 : b ≤ 16) (hsa9 : ∀ j, j < b → sa j = some (sg j 0)) (hbad : wi p0 (nI 0) (nI b - nI 1) = false) {H : Heap} {locs : List Loc} {ls : Array Slot} (C : Cx p s m args c cX3_overspent 3 RX3 D t x A) (ret : RtI p l e r_X3_overspentN s m args below meth c Q D A cX3_overspent (Unit) (fun (_ : Unit) => True) (fun (_ : Unit) => some (.int (-1))) (fun (_ : Unit) => [(T 0, .inr (3, tO T h (nI wk) (nI dy) (nI b) fl tw)), (T 2, .inl (t 4, 16, .inr (.inr (.inr (.inr sa)))))]) 0 0) (hl : lv_has ls 3 [(0, .ref (T 0)), (1, .int p0)]) (hP : va_P D vwCl [(T 0, .inr (3, tO T h (nI wk) (nI dy) (nI b) fl tw)), (T 2, .inl (t 4, 16, .inr (.inr (.inr (.inr sa)))))] H) (hD : va_D A [(T 0, .inr (3, tO T h (nI wk) (nI dy) (nI b) fl tw)), (T 2, .inl (t 4, 16, .inr (.inr (.inr (.inr sa)))))]) (hS : va_S A s.heap H locs) : W p l e r_X3_overspentN s m args below meth c H locs 0 0 Q (F0 m 0 ls []) := by
  obtain ⟨hx, hcb, hml, hown, hts, hK, hA, hX, hN⟩ := id C
  rcases Bool.eq_false_or_eq_true (wi p0 (nI 0) (nI b - nI 1)) with c_1 | c_1
  · skip
    obtain ⟨sc, hsc, rfl⟩ := wi_b hb16 c_1
    refine lv_aload_n hx hcb dX3_overspent_0 rfl (lv_at hl 0 rfl) ?_
    refine lv_iload_n hx hcb dX3_overspent_1 rfl (lv_at hl 1 rfl) ?_
    refine ct_callV (As := [.int (nI sc)]) (rest := []) (wr := []) C (c_X3_scrollOf l D t x T h wk dy b fl tw sc sa (sg sc 0) (by omega) (by omega) (hsa9 sc hsc)) (cwV 1 hts (gt_app (by simpa using ⟨wm_X3_97, wi_yX3_scrollOf, wv_X3_scrollOf, wz_X3⟩) (gt_code wc_X3_scrollOf)) rfl rfl rfl (by decide +kernel) ⟨Nat.le_of_ble_eq_true rfl, Nat.le_of_ble_eq_true rfl⟩) rfl rfl (q0 := 0) rfl hP hD hS [0, 1] [] rfl (by decide) rfl (by decide) (by decide) rfl hl.1 rfl (Nat.le_of_ble_eq_true rfl) dX3_overspent_2 ⟨Nat.le_of_ble_eq_true rfl, Nat.le_of_ble_eq_true rfl⟩ (fun u H locs hw_2 hP hD hS => ?_)
    have hP : va_P D vwCl [(T 0, .inr (3, tO T h (nI wk) (nI dy) (nI b) fl tw)), (T 2, .inl (t 4, 16, .inr (.inr (.inr (.inr sa)))))] H := hP
    have hD : va_D A [(T 0, .inr (3, tO T h (nI wk) (nI dy) (nI b) fl tw)), (T 2, .inl (t 4, 16, .inr (.inr (.inr (.inr sa)))))] := hD
    refine W.eq (g2 := F0 m 5 ls [.ref (sg sc 0)]) rfl ?_
    refine lv_astore_n (lv' := [(2, .ref (sg sc 0)), (0, .ref (T 0)), (1, .int (nI sc))]) hx hcb dX3_overspent_5 rfl hl (by decide) rfl (fun ls hl => ?_)
    refine lv_aload_n hx hcb dX3_overspent_6 rfl (lv_at hl 0 rfl) ?_
    refine lv_ifnonnull (tgt := 14) hx hcb dX3_overspent_7 (by decide) ?_
    simp [c_1] at hbad
  · skip
    refine lv_aload_n hx hcb dX3_overspent_0 rfl (lv_at hl 0 rfl) ?_
    refine lv_iload_n hx hcb dX3_overspent_1 rfl (lv_at hl 1 rfl) ?_
    refine ct_callV (As := [.int p0]) (rest := []) (wr := [(T 2, .inl (t 4, 16, .inr (.inr (.inr (.inr sa)))))]) C (c_X3_scrollOfN l D t x T h wk dy b fl tw p0 c_1) (cwV 1 hts (gt_app (by simpa using ⟨wm_X3_97, wi_yX3_scrollOf, wv_X3_scrollOf, wz_X3⟩) (gt_code wc_X3_scrollOf)) rfl rfl rfl (by decide +kernel) ⟨Nat.le_of_ble_eq_true rfl, Nat.le_of_ble_eq_true rfl⟩) rfl rfl (q0 := 0) rfl hP hD hS [0] [1] rfl (by decide) rfl (by decide) (by decide) rfl hl.1 rfl (Nat.le_of_ble_eq_true rfl) dX3_overspent_2 ⟨Nat.le_of_ble_eq_true rfl, Nat.le_of_ble_eq_true rfl⟩ (fun u H locs hw_3 hP hD hS => ?_)
    have hP : va_P D vwCl [(T 2, .inl (t 4, 16, .inr (.inr (.inr (.inr sa))))), (T 0, .inr (3, tO T h (nI wk) (nI dy) (nI b) fl tw))] H := hP
    have hD : va_D A [(T 2, .inl (t 4, 16, .inr (.inr (.inr (.inr sa))))), (T 0, .inr (3, tO T h (nI wk) (nI dy) (nI b) fl tw))] := hD
    refine W.eq (g2 := F0 m 5 ls [.null]) rfl ?_
    refine lv_astore_nN (lv' := [(2, .null), (0, .ref (T 0)), (1, .int p0)]) hx hcb dX3_overspent_5 rfl hl (by decide) rfl (fun ls hl => ?_)
    refine lv_aload_nN hx hcb dX3_overspent_6 rfl (lv_at hl 0 rfl) ?_
    refine lv_ifnonnullN hx hcb dX3_overspent_7 ?_
    refine lv_iconst (v := (-1)) hx hcb dX3_overspent_10 (by decide) ?_
    refine lv_goto (tgt := 18) hx hcb dX3_overspent_11 (by decide) ?_
    have hP9 := hP.sub (ws' := [(T 0, .inr (3, tO T h (nI wk) (nI dy) (nI b) fl tw)), (T 2, .inl (t 4, 16, .inr (.inr (.inr (.inr sa)))))]) [1, 0] rfl
    have hD9 := hD.sub (ws' := [(T 0, .inr (3, tO T h (nI wk) (nI dy) (nI b) fl tw)), (T 2, .inl (t 4, 16, .inr (.inr (.inr (.inr sa)))))]) [1, 0] (by decide) rfl
    exact ret () _ _ _ _ _ rfl dX3_overspent_18 trivial hP9 hD9 hS
end
set_option maxHeartbeats 1000000 in
set_option maxRecDepth 100000 in
/-- overspent(..), refused -/
theorem c_X3_overspentN (l : Launch) (D : va_G) (t : Nat → ClassId) (x : Nat → Nat) (T : Nat → Nat) (h : Nat → Nat) (wk : Nat) (dy : Nat) (b : Nat) (fl : Int64) (tw : Int64) (p0 : Int32) (sa : Nat → Option Nat) (sg : Nat → Nat → Nat) (hb16 : b ≤ 16) (hsa9 : ∀ j, j < b → sa j = some (sg j 0)) (hbad : wi p0 (nI 0) (nI b - nI 1) = false) : Ct l D t x yX3_overspent wsX3_overspent r_X3_overspentN [.ref (T 0), .int p0] [(T 0, .inr (3, tO T h (nI wk) (nI dy) (nI b) fl tw)), (T 2, .inl (t 4, 16, .inr (.inr (.inr (.inr sa)))))] (Unit) (fun (_ : Unit) => True) (fun (_ : Unit) => some (.int (-1))) (fun (_ : Unit) => [(T 0, .inr (3, tO T h (nI wk) (nI dy) (nI b) fl tw)), (T 2, .inl (t 4, 16, .inr (.inr (.inr (.inr sa)))))]) 0 0 := ct_ofI (by decide) rfl (Nat.le_of_ble_eq_true rfl) rfl (fun p e s m below meth c A ls Q C ret hl hP hD hS => b_X3_overspentN T h wk dy b fl tw p0 sa sg hb16 hsa9 hbad C ret hl hP hD hS)
def r_X3_minutesN : Room := { frames := 2, cells := 0, slots := 0, locals := 43 }
section
variable {p : Program} {l : Launch} {e : Env} {s : State} {m : MethodId} {args : Array Value} {below : List Frame} {meth : Method} {c : Code} {Q : State → Prop} {D : va_G} {t : Nat → ClassId} {x : Nat → Nat} {A : Nat → Prop}
set_option maxHeartbeats 1000000 in
set_option maxRecDepth 100000 in
theorem b_X3_minutesN (T : Nat → Nat) (h : Nat → Nat) (wk : Nat) (dy : Nat) (b : Nat) (fl : Int64) (tw : Int64) (p0 : Int32) (p1 : Int32) (ma : Nat → Option Nat) (mq : Nat → Nat → Nat) (hma9 : ∀ j, j < 8 → ma j = some (mq j 0)) (hbad : wi p0 (nI 0) (nI 7) = false) {H : Heap} {locs : List Loc} {ls : Array Slot} (C : Cx p s m args c cX3_minutes 4 RX3 D t x A) (ret : RtI p l e r_X3_minutesN s m args below meth c Q D A cX3_minutes (Unit) (fun (_ : Unit) => True) (fun (_ : Unit) => some (.int (-1))) (fun (_ : Unit) => [(T 0, .inr (3, tO T h (nI wk) (nI dy) (nI b) fl tw)), (T 3, .inl (t 5, 8, .inr (.inr (.inr (.inr ma)))))]) 0 0) (hl : lv_has ls 4 [(0, .ref (T 0)), (1, .int p0), (2, .int p1)]) (hP : va_P D vwCl [(T 0, .inr (3, tO T h (nI wk) (nI dy) (nI b) fl tw)), (T 3, .inl (t 5, 8, .inr (.inr (.inr (.inr ma)))))] H) (hD : va_D A [(T 0, .inr (3, tO T h (nI wk) (nI dy) (nI b) fl tw)), (T 3, .inl (t 5, 8, .inr (.inr (.inr (.inr ma)))))]) (hS : va_S A s.heap H locs) : W p l e r_X3_minutesN s m args below meth c H locs 0 0 Q (F0 m 0 ls []) := by
  obtain ⟨hx, hcb, hml, hown, hts, hK, hA, hX, hN⟩ := id C
  rcases Bool.eq_false_or_eq_true (wi p0 (nI 0) (nI 7)) with c_1 | c_1
  · skip
    obtain ⟨mt, -, hmt, rfl⟩ := wi_nat (by decide) (by decide) c_1
    refine lv_aload_n hx hcb dX3_minutes_0 rfl (lv_at hl 0 rfl) ?_
    refine lv_iload_n hx hcb dX3_minutes_1 rfl (lv_at hl 1 rfl) ?_
    refine ct_callV (As := [.int (nI mt)]) (rest := []) (wr := []) C (c_X3_meterOf l D t x T h wk dy b fl tw mt ma (mq mt 0) (by omega) (hma9 mt (by omega))) (cwV 1 hts (gt_app (by simpa using ⟨wm_X3_101, wi_yX3_meterOf, wv_X3_meterOf, wz_X3⟩) (gt_code wc_X3_meterOf)) rfl rfl rfl (by decide +kernel) ⟨Nat.le_of_ble_eq_true rfl, Nat.le_of_ble_eq_true rfl⟩) rfl rfl (q0 := 0) rfl hP hD hS [0, 1] [] rfl (by decide) rfl (by decide) (by decide) rfl hl.1 rfl (Nat.le_of_ble_eq_true rfl) dX3_minutes_2 ⟨Nat.le_of_ble_eq_true rfl, Nat.le_of_ble_eq_true rfl⟩ (fun u H locs hw_2 hP hD hS => ?_)
    have hP : va_P D vwCl [(T 0, .inr (3, tO T h (nI wk) (nI dy) (nI b) fl tw)), (T 3, .inl (t 5, 8, .inr (.inr (.inr (.inr ma)))))] H := hP
    have hD : va_D A [(T 0, .inr (3, tO T h (nI wk) (nI dy) (nI b) fl tw)), (T 3, .inl (t 5, 8, .inr (.inr (.inr (.inr ma)))))] := hD
    refine W.eq (g2 := F0 m 5 ls [.ref (mq mt 0)]) rfl ?_
    refine lv_astore_n (lv' := [(3, .ref (mq mt 0)), (0, .ref (T 0)), (1, .int (nI mt)), (2, .int p1)]) hx hcb dX3_minutes_5 rfl hl (by decide) rfl (fun ls hl => ?_)
    refine lv_aload_n hx hcb dX3_minutes_6 rfl (lv_at hl 0 rfl) ?_
    refine lv_ifnull hx hcb dX3_minutes_7 ?_
    simp [c_1] at hbad
  · skip
    refine lv_aload_n hx hcb dX3_minutes_0 rfl (lv_at hl 0 rfl) ?_
    refine lv_iload_n hx hcb dX3_minutes_1 rfl (lv_at hl 1 rfl) ?_
    refine ct_callV (As := [.int p0]) (rest := []) (wr := [(T 3, .inl (t 5, 8, .inr (.inr (.inr (.inr ma)))))]) C (c_X3_meterOfN l D t x T h wk dy b fl tw p0 c_1) (cwV 1 hts (gt_app (by simpa using ⟨wm_X3_101, wi_yX3_meterOf, wv_X3_meterOf, wz_X3⟩) (gt_code wc_X3_meterOf)) rfl rfl rfl (by decide +kernel) ⟨Nat.le_of_ble_eq_true rfl, Nat.le_of_ble_eq_true rfl⟩) rfl rfl (q0 := 0) rfl hP hD hS [0] [1] rfl (by decide) rfl (by decide) (by decide) rfl hl.1 rfl (Nat.le_of_ble_eq_true rfl) dX3_minutes_2 ⟨Nat.le_of_ble_eq_true rfl, Nat.le_of_ble_eq_true rfl⟩ (fun u H locs hw_3 hP hD hS => ?_)
    have hP : va_P D vwCl [(T 3, .inl (t 5, 8, .inr (.inr (.inr (.inr ma))))), (T 0, .inr (3, tO T h (nI wk) (nI dy) (nI b) fl tw))] H := hP
    have hD : va_D A [(T 3, .inl (t 5, 8, .inr (.inr (.inr (.inr ma))))), (T 0, .inr (3, tO T h (nI wk) (nI dy) (nI b) fl tw))] := hD
    refine W.eq (g2 := F0 m 5 ls [.null]) rfl ?_
    refine lv_astore_nN (lv' := [(3, .null), (0, .ref (T 0)), (1, .int p0), (2, .int p1)]) hx hcb dX3_minutes_5 rfl hl (by decide) rfl (fun ls hl => ?_)
    refine lv_aload_nN hx hcb dX3_minutes_6 rfl (lv_at hl 0 rfl) ?_
    refine lv_ifnullN (tgt := 17) hx hcb dX3_minutes_7 (by decide) ?_
    refine lv_iconst (v := (-1)) hx hcb dX3_minutes_17 (by decide) ?_
    have hP9 := hP.sub (ws' := [(T 0, .inr (3, tO T h (nI wk) (nI dy) (nI b) fl tw)), (T 3, .inl (t 5, 8, .inr (.inr (.inr (.inr ma)))))]) [1, 0] rfl
    have hD9 := hD.sub (ws' := [(T 0, .inr (3, tO T h (nI wk) (nI dy) (nI b) fl tw)), (T 3, .inl (t 5, 8, .inr (.inr (.inr (.inr ma)))))]) [1, 0] (by decide) rfl
    exact ret () _ _ _ _ _ rfl dX3_minutes_18 trivial hP9 hD9 hS
end
set_option maxHeartbeats 1000000 in
set_option maxRecDepth 100000 in
/-- minutes(..), refused -/
theorem c_X3_minutesN (l : Launch) (D : va_G) (t : Nat → ClassId) (x : Nat → Nat) (T : Nat → Nat) (h : Nat → Nat) (wk : Nat) (dy : Nat) (b : Nat) (fl : Int64) (tw : Int64) (p0 : Int32) (p1 : Int32) (ma : Nat → Option Nat) (mq : Nat → Nat → Nat) (hma9 : ∀ j, j < 8 → ma j = some (mq j 0)) (hbad : wi p0 (nI 0) (nI 7) = false) : Ct l D t x yX3_minutes wsX3_minutes r_X3_minutesN [.ref (T 0), .int p0, .int p1] [(T 0, .inr (3, tO T h (nI wk) (nI dy) (nI b) fl tw)), (T 3, .inl (t 5, 8, .inr (.inr (.inr (.inr ma)))))] (Unit) (fun (_ : Unit) => True) (fun (_ : Unit) => some (.int (-1))) (fun (_ : Unit) => [(T 0, .inr (3, tO T h (nI wk) (nI dy) (nI b) fl tw)), (T 3, .inl (t 5, 8, .inr (.inr (.inr (.inr ma)))))]) 0 0 := ct_ofI (by decide) rfl (Nat.le_of_ble_eq_true rfl) rfl (fun p e s m below meth c A ls Q C ret hl hP hD hS => b_X3_minutesN T h wk dy b fl tw p0 p1 ma mq hma9 hbad C ret hl hP hD hS)
def r_X3_emptyN : Room := { frames := 2, cells := 0, slots := 0, locals := 43 }
section
variable {p : Program} {l : Launch} {e : Env} {s : State} {m : MethodId} {args : Array Value} {below : List Frame} {meth : Method} {c : Code} {Q : State → Prop} {D : va_G} {t : Nat → ClassId} {x : Nat → Nat} {A : Nat → Prop}
set_option maxHeartbeats 1000000 in
set_option maxRecDepth 100000 in
theorem b_X3_emptyN (T : Nat → Nat) (h : Nat → Nat) (wk : Nat) (dy : Nat) (b : Nat) (fl : Int64) (tw : Int64) (p0 : Int32) (ma : Nat → Option Nat) (mq : Nat → Nat → Nat) (hma9 : ∀ j, j < 8 → ma j = some (mq j 0)) (hbad : wi p0 (nI 0) (nI 7) = false) {H : Heap} {locs : List Loc} {ls : Array Slot} (C : Cx p s m args c cX3_empty 5 RX3 D t x A) (ret : RtI p l e r_X3_emptyN s m args below meth c Q D A cX3_empty (Unit) (fun (_ : Unit) => True) (fun (_ : Unit) => some (.int (-1))) (fun (_ : Unit) => [(T 0, .inr (3, tO T h (nI wk) (nI dy) (nI b) fl tw)), (T 3, .inl (t 5, 8, .inr (.inr (.inr (.inr ma)))))]) 0 0) (hl : lv_has ls 5 [(0, .ref (T 0)), (1, .int p0)]) (hP : va_P D vwCl [(T 0, .inr (3, tO T h (nI wk) (nI dy) (nI b) fl tw)), (T 3, .inl (t 5, 8, .inr (.inr (.inr (.inr ma)))))] H) (hD : va_D A [(T 0, .inr (3, tO T h (nI wk) (nI dy) (nI b) fl tw)), (T 3, .inl (t 5, 8, .inr (.inr (.inr (.inr ma)))))]) (hS : va_S A s.heap H locs) : W p l e r_X3_emptyN s m args below meth c H locs 0 0 Q (F0 m 0 ls []) := by
  obtain ⟨hx, hcb, hml, hown, hts, hK, hA, hX, hN⟩ := id C
  rcases Bool.eq_false_or_eq_true (wi p0 (nI 0) (nI 7)) with c_1 | c_1
  · skip
    obtain ⟨mt, -, hmt, rfl⟩ := wi_nat (by decide) (by decide) c_1
    refine lv_aload_n hx hcb dX3_empty_0 rfl (lv_at hl 0 rfl) ?_
    refine lv_iload_n hx hcb dX3_empty_1 rfl (lv_at hl 1 rfl) ?_
    refine ct_callV (As := [.int (nI mt)]) (rest := []) (wr := []) C (c_X3_meterOf l D t x T h wk dy b fl tw mt ma (mq mt 0) (by omega) (hma9 mt (by omega))) (cwV 1 hts (gt_app (by simpa using ⟨wm_X3_101, wi_yX3_meterOf, wv_X3_meterOf, wz_X3⟩) (gt_code wc_X3_meterOf)) rfl rfl rfl (by decide +kernel) ⟨Nat.le_of_ble_eq_true rfl, Nat.le_of_ble_eq_true rfl⟩) rfl rfl (q0 := 0) rfl hP hD hS [0, 1] [] rfl (by decide) rfl (by decide) (by decide) rfl hl.1 rfl (Nat.le_of_ble_eq_true rfl) dX3_empty_2 ⟨Nat.le_of_ble_eq_true rfl, Nat.le_of_ble_eq_true rfl⟩ (fun u H locs hw_2 hP hD hS => ?_)
    have hP : va_P D vwCl [(T 0, .inr (3, tO T h (nI wk) (nI dy) (nI b) fl tw)), (T 3, .inl (t 5, 8, .inr (.inr (.inr (.inr ma)))))] H := hP
    have hD : va_D A [(T 0, .inr (3, tO T h (nI wk) (nI dy) (nI b) fl tw)), (T 3, .inl (t 5, 8, .inr (.inr (.inr (.inr ma)))))] := hD
    refine W.eq (g2 := F0 m 5 ls [.ref (mq mt 0)]) rfl ?_
    refine lv_astore_n (lv' := [(2, .ref (mq mt 0)), (0, .ref (T 0)), (1, .int (nI mt))]) hx hcb dX3_empty_5 rfl hl (by decide) rfl (fun ls hl => ?_)
    refine lv_aload_n hx hcb dX3_empty_6 rfl (lv_at hl 0 rfl) ?_
    refine lv_ifnonnull (tgt := 12) hx hcb dX3_empty_7 (by decide) ?_
    simp [c_1] at hbad
  · skip
    refine lv_aload_n hx hcb dX3_empty_0 rfl (lv_at hl 0 rfl) ?_
    refine lv_iload_n hx hcb dX3_empty_1 rfl (lv_at hl 1 rfl) ?_
    refine ct_callV (As := [.int p0]) (rest := []) (wr := [(T 3, .inl (t 5, 8, .inr (.inr (.inr (.inr ma)))))]) C (c_X3_meterOfN l D t x T h wk dy b fl tw p0 c_1) (cwV 1 hts (gt_app (by simpa using ⟨wm_X3_101, wi_yX3_meterOf, wv_X3_meterOf, wz_X3⟩) (gt_code wc_X3_meterOf)) rfl rfl rfl (by decide +kernel) ⟨Nat.le_of_ble_eq_true rfl, Nat.le_of_ble_eq_true rfl⟩) rfl rfl (q0 := 0) rfl hP hD hS [0] [1] rfl (by decide) rfl (by decide) (by decide) rfl hl.1 rfl (Nat.le_of_ble_eq_true rfl) dX3_empty_2 ⟨Nat.le_of_ble_eq_true rfl, Nat.le_of_ble_eq_true rfl⟩ (fun u H locs hw_3 hP hD hS => ?_)
    have hP : va_P D vwCl [(T 3, .inl (t 5, 8, .inr (.inr (.inr (.inr ma))))), (T 0, .inr (3, tO T h (nI wk) (nI dy) (nI b) fl tw))] H := hP
    have hD : va_D A [(T 3, .inl (t 5, 8, .inr (.inr (.inr (.inr ma))))), (T 0, .inr (3, tO T h (nI wk) (nI dy) (nI b) fl tw))] := hD
    refine W.eq (g2 := F0 m 5 ls [.null]) rfl ?_
    refine lv_astore_nN (lv' := [(2, .null), (0, .ref (T 0)), (1, .int p0)]) hx hcb dX3_empty_5 rfl hl (by decide) rfl (fun ls hl => ?_)
    refine lv_aload_nN hx hcb dX3_empty_6 rfl (lv_at hl 0 rfl) ?_
    refine lv_ifnonnullN hx hcb dX3_empty_7 ?_
    refine lv_iconst (v := (-1)) hx hcb dX3_empty_10 (by decide) ?_
    have hP9 := hP.sub (ws' := [(T 0, .inr (3, tO T h (nI wk) (nI dy) (nI b) fl tw)), (T 3, .inl (t 5, 8, .inr (.inr (.inr (.inr ma)))))]) [1, 0] rfl
    have hD9 := hD.sub (ws' := [(T 0, .inr (3, tO T h (nI wk) (nI dy) (nI b) fl tw)), (T 3, .inl (t 5, 8, .inr (.inr (.inr (.inr ma)))))]) [1, 0] (by decide) rfl
    exact ret () _ _ _ _ _ rfl dX3_empty_11 trivial hP9 hD9 hS
end
set_option maxHeartbeats 1000000 in
set_option maxRecDepth 100000 in
/-- empty(..), refused -/
theorem c_X3_emptyN (l : Launch) (D : va_G) (t : Nat → ClassId) (x : Nat → Nat) (T : Nat → Nat) (h : Nat → Nat) (wk : Nat) (dy : Nat) (b : Nat) (fl : Int64) (tw : Int64) (p0 : Int32) (ma : Nat → Option Nat) (mq : Nat → Nat → Nat) (hma9 : ∀ j, j < 8 → ma j = some (mq j 0)) (hbad : wi p0 (nI 0) (nI 7) = false) : Ct l D t x yX3_empty wsX3_empty r_X3_emptyN [.ref (T 0), .int p0] [(T 0, .inr (3, tO T h (nI wk) (nI dy) (nI b) fl tw)), (T 3, .inl (t 5, 8, .inr (.inr (.inr (.inr ma)))))] (Unit) (fun (_ : Unit) => True) (fun (_ : Unit) => some (.int (-1))) (fun (_ : Unit) => [(T 0, .inr (3, tO T h (nI wk) (nI dy) (nI b) fl tw)), (T 3, .inl (t 5, 8, .inr (.inr (.inr (.inr ma)))))]) 0 0 := ct_ofI (by decide) rfl (Nat.le_of_ble_eq_true rfl) rfl (fun p e s m below meth c A ls Q C ret hl hP hD hS => b_X3_emptyN T h wk dy b fl tw p0 ma mq hma9 hbad C ret hl hP hD hS)
def r_X3_inAllPurses : Room := { frames := 0, cells := 0, slots := 0, locals := 0 }
section
variable {p : Program} {l : Launch} {e : Env} {s : State} {m : MethodId} {args : Array Value} {below : List Frame} {meth : Method} {c : Code} {Q : State → Prop} {D : va_G} {t : Nat → ClassId} {x : Nat → Nat} {A : Nat → Prop}
set_option maxHeartbeats 1000000 in
set_option maxRecDepth 100000 in
theorem lp_X3_inAllPurses_4 (T : Nat → Nat) (h : Nat → Nat) (wk : Nat) (dy : Nat) (b : Nat) (fl : Int64) (tw : Int64) (pu : Nat → Int64)  (C : Cx p s m args c cX3_inAllPurses 4 RX3 D t x A) (kx0 : ∀ (i1 : Nat) (s1_ : Int64) (H : Heap) (locs : List Loc) (ls : Array Slot), (i1 ≤ 8) → (s1_ = psum pu i1) → (8 = i1) → va_P D vwCl [(T 0, .inr (3, tO T h (nI wk) (nI dy) (nI b) fl tw)), (T 1, .inl (t 2, 8, .inr (.inl pu)))] H → va_D A [(T 0, .inr (3, tO T h (nI wk) (nI dy) (nI b) fl tw)), (T 1, .inl (t 2, 8, .inr (.inl pu)))] → va_S A s.heap H locs → lv_has ls 4 [(3, .int (nI i1)), (1, .long s1_), (0, .ref (T 0))] → W p l e r_X3_inAllPurses s m args below meth c H locs 0 0 Q (F0 m 25 ls [])) : ∀ (fu : Nat) (i1 : Nat) (s1_ : Int64) (H : Heap) (locs : List Loc) (ls : Array Slot), 8 - i1 < fu → (i1 ≤ 8) → (s1_ = psum pu i1) → va_P D vwCl [(T 0, .inr (3, tO T h (nI wk) (nI dy) (nI b) fl tw)), (T 1, .inl (t 2, 8, .inr (.inl pu)))] H → va_D A [(T 0, .inr (3, tO T h (nI wk) (nI dy) (nI b) fl tw)), (T 1, .inl (t 2, 8, .inr (.inl pu)))] → va_S A s.heap H locs → lv_has ls 4 [(3, .int (nI i1)), (1, .long s1_), (0, .ref (T 0))] → W p l e r_X3_inAllPurses s m args below meth c H locs 0 0 Q (F0 m 4 ls []) := by
  obtain ⟨hx, hcb, hml, hown, hts, hK, hA, hX, hN⟩ := id C
  intro fu
  induction fu with
  | zero =>
    intro i1 s1_ H locs ls hz
    exact absurd hz (Nat.not_lt_zero _)
  | succ fu ih =>
    intro i1 s1_ H locs ls hz hi1 hs1 hP hD hS hl
    refine lv_iload_n hx hcb dX3_inAllPurses_4 rfl (lv_at hl 0 rfl) ?_
    refine lv_bipush (v := nI 8) hx hcb dX3_inAllPurses_5 (by decide) ?_
    refine q_ge (x := i1) (y := 8) (tgt := 25) hx hcb (by omega) (by omega) dX3_inAllPurses_7 (by decide) (fun c_1 => ?_) (fun c_1 => ?_)
    · exact kx0 i1 s1_ _ _ _ hi1 hs1 (by omega) hP hD hS (lv_sub hl [0, 1, 2] rfl)
    · refine lv_lload_n hx hcb dX3_inAllPurses_10 rfl (lv_at hl 1 rfl) ?_
      refine lv_aload_n hx hcb dX3_inAllPurses_11 rfl (lv_at hl 2 rfl) ?_
      refine va_get (D := D) (ci := 3) (v := .ref (T 1)) (C := RX3) (T := TX3) (N := 12) hx hcb hts inX3 hown hK hP 0 rfl rfl 1 (by decide) (hts _ wf_X3_16) (fun _ h9 => h9) rfl dX3_inAllPurses_12 ?_
      refine lv_iload_n hx hcb dX3_inAllPurses_15 rfl (lv_at hl 0 rfl) ?_
      refine q_lald (j := i1) hx hcb hK hP 1 2 rfl rfl (by omega) (by decide) dX3_inAllPurses_16 ?_
      refine lv_ladd hx hcb dX3_inAllPurses_17 ?_
      refine lv_lstore_n (lv' := [(1, .long (s1_ + (pu i1))), (3, .int (nI i1)), (0, .ref (T 0))]) hx hcb dX3_inAllPurses_18 rfl hl (by decide) rfl (fun ls hl => ?_)
      refine lv_iinc (v := nI (i1 + 1)) (lv' := [(3, .int (nI (i1 + 1))), (1, .long (s1_ + (pu i1))), (0, .ref (T 0))]) hx hcb dX3_inAllPurses_19 hl (k := 1) rfl (q_inc i1 1 rfl) (by decide) rfl (fun ls hl => ?_)
      refine lv_goto (tgt := 4) hx hcb dX3_inAllPurses_22 (by decide) ?_
      exact ih (i1 + 1) (s1_ + (pu i1)) _ _ _ (by omega) (by omega) (by rw [hs1]; rfl) hP hD hS (lv_sub hl [0, 1, 2] rfl)
set_option maxHeartbeats 1000000 in
set_option maxRecDepth 100000 in
theorem b_X3_inAllPurses (T : Nat → Nat) (h : Nat → Nat) (wk : Nat) (dy : Nat) (b : Nat) (fl : Int64) (tw : Int64) (pu : Nat → Int64)  {H : Heap} {locs : List Loc} {ls : Array Slot} (C : Cx p s m args c cX3_inAllPurses 4 RX3 D t x A) (ret : RtJ p l e r_X3_inAllPurses s m args below meth c Q D A cX3_inAllPurses (Unit) (fun (_ : Unit) => True) (fun (_ : Unit) => some (.long (psum pu 8))) (fun (_ : Unit) => [(T 0, .inr (3, tO T h (nI wk) (nI dy) (nI b) fl tw)), (T 1, .inl (t 2, 8, .inr (.inl pu)))]) 0 0) (hl : lv_has ls 4 [(0, .ref (T 0))]) (hP : va_P D vwCl [(T 0, .inr (3, tO T h (nI wk) (nI dy) (nI b) fl tw)), (T 1, .inl (t 2, 8, .inr (.inl pu)))] H) (hD : va_D A [(T 0, .inr (3, tO T h (nI wk) (nI dy) (nI b) fl tw)), (T 1, .inl (t 2, 8, .inr (.inl pu)))]) (hS : va_S A s.heap H locs) : W p l e r_X3_inAllPurses s m args below meth c H locs 0 0 Q (F0 m 0 ls []) := by
  obtain ⟨hx, hcb, hml, hown, hts, hK, hA, hX, hN⟩ := id C
  refine lv_lconst (v := 0) hx hcb dX3_inAllPurses_0 (by decide) ?_
  refine lv_lstore_n (lv' := [(1, .long (0 : Int64)), (0, .ref (T 0))]) hx hcb dX3_inAllPurses_1 rfl hl (by decide) rfl (fun ls hl => ?_)
  refine lv_iconst (v := nI 0) hx hcb dX3_inAllPurses_2 (by decide) ?_
  refine lv_istore_n (lv' := [(3, .int (nI 0)), (1, .long (0 : Int64)), (0, .ref (T 0))]) hx hcb dX3_inAllPurses_3 rfl hl (by decide) rfl (fun ls hl => ?_)
  refine lp_X3_inAllPurses_4 T h wk dy b fl tw pu  C (fun i1 s1_ H locs ls hi1 hs1 he1 hP hD hS hl => ?_) ((8 - 0) + 1) 0 (0 : Int64) _ _ _ (Nat.lt_succ_self _) (Nat.zero_le _) rfl hP hD hS (lv_sub hl [0, 1, 2] rfl)
  subst he1
  subst hs1
  refine lv_lload_n hx hcb dX3_inAllPurses_25 rfl (lv_at hl 1 rfl) ?_
  have hP9 := hP.sub (ws' := [(T 0, .inr (3, tO T h (nI wk) (nI dy) (nI b) fl tw)), (T 1, .inl (t 2, 8, .inr (.inl pu)))]) [0, 1] rfl
  have hD9 := hD.sub (ws' := [(T 0, .inr (3, tO T h (nI wk) (nI dy) (nI b) fl tw)), (T 1, .inl (t 2, 8, .inr (.inl pu)))]) [0, 1] (by decide) rfl
  exact ret () _ _ _ _ _ rfl dX3_inAllPurses_26 trivial hP9 hD9 hS
end
set_option maxHeartbeats 1000000 in
set_option maxRecDepth 100000 in
/-- inAllPurses() -/
theorem c_X3_inAllPurses (l : Launch) (D : va_G) (t : Nat → ClassId) (x : Nat → Nat) (T : Nat → Nat) (h : Nat → Nat) (wk : Nat) (dy : Nat) (b : Nat) (fl : Int64) (tw : Int64) (pu : Nat → Int64)  : Ct l D t x yX3_inAllPurses wsX3_inAllPurses r_X3_inAllPurses [.ref (T 0)] [(T 0, .inr (3, tO T h (nI wk) (nI dy) (nI b) fl tw)), (T 1, .inl (t 2, 8, .inr (.inl pu)))] (Unit) (fun (_ : Unit) => True) (fun (_ : Unit) => some (.long (psum pu 8))) (fun (_ : Unit) => [(T 0, .inr (3, tO T h (nI wk) (nI dy) (nI b) fl tw)), (T 1, .inl (t 2, 8, .inr (.inl pu)))]) 0 0 := ct_ofJ (by decide) rfl (Nat.le_of_ble_eq_true rfl) rfl (fun p e s m below meth c A ls Q C ret hl hP hD hS => b_X3_inAllPurses T h wk dy b fl tw pu  C ret hl hP hD hS)
def r_X3_account : Room := { frames := 1, cells := 0, slots := 0, locals := 23 }
section
variable {p : Program} {l : Launch} {e : Env} {s : State} {m : MethodId} {args : Array Value} {below : List Frame} {meth : Method} {c : Code} {Q : State → Prop} {D : va_G} {t : Nat → ClassId} {x : Nat → Nat} {A : Nat → Prop}
set_option maxHeartbeats 1000000 in
set_option maxRecDepth 100000 in
theorem b_X3_account (T : Nat → Nat) (h : Nat → Nat) (wk : Nat) (dy : Nat) (b : Nat) (fl : Int64) (tw : Int64) (p0 : Int32) (pu : Nat → Int64)  {H : Heap} {locs : List Loc} {ls : Array Slot} (C : Cx p s m args c cX3_account 2 RX3 D t x A) (ret : RtJ p l e r_X3_account s m args below meth c Q D A cX3_account (Unit) (fun (_ : Unit) => True) (fun (_ : Unit) => some (.long (accf p0 (psum pu 8) fl tw pu))) (fun (_ : Unit) => [(T 0, .inr (3, tO T h (nI wk) (nI dy) (nI b) fl tw)), (T 1, .inl (t 2, 8, .inr (.inl pu)))]) 0 0) (hl : lv_has ls 2 [(0, .ref (T 0)), (1, .int p0)]) (hP : va_P D vwCl [(T 0, .inr (3, tO T h (nI wk) (nI dy) (nI b) fl tw)), (T 1, .inl (t 2, 8, .inr (.inl pu)))] H) (hD : va_D A [(T 0, .inr (3, tO T h (nI wk) (nI dy) (nI b) fl tw)), (T 1, .inl (t 2, 8, .inr (.inl pu)))]) (hS : va_S A s.heap H locs) : W p l e r_X3_account s m args below meth c H locs 0 0 Q (F0 m 0 ls []) := by
  obtain ⟨hx, hcb, hml, hown, hts, hK, hA, hX, hN⟩ := id C
  refine lv_iload_n hx hcb dX3_account_0 rfl (lv_at hl 1 rfl) ?_
  refine lv_if_ne (tgt := 9) hx hcb dX3_account_1 (by decide) (fun c_1 => ?_) (fun c_1 => ?_)
  · refine lv_iload_n hx hcb dX3_account_9 rfl (lv_at hl 1 rfl) ?_
    refine lv_iconst (v := nI 1) hx hcb dX3_account_10 (by decide) ?_
    refine lv_icmp_ne (tgt := 19) hx hcb dX3_account_11 (by decide) (fun c_2 => ?_) (fun c_2 => ?_)
    · refine lv_iload_n hx hcb dX3_account_19 rfl (lv_at hl 1 rfl) ?_
      refine lv_iconst (v := nI 2) hx hcb dX3_account_20 (by decide) ?_
      refine lv_icmp_ne (tgt := 29) hx hcb dX3_account_21 (by decide) (fun c_3 => ?_) (fun c_3 => ?_)
      · refine lv_iload_n hx hcb dX3_account_29 rfl (lv_at hl 1 rfl) ?_
        refine lv_bipush (v := nI 10) hx hcb dX3_account_30 (by decide) ?_
        refine lv_bipush (v := nI 17) hx hcb dX3_account_32 (by decide) ?_
        refine ct_callS (as := [.int p0, .int (nI 10), .int (nI 17)]) (rest := []) (wr := [(T 0, .inr (3, tO T h (nI wk) (nI dy) (nI b) fl tw)), (T 1, .inl (t 2, 8, .inr (.inl pu)))]) C (c_X3_isWithin l D t x p0 (nI 10) (nI 17) ) (va_cwS 3 hts (gt_app (by simpa using ⟨wm_X3_75, ws_yX3_isWithin, wz_X3⟩) (gt_code wc_X3_isWithin)) rfl rfl rfl (by decide +kernel) ⟨Nat.le_of_ble_eq_true rfl, Nat.le_of_ble_eq_true rfl⟩) hP hD hS [] [0, 1] rfl (by decide) rfl (by decide) (by decide) rfl hl.1 rfl (Nat.le_of_ble_eq_true rfl) dX3_account_34 ⟨Nat.le_of_ble_eq_true rfl, Nat.le_of_ble_eq_true rfl⟩ (fun u H locs hw_4 hP hD hS => ?_)
        have hP : va_P D vwCl [(T 0, .inr (3, tO T h (nI wk) (nI dy) (nI b) fl tw)), (T 1, .inl (t 2, 8, .inr (.inl pu)))] H := hP
        have hD : va_D A [(T 0, .inr (3, tO T h (nI wk) (nI dy) (nI b) fl tw)), (T 1, .inl (t 2, 8, .inr (.inl pu)))] := hD
        refine W.eq (g2 := F0 m 37 ls [.int (bI (wi p0 (nI 10) (nI 17)))]) rfl ?_
        refine q_bif_eq (tgt := 50) hx hcb dX3_account_37 (by decide) (fun c_5 => ?_) (fun c_5 => ?_)
        · refine lv_ldc2 (v := -1) hx hcb hown (hts _ wk_X3_190) dX3_account_50 ?_
          have hP9 := hP.sub (ws' := [(T 0, .inr (3, tO T h (nI wk) (nI dy) (nI b) fl tw)), (T 1, .inl (t 2, 8, .inr (.inl pu)))]) [0, 1] rfl
          have hD9 := hD.sub (ws' := [(T 0, .inr (3, tO T h (nI wk) (nI dy) (nI b) fl tw)), (T 1, .inl (t 2, 8, .inr (.inl pu)))]) [0, 1] (by decide) rfl
          exact ret () _ _ _ _ _ (by rw [accf, if_neg c_1, if_neg c_2, if_neg c_3, if_neg (by rw [c_5]; decide)]) dX3_account_53 trivial hP9 hD9 hS
        · have c9t := c_5
          obtain ⟨k, hk1, hk2, rfl⟩ := wi_nat (by decide) (by decide) c_5
          have hc0 : cN (nI k) = k := cN_nI (by omega)
          refine lv_aload_n hx hcb dX3_account_40 rfl (lv_at hl 0 rfl) ?_
          refine va_get (D := D) (ci := 3) (v := .ref (T 1)) (C := RX3) (T := TX3) (N := 12) hx hcb hts inX3 hown hK hP 0 rfl rfl 1 (by decide) (hts _ wf_X3_16) (fun _ h9 => h9) rfl dX3_account_41 ?_
          refine lv_iload_n hx hcb dX3_account_44 rfl (lv_at hl 1 rfl) ?_
          refine lv_bipush (v := nI 10) hx hcb dX3_account_45 (by decide) ?_
          refine q_isub (x := k) (y := 10) hx hcb (by omega) dX3_account_47 ?_
          refine q_lald (j := k - 10) hx hcb hK hP 1 2 rfl rfl (by omega) (by decide) dX3_account_48 ?_
          have hP9 := hP.sub (ws' := [(T 0, .inr (3, tO T h (nI wk) (nI dy) (nI b) fl tw)), (T 1, .inl (t 2, 8, .inr (.inl pu)))]) [0, 1] rfl
          have hD9 := hD.sub (ws' := [(T 0, .inr (3, tO T h (nI wk) (nI dy) (nI b) fl tw)), (T 1, .inl (t 2, 8, .inr (.inl pu)))]) [0, 1] (by decide) rfl
          exact ret () _ _ _ _ _ (by rw [accf, if_neg c_1, if_neg c_2, if_neg c_3, if_pos c9t, hc0]) dX3_account_49 trivial hP9 hD9 hS
      · refine lv_aload_n hx hcb dX3_account_24 rfl (lv_at hl 0 rfl) ?_
        refine va_get (D := D) (ci := 3) (v := .long tw) (C := RX3) (T := TX3) (N := 12) hx hcb hts inX3 hown hK hP 0 rfl rfl 11 (by decide) (hts _ wf_X3_173) (fun _ h9 => h9) rfl dX3_account_25 ?_
        have hP9 := hP.sub (ws' := [(T 0, .inr (3, tO T h (nI wk) (nI dy) (nI b) fl tw)), (T 1, .inl (t 2, 8, .inr (.inl pu)))]) [0, 1] rfl
        have hD9 := hD.sub (ws' := [(T 0, .inr (3, tO T h (nI wk) (nI dy) (nI b) fl tw)), (T 1, .inl (t 2, 8, .inr (.inl pu)))]) [0, 1] (by decide) rfl
        exact ret () _ _ _ _ _ (by rw [accf, if_neg c_1, if_neg c_2, if_pos c_3]) dX3_account_28 trivial hP9 hD9 hS
    · refine lv_aload_n hx hcb dX3_account_14 rfl (lv_at hl 0 rfl) ?_
      refine va_get (D := D) (ci := 3) (v := .long fl) (C := RX3) (T := TX3) (N := 12) hx hcb hts inX3 hown hK hP 0 rfl rfl 10 (by decide) (hts _ wf_X3_90) (fun _ h9 => h9) rfl dX3_account_15 ?_
      have hP9 := hP.sub (ws' := [(T 0, .inr (3, tO T h (nI wk) (nI dy) (nI b) fl tw)), (T 1, .inl (t 2, 8, .inr (.inl pu)))]) [0, 1] rfl
      have hD9 := hD.sub (ws' := [(T 0, .inr (3, tO T h (nI wk) (nI dy) (nI b) fl tw)), (T 1, .inl (t 2, 8, .inr (.inl pu)))]) [0, 1] (by decide) rfl
      exact ret () _ _ _ _ _ (by rw [accf, if_neg c_1, if_pos c_2]) dX3_account_18 trivial hP9 hD9 hS
  · refine lv_aload_n hx hcb dX3_account_4 rfl (lv_at hl 0 rfl) ?_
    refine ct_callV (As := []) (rest := []) (wr := []) C (c_X3_inAllPurses l D t x T h wk dy b fl tw pu ) (cwV 0 hts (gt_app (by simpa using ⟨wm_X3_186, wi_yX3_inAllPurses, wv_X3_inAllPurses, wz_X3⟩) (gt_code wc_X3_inAllPurses)) rfl rfl rfl (by decide +kernel) ⟨Nat.le_of_ble_eq_true rfl, Nat.le_of_ble_eq_true rfl⟩) rfl rfl (q0 := 0) rfl hP hD hS [0, 1] [] rfl (by decide) rfl (by decide) (by decide) rfl hl.1 rfl (Nat.le_of_ble_eq_true rfl) dX3_account_5 ⟨Nat.le_of_ble_eq_true rfl, Nat.le_of_ble_eq_true rfl⟩ (fun u H locs hw_6 hP hD hS => ?_)
    have hP : va_P D vwCl [(T 0, .inr (3, tO T h (nI wk) (nI dy) (nI b) fl tw)), (T 1, .inl (t 2, 8, .inr (.inl pu)))] H := hP
    have hD : va_D A [(T 0, .inr (3, tO T h (nI wk) (nI dy) (nI b) fl tw)), (T 1, .inl (t 2, 8, .inr (.inl pu)))] := hD
    refine W.eq (g2 := F0 m 8 ls [.long (psum pu 8)]) rfl ?_
    have hP9 := hP.sub (ws' := [(T 0, .inr (3, tO T h (nI wk) (nI dy) (nI b) fl tw)), (T 1, .inl (t 2, 8, .inr (.inl pu)))]) [0, 1] rfl
    have hD9 := hD.sub (ws' := [(T 0, .inr (3, tO T h (nI wk) (nI dy) (nI b) fl tw)), (T 1, .inl (t 2, 8, .inr (.inl pu)))]) [0, 1] (by decide) rfl
    exact ret () _ _ _ _ _ (by rw [accf, if_pos c_1]) dX3_account_8 trivial hP9 hD9 hS
end
set_option maxHeartbeats 1000000 in
set_option maxRecDepth 100000 in
/-- account(which) -/
theorem c_X3_account (l : Launch) (D : va_G) (t : Nat → ClassId) (x : Nat → Nat) (T : Nat → Nat) (h : Nat → Nat) (wk : Nat) (dy : Nat) (b : Nat) (fl : Int64) (tw : Int64) (p0 : Int32) (pu : Nat → Int64)  : Ct l D t x yX3_account wsX3_account r_X3_account [.ref (T 0), .int p0] [(T 0, .inr (3, tO T h (nI wk) (nI dy) (nI b) fl tw)), (T 1, .inl (t 2, 8, .inr (.inl pu)))] (Unit) (fun (_ : Unit) => True) (fun (_ : Unit) => some (.long (accf p0 (psum pu 8) fl tw pu))) (fun (_ : Unit) => [(T 0, .inr (3, tO T h (nI wk) (nI dy) (nI b) fl tw)), (T 1, .inl (t 2, 8, .inr (.inl pu)))]) 0 0 := ct_ofJ (by decide) rfl (Nat.le_of_ble_eq_true rfl) rfl (fun p e s m below meth c A ls Q C ret hl hP hD hS => b_X3_account T h wk dy b fl tw p0 pu  C ret hl hP hD hS)
