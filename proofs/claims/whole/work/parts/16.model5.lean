def r_X4_newWeek : Room := { frames := 0, cells := 0, slots := 0, locals := 0 }
section
variable {p : Program} {l : Launch} {e : Env} {s : State} {m : MethodId} {args : Array Value} {below : List Frame} {meth : Method} {c : Code} {Q : State → Prop} {D : va_G} {t : Nat → ClassId} {x : Nat → Nat} {A : Nat → Prop}
set_option maxHeartbeats 1000000 in
set_option maxRecDepth 100000 in
theorem b_X4_newWeek (a : Nat → Nat) (th : Int32) (day : Int32) (kp : Int64) (tw : Int64) (wk : Int32) (k1 : Int64) (k2 : Int64) (o1 : Int64) (o2 : Int64) (ns : Int32) (one : Int64) (two : Int64)  {H : Heap} {locs : List Loc} {ls : Array Slot} (C : Cx p s m args c cX4_newWeek 5 RX4 D t x A) (ret : RtI p l e r_X4_newWeek s m args below meth c Q D A cX4_newWeek (Unit) (fun (_ : Unit) => True) (fun (_ : Unit) => some (.int (wk + nI 1))) (fun (_ : Unit) => [(a 0, .inr (4, mO a (nI 0) day kp tw (wk + nI 1) one two k1 k2 ns))]) 0 0) (hl : lv_has ls 5 [(0, .ref (a 0)), (1, .long one), (3, .long two)]) (hP : va_P D vwCl [(a 0, .inr (4, mO a th day kp tw wk k1 k2 o1 o2 ns))] H) (hD : va_D A [(a 0, .inr (4, mO a th day kp tw wk k1 k2 o1 o2 ns))]) (hS : va_S A s.heap H locs) : W p l e r_X4_newWeek s m args below meth c H locs 0 0 Q (F0 m 0 ls []) := by
  obtain ⟨hx, hcb, hml, hown, hts, hK, hA, hX, hN⟩ := id C
  refine lv_aload_n hx hcb dX4_newWeek_0 rfl (lv_at hl 0 rfl) ?_
  refine lv_iconst (v := nI 0) hx hcb dX4_newWeek_1 (by decide) ?_
  refine va_put (D := D) (ci := 4) (v := .int (nI 0)) (ty := .int) (C := RX4) (T := TX4) (N := 45) hx hcb hts inX4 tyX4 tyX4_ok nX4 hown hK hP hD hS 0 rfl rfl 0 (by decide) (hts _ wf_X4_121) (fun _ h9 => h9) rfl (by decide +kernel) rfl rfl (Nat.le_of_ble_eq_true rfl) dX4_newWeek_2 (fun H locs hP hD hS => ?_)
  have hP : va_P D vwCl [(a 0, .inr (4, mO a (nI 0) day kp tw wk k1 k2 o1 o2 ns))] H := hP
  have hD : va_D A [(a 0, .inr (4, mO a (nI 0) day kp tw wk k1 k2 o1 o2 ns))] := hD
  refine lv_aload_n hx hcb dX4_newWeek_5 rfl (lv_at hl 0 rfl) ?_
  refine lv_aload_n hx hcb dX4_newWeek_6 rfl (lv_at hl 0 rfl) ?_
  refine va_get (D := D) (ci := 4) (v := .long k1) (C := RX4) (T := TX4) (N := 45) hx hcb hts inX4 hown hK hP 0 rfl rfl 17 (by decide) (hts _ wf_X4_239) (fun _ h9 => h9) rfl dX4_newWeek_7 ?_
  refine va_put (D := D) (ci := 4) (v := .long k1) (ty := .long) (C := RX4) (T := TX4) (N := 45) hx hcb hts inX4 tyX4 tyX4_ok nX4 hown hK hP hD hS 0 rfl rfl 19 (by decide) (hts _ wf_X4_243) (fun _ h9 => h9) rfl (by decide +kernel) rfl rfl (Nat.le_of_ble_eq_true rfl) dX4_newWeek_10 (fun H locs hP hD hS => ?_)
  have hP : va_P D vwCl [(a 0, .inr (4, mO a (nI 0) day kp tw wk k1 k2 k1 o2 ns))] H := hP
  have hD : va_D A [(a 0, .inr (4, mO a (nI 0) day kp tw wk k1 k2 k1 o2 ns))] := hD
  refine lv_aload_n hx hcb dX4_newWeek_13 rfl (lv_at hl 0 rfl) ?_
  refine lv_aload_n hx hcb dX4_newWeek_14 rfl (lv_at hl 0 rfl) ?_
  refine va_get (D := D) (ci := 4) (v := .long k2) (C := RX4) (T := TX4) (N := 45) hx hcb hts inX4 hown hK hP 0 rfl rfl 18 (by decide) (hts _ wf_X4_246) (fun _ h9 => h9) rfl dX4_newWeek_15 ?_
  refine va_put (D := D) (ci := 4) (v := .long k2) (ty := .long) (C := RX4) (T := TX4) (N := 45) hx hcb hts inX4 tyX4 tyX4_ok nX4 hown hK hP hD hS 0 rfl rfl 20 (by decide) (hts _ wf_X4_249) (fun _ h9 => h9) rfl (by decide +kernel) rfl rfl (Nat.le_of_ble_eq_true rfl) dX4_newWeek_18 (fun H locs hP hD hS => ?_)
  have hP : va_P D vwCl [(a 0, .inr (4, mO a (nI 0) day kp tw wk k1 k2 k1 k2 ns))] H := hP
  have hD : va_D A [(a 0, .inr (4, mO a (nI 0) day kp tw wk k1 k2 k1 k2 ns))] := hD
  refine lv_aload_n hx hcb dX4_newWeek_21 rfl (lv_at hl 0 rfl) ?_
  refine lv_lload_n hx hcb dX4_newWeek_22 rfl (lv_at hl 1 rfl) ?_
  refine va_put (D := D) (ci := 4) (v := .long one) (ty := .long) (C := RX4) (T := TX4) (N := 45) hx hcb hts inX4 tyX4 tyX4_ok nX4 hown hK hP hD hS 0 rfl rfl 17 (by decide) (hts _ wf_X4_239) (fun _ h9 => h9) rfl (by decide +kernel) rfl rfl (Nat.le_of_ble_eq_true rfl) dX4_newWeek_23 (fun H locs hP hD hS => ?_)
  have hP : va_P D vwCl [(a 0, .inr (4, mO a (nI 0) day kp tw wk one k2 k1 k2 ns))] H := hP
  have hD : va_D A [(a 0, .inr (4, mO a (nI 0) day kp tw wk one k2 k1 k2 ns))] := hD
  refine lv_aload_n hx hcb dX4_newWeek_26 rfl (lv_at hl 0 rfl) ?_
  refine lv_lload_n hx hcb dX4_newWeek_27 rfl (lv_at hl 2 rfl) ?_
  refine va_put (D := D) (ci := 4) (v := .long two) (ty := .long) (C := RX4) (T := TX4) (N := 45) hx hcb hts inX4 tyX4 tyX4_ok nX4 hown hK hP hD hS 0 rfl rfl 18 (by decide) (hts _ wf_X4_246) (fun _ h9 => h9) rfl (by decide +kernel) rfl rfl (Nat.le_of_ble_eq_true rfl) dX4_newWeek_28 (fun H locs hP hD hS => ?_)
  have hP : va_P D vwCl [(a 0, .inr (4, mO a (nI 0) day kp tw wk one two k1 k2 ns))] H := hP
  have hD : va_D A [(a 0, .inr (4, mO a (nI 0) day kp tw wk one two k1 k2 ns))] := hD
  refine lv_aload_n hx hcb dX4_newWeek_31 rfl (lv_at hl 0 rfl) ?_
  refine lv_dup hx hcb dX4_newWeek_32 rfl ?_
  refine va_get (D := D) (ci := 4) (v := .int wk) (C := RX4) (T := TX4) (N := 45) hx hcb hts inX4 hown hK hP 0 rfl rfl 16 (by decide) (hts _ wf_X4_252) (fun _ h9 => h9) rfl dX4_newWeek_33 ?_
  refine lv_iconst (v := nI 1) hx hcb dX4_newWeek_36 (by decide) ?_
  refine lv_iadd hx hcb dX4_newWeek_37 ?_
  refine va_put (D := D) (ci := 4) (v := .int (wk + (nI 1))) (ty := .int) (C := RX4) (T := TX4) (N := 45) hx hcb hts inX4 tyX4 tyX4_ok nX4 hown hK hP hD hS 0 rfl rfl 16 (by decide) (hts _ wf_X4_252) (fun _ h9 => h9) rfl (by decide +kernel) rfl rfl (Nat.le_of_ble_eq_true rfl) dX4_newWeek_38 (fun H locs hP hD hS => ?_)
  have hP : va_P D vwCl [(a 0, .inr (4, mO a (nI 0) day kp tw (wk + (nI 1)) one two k1 k2 ns))] H := hP
  have hD : va_D A [(a 0, .inr (4, mO a (nI 0) day kp tw (wk + (nI 1)) one two k1 k2 ns))] := hD
  refine lv_aload_n hx hcb dX4_newWeek_41 rfl (lv_at hl 0 rfl) ?_
  refine va_get (D := D) (ci := 4) (v := .int (wk + (nI 1))) (C := RX4) (T := TX4) (N := 45) hx hcb hts inX4 hown hK hP 0 rfl rfl 16 (by decide) (hts _ wf_X4_252) (fun _ h9 => h9) rfl dX4_newWeek_42 ?_
  have hP9 := hP.sub (ws' := [(a 0, .inr (4, mO a (nI 0) day kp tw (wk + (nI 1)) one two k1 k2 ns))]) [0] rfl
  have hD9 := hD.sub (ws' := [(a 0, .inr (4, mO a (nI 0) day kp tw (wk + (nI 1)) one two k1 k2 ns))]) [0] (by decide) rfl
  exact ret () _ _ _ _ _ rfl dX4_newWeek_45 trivial hP9 hD9 hS
end
set_option maxHeartbeats 1000000 in
set_option maxRecDepth 100000 in
/-- newWeek(one, two) -/
theorem c_X4_newWeek (l : Launch) (D : va_G) (t : Nat → ClassId) (x : Nat → Nat) (a : Nat → Nat) (th : Int32) (day : Int32) (kp : Int64) (tw : Int64) (wk : Int32) (k1 : Int64) (k2 : Int64) (o1 : Int64) (o2 : Int64) (ns : Int32) (one : Int64) (two : Int64)  : Ct l D t x yX4_newWeek wsX4_newWeek r_X4_newWeek [.ref (a 0), .long one, .long two] [(a 0, .inr (4, mO a th day kp tw wk k1 k2 o1 o2 ns))] (Unit) (fun (_ : Unit) => True) (fun (_ : Unit) => some (.int (wk + nI 1))) (fun (_ : Unit) => [(a 0, .inr (4, mO a (nI 0) day kp tw (wk + nI 1) one two k1 k2 ns))]) 0 0 := ct_ofI (by decide) rfl (Nat.le_of_ble_eq_true rfl) rfl (fun p e s m below meth c A ls Q C ret hl hP hD hS => b_X4_newWeek a th day kp tw wk k1 k2 o1 o2 ns one two  C ret hl hP hD hS)
def r_X4_money : Room := { frames := 1, cells := 0, slots := 0, locals := 22 }
section
variable {p : Program} {l : Launch} {e : Env} {s : State} {m : MethodId} {args : Array Value} {below : List Frame} {meth : Method} {c : Code} {Q : State → Prop} {D : va_G} {t : Nat → ClassId} {x : Nat → Nat} {A : Nat → Prop}
set_option maxHeartbeats 1000000 in
set_option maxRecDepth 100000 in
theorem b_X4_money (a : Nat → Nat) (th : Int32) (day : Int32) (kp : Int64) (tw : Int64) (wk : Int32) (k1 : Int64) (k2 : Int64) (o1 : Int64) (o2 : Int64) (ns : Int32) (p0 : Int32) (c9 : Int64) (pu : Nat → Int64)  {H : Heap} {locs : List Loc} {ls : Array Slot} (C : Cx p s m args c cX4_money 4 RX4 D t x A) (ret : RtZ p l e r_X4_money s m args below meth c Q D A cX4_money (Bool × (Nat → Int64)) (fun (u : Bool × (Nat → Int64)) => u.1 = monf p0 c9 ∧ ((u.1 = false ∧ u.2 = pu) ∨ (u.1 = true ∧ ∃ k, k < 8 ∧ p0 = nI k ∧ u.2 = vp_updL pu k (pu k + c9)))) (fun (u : Bool × (Nat → Int64)) => some (.int (bI u.1))) (fun (u : Bool × (Nat → Int64)) => [(a 0, .inr (4, mO a (nI 0) day kp tw wk k1 k2 o1 o2 ns)), (a 12, .inl (t 2, 8, .inr (.inl u.2)))]) 0 0) (hl : lv_has ls 4 [(0, .ref (a 0)), (1, .int p0), (2, .long c9)]) (hP : va_P D vwCl [(a 0, .inr (4, mO a th day kp tw wk k1 k2 o1 o2 ns)), (a 12, .inl (t 2, 8, .inr (.inl pu)))] H) (hD : va_D A [(a 0, .inr (4, mO a th day kp tw wk k1 k2 o1 o2 ns)), (a 12, .inl (t 2, 8, .inr (.inl pu)))]) (hS : va_S A s.heap H locs) : W p l e r_X4_money s m args below meth c H locs 0 0 Q (F0 m 0 ls []) := by
  obtain ⟨hx, hcb, hml, hown, hts, hK, hA, hX, hN⟩ := id C
  refine lv_aload_n hx hcb dX4_money_0 rfl (lv_at hl 0 rfl) ?_
  refine lv_iconst (v := nI 0) hx hcb dX4_money_1 (by decide) ?_
  refine va_put (D := D) (ci := 4) (v := .int (nI 0)) (ty := .int) (C := RX4) (T := TX4) (N := 45) hx hcb hts inX4 tyX4 tyX4_ok nX4 hown hK hP hD hS 0 rfl rfl 0 (by decide) (hts _ wf_X4_121) (fun _ h9 => h9) rfl (by decide +kernel) rfl rfl (Nat.le_of_ble_eq_true rfl) dX4_money_2 (fun H locs hP hD hS => ?_)
  have hP : va_P D vwCl [(a 0, .inr (4, mO a (nI 0) day kp tw wk k1 k2 o1 o2 ns)), (a 12, .inl (t 2, 8, .inr (.inl pu)))] H := hP
  have hD : va_D A [(a 0, .inr (4, mO a (nI 0) day kp tw wk k1 k2 o1 o2 ns)), (a 12, .inl (t 2, 8, .inr (.inl pu)))] := hD
  refine lv_iload_n hx hcb dX4_money_5 rfl (lv_at hl 1 rfl) ?_
  refine lv_iconst (v := nI 0) hx hcb dX4_money_6 (by decide) ?_
  refine lv_bipush (v := nI 7) hx hcb dX4_money_7 (by decide) ?_
  refine ct_callS (as := [.int p0, .int (nI 0), .int (nI 7)]) (rest := []) (wr := [(a 0, .inr (4, mO a (nI 0) day kp tw wk k1 k2 o1 o2 ns)), (a 12, .inl (t 2, 8, .inr (.inl pu)))]) C (c_X4_within l D t x p0 (nI 0) (nI 7) ) (va_cwS 3 hts (gt_app (by simpa using ⟨wm_X4_259, ws_yX4_within, wz_X4⟩) (gt_code wc_X4_within)) rfl rfl rfl (by decide +kernel) ⟨Nat.le_of_ble_eq_true rfl, Nat.le_of_ble_eq_true rfl⟩) hP hD hS [] [0, 1] rfl (by decide) rfl (by decide) (by decide) rfl hl.1 rfl (Nat.le_of_ble_eq_true rfl) dX4_money_9 ⟨Nat.le_of_ble_eq_true rfl, Nat.le_of_ble_eq_true rfl⟩ (fun u H locs hw_1 hP hD hS => ?_)
  have hP : va_P D vwCl [(a 0, .inr (4, mO a (nI 0) day kp tw wk k1 k2 o1 o2 ns)), (a 12, .inl (t 2, 8, .inr (.inl pu)))] H := hP
  have hD : va_D A [(a 0, .inr (4, mO a (nI 0) day kp tw wk k1 k2 o1 o2 ns)), (a 12, .inl (t 2, 8, .inr (.inl pu)))] := hD
  refine W.eq (g2 := F0 m 12 ls [.int (bI (wi p0 (nI 0) (nI 7)))]) rfl ?_
  refine q_bif_eq (tgt := 29) hx hcb dX4_money_12 (by decide) (fun c_2 => ?_) (fun c_2 => ?_)
  · refine lv_iconst (v := nI 0) hx hcb dX4_money_29 (by decide) ?_
    have hP9 := hP.sub (ws' := [(a 0, .inr (4, mO a (nI 0) day kp tw wk k1 k2 o1 o2 ns)), (a 12, .inl (t 2, 8, .inr (.inl pu)))]) [0, 1] rfl
    have hD9 := hD.sub (ws' := [(a 0, .inr (4, mO a (nI 0) day kp tw wk k1 k2 o1 o2 ns)), (a 12, .inl (t 2, 8, .inr (.inl pu)))]) [0, 1] (by decide) rfl
    exact ret (false, pu) _ false _ _ _ _ rfl rfl dX4_money_30 ⟨by rw [monf, c_2]; rfl, Or.inl ⟨rfl, rfl⟩⟩ hP9 hD9 hS
  · have c9t := c_2
    refine lv_lload_n hx hcb dX4_money_15 rfl (lv_at hl 2 rfl) ?_
    refine lv_lconst (v := 1) hx hcb dX4_money_16 (by decide) ?_
    refine W.lcmp hx hcb dX4_money_17 ?_
    refine lv_if_lt (tgt := 29) hx hcb dX4_money_18 (by decide) (fun c_3 => ?_) (fun c_3 => ?_)
    · have c_3 := lgc_lt.mp c_3
      refine lv_iconst (v := nI 0) hx hcb dX4_money_29 (by decide) ?_
      have hP9 := hP.sub (ws' := [(a 0, .inr (4, mO a (nI 0) day kp tw wk k1 k2 o1 o2 ns)), (a 12, .inl (t 2, 8, .inr (.inl pu)))]) [0, 1] rfl
      have hD9 := hD.sub (ws' := [(a 0, .inr (4, mO a (nI 0) day kp tw wk k1 k2 o1 o2 ns)), (a 12, .inl (t 2, 8, .inr (.inl pu)))]) [0, 1] (by decide) rfl
      exact ret (false, pu) _ false _ _ _ _ rfl rfl dX4_money_30 ⟨by rw [monf, c_2, decide_eq_true c_3]; rfl, Or.inl ⟨rfl, rfl⟩⟩ hP9 hD9 hS
    · have c_3 := fun q => c_3 (lgc_lt.mpr q)
      refine lv_lload_n hx hcb dX4_money_21 rfl (lv_at hl 2 rfl) ?_
      refine lv_ldc2 (v := 1000000000) hx hcb hown (hts _ wk_X4_263) dX4_money_22 ?_
      refine W.lcmp hx hcb dX4_money_25 ?_
      refine lv_if_le (tgt := 31) hx hcb dX4_money_26 (by decide) (fun c_4 => ?_) (fun c_4 => ?_)
      · have c_4 := lgc_le.mp c_4
        obtain ⟨k, hk0, hk7, rfl⟩ := wi_nat (by decide) (by decide) c9t
        refine lv_aload_n hx hcb dX4_money_31 rfl (lv_at hl 0 rfl) ?_
        refine va_get (D := D) (ci := 4) (v := .ref (a 12)) (C := RX4) (T := TX4) (N := 45) hx hcb hts inX4 hown hK hP 0 rfl rfl 13 (by decide) (hts _ wf_X4_44) (fun _ h9 => h9) rfl dX4_money_32 ?_
        refine lv_iload_n hx hcb dX4_money_35 rfl (lv_at hl 1 rfl) ?_
        refine lv_dup2_11 hx hcb dX4_money_36 rfl rfl ?_
        refine q_lald (j := k) hx hcb hK hP 1 2 rfl rfl (by omega) (by decide) dX4_money_37 ?_
        refine lv_lload_n hx hcb dX4_money_38 rfl (lv_at hl 2 rfl) ?_
        refine lv_ladd hx hcb dX4_money_39 ?_
        refine q_last (j := k) (v := (pu k) + c9) hx hcb hK hP hD hS 1 2 rfl rfl (by omega) (by decide) dX4_money_40 (fun H locs hP hD hS => ?_)
        have hP : va_P D vwCl [(a 0, .inr (4, mO a (nI 0) day kp tw wk k1 k2 o1 o2 ns)), (a 12, .inl (t 2, 8, .inr (.inl (vp_updL pu k ((pu k) + c9)))))] H := hP
        have hD : va_D A [(a 0, .inr (4, mO a (nI 0) day kp tw wk k1 k2 o1 o2 ns)), (a 12, .inl (t 2, 8, .inr (.inl (vp_updL pu k ((pu k) + c9)))))] := hD
        refine lv_iconst (v := nI 1) hx hcb dX4_money_41 (by decide) ?_
        have hP9 := hP.sub (ws' := [(a 0, .inr (4, mO a (nI 0) day kp tw wk k1 k2 o1 o2 ns)), (a 12, .inl (t 2, 8, .inr (.inl (vp_updL pu k ((pu k) + c9)))))]) [0, 1] rfl
        have hD9 := hD.sub (ws' := [(a 0, .inr (4, mO a (nI 0) day kp tw wk k1 k2 o1 o2 ns)), (a 12, .inl (t 2, 8, .inr (.inl (vp_updL pu k ((pu k) + c9)))))]) [0, 1] (by decide) rfl
        exact ret (true, vp_updL pu k ((pu k) + c9)) _ true _ _ _ _ rfl rfl dX4_money_42 ⟨by rw [monf, c_2, decide_eq_false c_3, decide_eq_true c_4]; rfl, Or.inr ⟨rfl, k, by omega, rfl, rfl⟩⟩ hP9 hD9 hS
      · have c_4 := fun q => c_4 (lgc_le.mpr q)
        refine lv_iconst (v := nI 0) hx hcb dX4_money_29 (by decide) ?_
        have hP9 := hP.sub (ws' := [(a 0, .inr (4, mO a (nI 0) day kp tw wk k1 k2 o1 o2 ns)), (a 12, .inl (t 2, 8, .inr (.inl pu)))]) [0, 1] rfl
        have hD9 := hD.sub (ws' := [(a 0, .inr (4, mO a (nI 0) day kp tw wk k1 k2 o1 o2 ns)), (a 12, .inl (t 2, 8, .inr (.inl pu)))]) [0, 1] (by decide) rfl
        exact ret (false, pu) _ false _ _ _ _ rfl rfl dX4_money_30 ⟨by rw [monf, c_2, decide_eq_false c_3, decide_eq_false c_4]; rfl, Or.inl ⟨rfl, rfl⟩⟩ hP9 hD9 hS
end
set_option maxHeartbeats 1000000 in
set_option maxRecDepth 100000 in
/-- money(motorist, c) -/
theorem c_X4_money (l : Launch) (D : va_G) (t : Nat → ClassId) (x : Nat → Nat) (a : Nat → Nat) (th : Int32) (day : Int32) (kp : Int64) (tw : Int64) (wk : Int32) (k1 : Int64) (k2 : Int64) (o1 : Int64) (o2 : Int64) (ns : Int32) (p0 : Int32) (c9 : Int64) (pu : Nat → Int64)  : Ct l D t x yX4_money wsX4_money r_X4_money [.ref (a 0), .int p0, .long c9] [(a 0, .inr (4, mO a th day kp tw wk k1 k2 o1 o2 ns)), (a 12, .inl (t 2, 8, .inr (.inl pu)))] (Bool × (Nat → Int64)) (fun (u : Bool × (Nat → Int64)) => u.1 = monf p0 c9 ∧ ((u.1 = false ∧ u.2 = pu) ∨ (u.1 = true ∧ ∃ k, k < 8 ∧ p0 = nI k ∧ u.2 = vp_updL pu k (pu k + c9)))) (fun (u : Bool × (Nat → Int64)) => some (.int (bI u.1))) (fun (u : Bool × (Nat → Int64)) => [(a 0, .inr (4, mO a (nI 0) day kp tw wk k1 k2 o1 o2 ns)), (a 12, .inl (t 2, 8, .inr (.inl u.2)))]) 0 0 := ct_ofZ (by decide) rfl (Nat.le_of_ble_eq_true rfl) rfl (fun p e s m below meth c A ls Q C ret hl hP hD hS => b_X4_money a th day kp tw wk k1 k2 o1 o2 ns p0 c9 pu  C ret hl hP hD hS)
def r_X4_poke : Room := { frames := 1, cells := 0, slots := 0, locals := 22 }
section
variable {p : Program} {l : Launch} {e : Env} {s : State} {m : MethodId} {args : Array Value} {below : List Frame} {meth : Method} {c : Code} {Q : State → Prop} {D : va_G} {t : Nat → ClassId} {x : Nat → Nat} {A : Nat → Prop}
set_option maxHeartbeats 1000000 in
set_option maxRecDepth 100000 in
theorem b_X4_poke (a : Nat → Nat) (th : Int32) (day : Int32) (kp : Int64) (tw : Int64) (wk : Int32) (k1 : Int64) (k2 : Int64) (o1 : Int64) (o2 : Int64) (ns : Int32) (p0 : Int32) (p1 : Int32) (bf : Nat → Int32) (hbf : fb bf) {H : Heap} {locs : List Loc} {ls : Array Slot} (C : Cx p s m args c cX4_poke 3 RX4 D t x A) (ret : RtZ p l e r_X4_poke s m args below meth c Q D A cX4_poke (Bool × (Nat → Int32)) (fun (u : Bool × (Nat → Int32)) => u.1 = wi p0 (nI 0) (nI 19) ∧ fb u.2 ∧ ((u.1 = false ∧ u.2 = bf) ∨ (u.1 = true ∧ ∃ k, k < 20 ∧ p0 = nI k ∧ u.2 = upd bf k (bx p1)))) (fun (u : Bool × (Nat → Int32)) => some (.int (bI u.1))) (fun (u : Bool × (Nat → Int32)) => [(a 0, .inr (4, mO a (nI 0) day kp tw wk k1 k2 o1 o2 ns)), (a 11, .inl (t 0, 20, .inl u.2))]) 0 0) (hl : lv_has ls 3 [(0, .ref (a 0)), (1, .int p0), (2, .int p1)]) (hP : va_P D vwCl [(a 0, .inr (4, mO a th day kp tw wk k1 k2 o1 o2 ns)), (a 11, .inl (t 0, 20, .inl bf))] H) (hD : va_D A [(a 0, .inr (4, mO a th day kp tw wk k1 k2 o1 o2 ns)), (a 11, .inl (t 0, 20, .inl bf))]) (hS : va_S A s.heap H locs) : W p l e r_X4_poke s m args below meth c H locs 0 0 Q (F0 m 0 ls []) := by
  obtain ⟨hx, hcb, hml, hown, hts, hK, hA, hX, hN⟩ := id C
  refine lv_aload_n hx hcb dX4_poke_0 rfl (lv_at hl 0 rfl) ?_
  refine lv_iconst (v := nI 0) hx hcb dX4_poke_1 (by decide) ?_
  refine va_put (D := D) (ci := 4) (v := .int (nI 0)) (ty := .int) (C := RX4) (T := TX4) (N := 45) hx hcb hts inX4 tyX4 tyX4_ok nX4 hown hK hP hD hS 0 rfl rfl 0 (by decide) (hts _ wf_X4_121) (fun _ h9 => h9) rfl (by decide +kernel) rfl rfl (Nat.le_of_ble_eq_true rfl) dX4_poke_2 (fun H locs hP hD hS => ?_)
  have hP : va_P D vwCl [(a 0, .inr (4, mO a (nI 0) day kp tw wk k1 k2 o1 o2 ns)), (a 11, .inl (t 0, 20, .inl bf))] H := hP
  have hD : va_D A [(a 0, .inr (4, mO a (nI 0) day kp tw wk k1 k2 o1 o2 ns)), (a 11, .inl (t 0, 20, .inl bf))] := hD
  refine lv_iload_n hx hcb dX4_poke_5 rfl (lv_at hl 1 rfl) ?_
  refine lv_iconst (v := nI 0) hx hcb dX4_poke_6 (by decide) ?_
  refine lv_bipush (v := nI 19) hx hcb dX4_poke_7 (by decide) ?_
  refine ct_callS (as := [.int p0, .int (nI 0), .int (nI 19)]) (rest := []) (wr := [(a 0, .inr (4, mO a (nI 0) day kp tw wk k1 k2 o1 o2 ns)), (a 11, .inl (t 0, 20, .inl bf))]) C (c_X4_within l D t x p0 (nI 0) (nI 19) ) (va_cwS 3 hts (gt_app (by simpa using ⟨wm_X4_259, ws_yX4_within, wz_X4⟩) (gt_code wc_X4_within)) rfl rfl rfl (by decide +kernel) ⟨Nat.le_of_ble_eq_true rfl, Nat.le_of_ble_eq_true rfl⟩) hP hD hS [] [0, 1] rfl (by decide) rfl (by decide) (by decide) rfl hl.1 rfl (Nat.le_of_ble_eq_true rfl) dX4_poke_9 ⟨Nat.le_of_ble_eq_true rfl, Nat.le_of_ble_eq_true rfl⟩ (fun u H locs hw_1 hP hD hS => ?_)
  have hP : va_P D vwCl [(a 0, .inr (4, mO a (nI 0) day kp tw wk k1 k2 o1 o2 ns)), (a 11, .inl (t 0, 20, .inl bf))] H := hP
  have hD : va_D A [(a 0, .inr (4, mO a (nI 0) day kp tw wk k1 k2 o1 o2 ns)), (a 11, .inl (t 0, 20, .inl bf))] := hD
  refine W.eq (g2 := F0 m 12 ls [.int (bI (wi p0 (nI 0) (nI 19)))]) rfl ?_
  refine q_bif_ne (tgt := 17) hx hcb dX4_poke_12 (by decide) (fun c_2 => ?_) (fun c_2 => ?_)
  · have c9t := c_2
    obtain ⟨k, hk0, hk7, rfl⟩ := wi_nat (by decide) (by decide) c9t
    refine lv_aload_n hx hcb dX4_poke_17 rfl (lv_at hl 0 rfl) ?_
    refine va_get (D := D) (ci := 4) (v := .ref (a 11)) (C := RX4) (T := TX4) (N := 45) hx hcb hts inX4 hown hK hP 0 rfl rfl 11 (by decide) (hts _ wf_X4_41) (fun _ h9 => h9) rfl dX4_poke_18 ?_
    refine lv_iload_n hx hcb dX4_poke_21 rfl (lv_at hl 1 rfl) ?_
    refine lv_iload_n hx hcb dX4_poke_22 rfl (lv_at hl 2 rfl) ?_
    refine lv_i2b (v := bx p1) hx hcb dX4_poke_23 rfl ?_
    refine q_bast (j := k) (v := bx p1) hx hcb hK hP hD hS 1 0 rfl rfl (bx_bx _) (by omega) (by decide) dX4_poke_24 (fun H locs hP hD hS => ?_)
    have hP : va_P D vwCl [(a 0, .inr (4, mO a (nI 0) day kp tw wk k1 k2 o1 o2 ns)), (a 11, .inl (t 0, 20, .inl (upd bf k (bx p1))))] H := hP
    have hD : va_D A [(a 0, .inr (4, mO a (nI 0) day kp tw wk k1 k2 o1 o2 ns)), (a 11, .inl (t 0, 20, .inl (upd bf k (bx p1))))] := hD
    refine lv_iconst (v := nI 1) hx hcb dX4_poke_25 (by decide) ?_
    have hP9 := hP.sub (ws' := [(a 0, .inr (4, mO a (nI 0) day kp tw wk k1 k2 o1 o2 ns)), (a 11, .inl (t 0, 20, .inl (upd bf k (bx p1))))]) [0, 1] rfl
    have hD9 := hD.sub (ws' := [(a 0, .inr (4, mO a (nI 0) day kp tw wk k1 k2 o1 o2 ns)), (a 11, .inl (t 0, 20, .inl (upd bf k (bx p1))))]) [0, 1] (by decide) rfl
    exact ret (true, upd bf k (bx p1)) _ true _ _ _ _ rfl rfl dX4_poke_26 ⟨c9t.symm, (fb_upd hbf (bx_bx _)), Or.inr ⟨rfl, k, by omega, rfl, rfl⟩⟩ hP9 hD9 hS
  · refine lv_iconst (v := nI 0) hx hcb dX4_poke_15 (by decide) ?_
    have hP9 := hP.sub (ws' := [(a 0, .inr (4, mO a (nI 0) day kp tw wk k1 k2 o1 o2 ns)), (a 11, .inl (t 0, 20, .inl bf))]) [0, 1] rfl
    have hD9 := hD.sub (ws' := [(a 0, .inr (4, mO a (nI 0) day kp tw wk k1 k2 o1 o2 ns)), (a 11, .inl (t 0, 20, .inl bf))]) [0, 1] (by decide) rfl
    exact ret (false, bf) _ false _ _ _ _ rfl rfl dX4_poke_16 ⟨c_2.symm, hbf, Or.inl ⟨rfl, rfl⟩⟩ hP9 hD9 hS
end
set_option maxHeartbeats 1000000 in
set_option maxRecDepth 100000 in
/-- poke(i, b) -/
theorem c_X4_poke (l : Launch) (D : va_G) (t : Nat → ClassId) (x : Nat → Nat) (a : Nat → Nat) (th : Int32) (day : Int32) (kp : Int64) (tw : Int64) (wk : Int32) (k1 : Int64) (k2 : Int64) (o1 : Int64) (o2 : Int64) (ns : Int32) (p0 : Int32) (p1 : Int32) (bf : Nat → Int32) (hbf : fb bf) : Ct l D t x yX4_poke wsX4_poke r_X4_poke [.ref (a 0), .int p0, .int p1] [(a 0, .inr (4, mO a th day kp tw wk k1 k2 o1 o2 ns)), (a 11, .inl (t 0, 20, .inl bf))] (Bool × (Nat → Int32)) (fun (u : Bool × (Nat → Int32)) => u.1 = wi p0 (nI 0) (nI 19) ∧ fb u.2 ∧ ((u.1 = false ∧ u.2 = bf) ∨ (u.1 = true ∧ ∃ k, k < 20 ∧ p0 = nI k ∧ u.2 = upd bf k (bx p1)))) (fun (u : Bool × (Nat → Int32)) => some (.int (bI u.1))) (fun (u : Bool × (Nat → Int32)) => [(a 0, .inr (4, mO a (nI 0) day kp tw wk k1 k2 o1 o2 ns)), (a 11, .inl (t 0, 20, .inl u.2))]) 0 0 := ct_ofZ (by decide) rfl (Nat.le_of_ble_eq_true rfl) rfl (fun p e s m below meth c A ls Q C ret hl hP hD hS => b_X4_poke a th day kp tw wk k1 k2 o1 o2 ns p0 p1 bf hbf C ret hl hP hD hS)
def r_X4_powerCut : Room := { frames := 1, cells := 0, slots := 0, locals := 22 }
section
variable {p : Program} {l : Launch} {e : Env} {s : State} {m : MethodId} {args : Array Value} {below : List Frame} {meth : Method} {c : Code} {Q : State → Prop} {D : va_G} {t : Nat → ClassId} {x : Nat → Nat} {A : Nat → Prop}
set_option maxHeartbeats 1000000 in
set_option maxRecDepth 100000 in
theorem b_X4_powerCut (a : Nat → Nat) (th : Int32) (day : Int32) (kp : Int64) (tw : Int64) (wk : Int32) (k1 : Int64) (k2 : Int64) (o1 : Int64) (o2 : Int64) (ns : Int32) (p0 : Int32) (p1 : Int32) (wr : Nat → Int32)  {H : Heap} {locs : List Loc} {ls : Array Slot} (C : Cx p s m args c cX4_powerCut 3 RX4 D t x A) (ret : RtZ p l e r_X4_powerCut s m args below meth c Q D A cX4_powerCut (Bool × (Nat → Int32)) (fun (u : Bool × (Nat → Int32)) => u.1 = (wi p0 (nI 0) (nI 7) && wi p1 (nI 0) (nI 3)) ∧ ((u.1 = false ∧ u.2 = wr) ∨ (u.1 = true ∧ ∃ k, k < 8 ∧ p0 = nI k ∧ u.2 = upd wr k p1))) (fun (u : Bool × (Nat → Int32)) => some (.int (bI u.1))) (fun (u : Bool × (Nat → Int32)) => [(a 0, .inr (4, mO a (nI 0) day kp tw wk k1 k2 o1 o2 ns)), (a 31, .inl (t 1, 8, .inl u.2))]) 0 0) (hl : lv_has ls 3 [(0, .ref (a 0)), (1, .int p0), (2, .int p1)]) (hP : va_P D vwCl [(a 0, .inr (4, mO a th day kp tw wk k1 k2 o1 o2 ns)), (a 31, .inl (t 1, 8, .inl wr))] H) (hD : va_D A [(a 0, .inr (4, mO a th day kp tw wk k1 k2 o1 o2 ns)), (a 31, .inl (t 1, 8, .inl wr))]) (hS : va_S A s.heap H locs) : W p l e r_X4_powerCut s m args below meth c H locs 0 0 Q (F0 m 0 ls []) := by
  obtain ⟨hx, hcb, hml, hown, hts, hK, hA, hX, hN⟩ := id C
  refine lv_aload_n hx hcb dX4_powerCut_0 rfl (lv_at hl 0 rfl) ?_
  refine lv_iconst (v := nI 0) hx hcb dX4_powerCut_1 (by decide) ?_
  refine va_put (D := D) (ci := 4) (v := .int (nI 0)) (ty := .int) (C := RX4) (T := TX4) (N := 45) hx hcb hts inX4 tyX4 tyX4_ok nX4 hown hK hP hD hS 0 rfl rfl 0 (by decide) (hts _ wf_X4_121) (fun _ h9 => h9) rfl (by decide +kernel) rfl rfl (Nat.le_of_ble_eq_true rfl) dX4_powerCut_2 (fun H locs hP hD hS => ?_)
  have hP : va_P D vwCl [(a 0, .inr (4, mO a (nI 0) day kp tw wk k1 k2 o1 o2 ns)), (a 31, .inl (t 1, 8, .inl wr))] H := hP
  have hD : va_D A [(a 0, .inr (4, mO a (nI 0) day kp tw wk k1 k2 o1 o2 ns)), (a 31, .inl (t 1, 8, .inl wr))] := hD
  refine lv_iload_n hx hcb dX4_powerCut_5 rfl (lv_at hl 1 rfl) ?_
  refine lv_iconst (v := nI 0) hx hcb dX4_powerCut_6 (by decide) ?_
  refine lv_bipush (v := nI 7) hx hcb dX4_powerCut_7 (by decide) ?_
  refine ct_callS (as := [.int p0, .int (nI 0), .int (nI 7)]) (rest := []) (wr := [(a 0, .inr (4, mO a (nI 0) day kp tw wk k1 k2 o1 o2 ns)), (a 31, .inl (t 1, 8, .inl wr))]) C (c_X4_within l D t x p0 (nI 0) (nI 7) ) (va_cwS 3 hts (gt_app (by simpa using ⟨wm_X4_259, ws_yX4_within, wz_X4⟩) (gt_code wc_X4_within)) rfl rfl rfl (by decide +kernel) ⟨Nat.le_of_ble_eq_true rfl, Nat.le_of_ble_eq_true rfl⟩) hP hD hS [] [0, 1] rfl (by decide) rfl (by decide) (by decide) rfl hl.1 rfl (Nat.le_of_ble_eq_true rfl) dX4_powerCut_9 ⟨Nat.le_of_ble_eq_true rfl, Nat.le_of_ble_eq_true rfl⟩ (fun u H locs hw_1 hP hD hS => ?_)
  have hP : va_P D vwCl [(a 0, .inr (4, mO a (nI 0) day kp tw wk k1 k2 o1 o2 ns)), (a 31, .inl (t 1, 8, .inl wr))] H := hP
  have hD : va_D A [(a 0, .inr (4, mO a (nI 0) day kp tw wk k1 k2 o1 o2 ns)), (a 31, .inl (t 1, 8, .inl wr))] := hD
  refine W.eq (g2 := F0 m 12 ls [.int (bI (wi p0 (nI 0) (nI 7)))]) rfl ?_
  refine q_bif_eq (tgt := 24) hx hcb dX4_powerCut_12 (by decide) (fun c_2 => ?_) (fun c_2 => ?_)
  · refine lv_iconst (v := nI 0) hx hcb dX4_powerCut_24 (by decide) ?_
    have hP9 := hP.sub (ws' := [(a 0, .inr (4, mO a (nI 0) day kp tw wk k1 k2 o1 o2 ns)), (a 31, .inl (t 1, 8, .inl wr))]) [0, 1] rfl
    have hD9 := hD.sub (ws' := [(a 0, .inr (4, mO a (nI 0) day kp tw wk k1 k2 o1 o2 ns)), (a 31, .inl (t 1, 8, .inl wr))]) [0, 1] (by decide) rfl
    exact ret (false, wr) _ false _ _ _ _ rfl rfl dX4_powerCut_25 ⟨by simp [c_2], Or.inl ⟨rfl, rfl⟩⟩ hP9 hD9 hS
  · have c9t := c_2
    refine lv_iload_n hx hcb dX4_powerCut_15 rfl (lv_at hl 2 rfl) ?_
    refine lv_iconst (v := nI 0) hx hcb dX4_powerCut_16 (by decide) ?_
    refine lv_iconst (v := nI 3) hx hcb dX4_powerCut_17 (by decide) ?_
    refine ct_callS (as := [.int p1, .int (nI 0), .int (nI 3)]) (rest := []) (wr := [(a 0, .inr (4, mO a (nI 0) day kp tw wk k1 k2 o1 o2 ns)), (a 31, .inl (t 1, 8, .inl wr))]) C (c_X4_within l D t x p1 (nI 0) (nI 3) ) (va_cwS 3 hts (gt_app (by simpa using ⟨wm_X4_259, ws_yX4_within, wz_X4⟩) (gt_code wc_X4_within)) rfl rfl rfl (by decide +kernel) ⟨Nat.le_of_ble_eq_true rfl, Nat.le_of_ble_eq_true rfl⟩) hP hD hS [] [0, 1] rfl (by decide) rfl (by decide) (by decide) rfl hl.1 rfl (Nat.le_of_ble_eq_true rfl) dX4_powerCut_18 ⟨Nat.le_of_ble_eq_true rfl, Nat.le_of_ble_eq_true rfl⟩ (fun u H locs hw_3 hP hD hS => ?_)
    have hP : va_P D vwCl [(a 0, .inr (4, mO a (nI 0) day kp tw wk k1 k2 o1 o2 ns)), (a 31, .inl (t 1, 8, .inl wr))] H := hP
    have hD : va_D A [(a 0, .inr (4, mO a (nI 0) day kp tw wk k1 k2 o1 o2 ns)), (a 31, .inl (t 1, 8, .inl wr))] := hD
    refine W.eq (g2 := F0 m 21 ls [.int (bI (wi p1 (nI 0) (nI 3)))]) rfl ?_
    refine q_bif_ne (tgt := 26) hx hcb dX4_powerCut_21 (by decide) (fun c_4 => ?_) (fun c_4 => ?_)
    · obtain ⟨k, hk0, hk7, rfl⟩ := wi_nat (by decide) (by decide) c9t
      refine lv_aload_n hx hcb dX4_powerCut_26 rfl (lv_at hl 0 rfl) ?_
      refine va_get (D := D) (ci := 4) (v := .ref (a 31)) (C := RX4) (T := TX4) (N := 45) hx hcb hts inX4 hown hK hP 0 rfl rfl 40 (by decide) (hts _ wf_X4_103) (fun _ h9 => h9) rfl dX4_powerCut_27 ?_
      refine lv_iload_n hx hcb dX4_powerCut_30 rfl (lv_at hl 1 rfl) ?_
      refine lv_iload_n hx hcb dX4_powerCut_31 rfl (lv_at hl 2 rfl) ?_
      refine q_iast (j := k) (v := p1) hx hcb hK hP hD hS 1 1 rfl rfl (by omega) (by decide) dX4_powerCut_32 (fun H locs hP hD hS => ?_)
      have hP : va_P D vwCl [(a 0, .inr (4, mO a (nI 0) day kp tw wk k1 k2 o1 o2 ns)), (a 31, .inl (t 1, 8, .inl (upd wr k p1)))] H := hP
      have hD : va_D A [(a 0, .inr (4, mO a (nI 0) day kp tw wk k1 k2 o1 o2 ns)), (a 31, .inl (t 1, 8, .inl (upd wr k p1)))] := hD
      refine lv_iconst (v := nI 1) hx hcb dX4_powerCut_33 (by decide) ?_
      have hP9 := hP.sub (ws' := [(a 0, .inr (4, mO a (nI 0) day kp tw wk k1 k2 o1 o2 ns)), (a 31, .inl (t 1, 8, .inl (upd wr k p1)))]) [0, 1] rfl
      have hD9 := hD.sub (ws' := [(a 0, .inr (4, mO a (nI 0) day kp tw wk k1 k2 o1 o2 ns)), (a 31, .inl (t 1, 8, .inl (upd wr k p1)))]) [0, 1] (by decide) rfl
      exact ret (true, upd wr k p1) _ true _ _ _ _ rfl rfl dX4_powerCut_34 ⟨by simp [c_2, c_4], Or.inr ⟨rfl, k, by omega, rfl, rfl⟩⟩ hP9 hD9 hS
    · refine lv_iconst (v := nI 0) hx hcb dX4_powerCut_24 (by decide) ?_
      have hP9 := hP.sub (ws' := [(a 0, .inr (4, mO a (nI 0) day kp tw wk k1 k2 o1 o2 ns)), (a 31, .inl (t 1, 8, .inl wr))]) [0, 1] rfl
      have hD9 := hD.sub (ws' := [(a 0, .inr (4, mO a (nI 0) day kp tw wk k1 k2 o1 o2 ns)), (a 31, .inl (t 1, 8, .inl wr))]) [0, 1] (by decide) rfl
      exact ret (false, wr) _ false _ _ _ _ rfl rfl dX4_powerCut_25 ⟨by simp [c_2, c_4], Or.inl ⟨rfl, rfl⟩⟩ hP9 hD9 hS
end
set_option maxHeartbeats 1000000 in
set_option maxRecDepth 100000 in
/-- powerCut(meter, n) -/
theorem c_X4_powerCut (l : Launch) (D : va_G) (t : Nat → ClassId) (x : Nat → Nat) (a : Nat → Nat) (th : Int32) (day : Int32) (kp : Int64) (tw : Int64) (wk : Int32) (k1 : Int64) (k2 : Int64) (o1 : Int64) (o2 : Int64) (ns : Int32) (p0 : Int32) (p1 : Int32) (wr : Nat → Int32)  : Ct l D t x yX4_powerCut wsX4_powerCut r_X4_powerCut [.ref (a 0), .int p0, .int p1] [(a 0, .inr (4, mO a th day kp tw wk k1 k2 o1 o2 ns)), (a 31, .inl (t 1, 8, .inl wr))] (Bool × (Nat → Int32)) (fun (u : Bool × (Nat → Int32)) => u.1 = (wi p0 (nI 0) (nI 7) && wi p1 (nI 0) (nI 3)) ∧ ((u.1 = false ∧ u.2 = wr) ∨ (u.1 = true ∧ ∃ k, k < 8 ∧ p0 = nI k ∧ u.2 = upd wr k p1))) (fun (u : Bool × (Nat → Int32)) => some (.int (bI u.1))) (fun (u : Bool × (Nat → Int32)) => [(a 0, .inr (4, mO a (nI 0) day kp tw wk k1 k2 o1 o2 ns)), (a 31, .inl (t 1, 8, .inl u.2))]) 0 0 := ct_ofZ (by decide) rfl (Nat.le_of_ble_eq_true rfl) rfl (fun p e s m below meth c A ls Q C ret hl hP hD hS => b_X4_powerCut a th day kp tw wk k1 k2 o1 o2 ns p0 p1 wr  C ret hl hP hD hS)
def r_X4_today : Room := { frames := 0, cells := 0, slots := 0, locals := 0 }
section
variable {p : Program} {l : Launch} {e : Env} {s : State} {m : MethodId} {args : Array Value} {below : List Frame} {meth : Method} {c : Code} {Q : State → Prop} {D : va_G} {t : Nat → ClassId} {x : Nat → Nat} {A : Nat → Prop}
set_option maxHeartbeats 1000000 in
set_option maxRecDepth 100000 in
theorem lp_X4_today_24 (a : Nat → Nat) (th : Int32) (day : Int32) (kp : Int64) (tw : Int64) (wk : Int32) (k1 : Int64) (k2 : Int64) (o1 : Int64) (o2 : Int64) (ns : Int32) (p0 : Int32) (mi : Nat → Int32)  (C : Cx p s m args c cX4_today 3 RX4 D t x A) (kx0 : ∀ (i1 : Nat) (g1 : Nat → Int32) (H : Heap) (locs : List Loc) (ls : Array Slot), (i1 ≤ 128) → ((i1 = 0 ∧ g1 = mi) ∨ (day < p0 ∧ ∀ j, j < i1 → g1 j = nI 0)) → ((day < p0 ∧ ∀ j, j < 128 → g1 j = nI 0) ∨ (¬ day < p0 ∧ g1 = mi)) → va_P D vwCl [(a 0, .inr (4, mO a (nI 0) day kp tw wk k1 k2 o1 o2 ns)), (a 35, .inl (t 1, 128, .inl g1))] H → va_D A [(a 0, .inr (4, mO a (nI 0) day kp tw wk k1 k2 o1 o2 ns)), (a 35, .inl (t 1, 128, .inl g1))] → va_S A s.heap H locs → lv_has ls 3 [(2, .int (nI i1)), (0, .ref (a 0)), (1, .int p0)] → W p l e r_X4_today s m args below meth c H locs 0 0 Q (F0 m 52 ls [])) : ∀ (fu : Nat) (i1 : Nat) (g1 : Nat → Int32) (H : Heap) (locs : List Loc) (ls : Array Slot), 128 - i1 < fu → (i1 ≤ 128) → ((i1 = 0 ∧ g1 = mi) ∨ (day < p0 ∧ ∀ j, j < i1 → g1 j = nI 0)) → va_P D vwCl [(a 0, .inr (4, mO a (nI 0) day kp tw wk k1 k2 o1 o2 ns)), (a 35, .inl (t 1, 128, .inl g1))] H → va_D A [(a 0, .inr (4, mO a (nI 0) day kp tw wk k1 k2 o1 o2 ns)), (a 35, .inl (t 1, 128, .inl g1))] → va_S A s.heap H locs → lv_has ls 3 [(2, .int (nI i1)), (0, .ref (a 0)), (1, .int p0)] → W p l e r_X4_today s m args below meth c H locs 0 0 Q (F0 m 24 ls []) := by
  obtain ⟨hx, hcb, hml, hown, hts, hK, hA, hX, hN⟩ := id C
  intro fu
  induction fu with
  | zero =>
    intro i1 g1 H locs ls hz
    exact absurd hz (Nat.not_lt_zero _)
  | succ fu ih =>
    intro i1 g1 H locs ls hz hi1 hg1 hP hD hS hl
    refine lv_iload_n hx hcb dX4_today_24 rfl (lv_at hl 0 rfl) ?_
    refine lv_sipush (v := nI 128) hx hcb dX4_today_25 (by decide) ?_
    refine q_ge (x := i1) (y := 128) (tgt := 52) hx hcb (by omega) (by omega) dX4_today_28 (by decide) (fun c_3 => ?_) (fun c_3 => ?_)
    · exact kx0 i1 g1 _ _ _ hi1 hg1 (Or.inl (by rcases hg1 with q | q; exact absurd q.1 (by omega); exact ⟨q.1, fun j hj => q.2 j (by omega)⟩)) hP hD hS (lv_sub hl [0, 1, 2] rfl)
    · refine lv_iload_n hx hcb dX4_today_31 rfl (lv_at hl 2 rfl) ?_
      refine lv_aload_n hx hcb dX4_today_32 rfl (lv_at hl 1 rfl) ?_
      refine va_get (D := D) (ci := 4) (v := .int day) (C := RX4) (T := TX4) (N := 45) hx hcb hts inX4 hown hK hP 0 rfl rfl 12 (by decide) (hts _ wf_X4_255) (fun _ h9 => h9) rfl dX4_today_33 ?_
      refine lv_icmp_le (tgt := 52) hx hcb dX4_today_36 (by decide) (fun c_4 => ?_) (fun c_4 => ?_)
      · exact kx0 i1 g1 _ _ _ hi1 hg1 (Or.inr ⟨Int32.not_lt.mpr c_4, by rcases hg1 with q | q; exact q.2; exact absurd q.1 (Int32.not_lt.mpr c_4)⟩) hP hD hS (lv_sub hl [0, 1, 2] rfl)
      · refine lv_aload_n hx hcb dX4_today_39 rfl (lv_at hl 1 rfl) ?_
        refine va_get (D := D) (ci := 4) (v := .ref (a 35)) (C := RX4) (T := TX4) (N := 45) hx hcb hts inX4 hown hK hP 0 rfl rfl 44 (by decide) (hts _ wf_X4_115) (fun _ h9 => h9) rfl dX4_today_40 ?_
        refine lv_iload_n hx hcb dX4_today_43 rfl (lv_at hl 0 rfl) ?_
        refine lv_iconst (v := nI 0) hx hcb dX4_today_44 (by decide) ?_
        refine q_iast (j := i1) (v := nI 0) hx hcb hK hP hD hS 1 1 rfl rfl (by omega) (by decide) dX4_today_45 (fun H locs hP hD hS => ?_)
        have hP : va_P D vwCl [(a 0, .inr (4, mO a (nI 0) day kp tw wk k1 k2 o1 o2 ns)), (a 35, .inl (t 1, 128, .inl (upd g1 i1 (nI 0))))] H := hP
        have hD : va_D A [(a 0, .inr (4, mO a (nI 0) day kp tw wk k1 k2 o1 o2 ns)), (a 35, .inl (t 1, 128, .inl (upd g1 i1 (nI 0))))] := hD
        refine lv_iinc (v := nI (i1 + 1)) (lv' := [(2, .int (nI (i1 + 1))), (0, .ref (a 0)), (1, .int p0)]) hx hcb dX4_today_46 hl (k := 0) rfl (q_inc i1 1 rfl) (by decide) rfl (fun ls hl => ?_)
        refine lv_goto (tgt := 24) hx hcb dX4_today_49 (by decide) ?_
        exact ih (i1 + 1) (upd g1 i1 (nI 0)) _ _ _ (by omega) (by omega) (Or.inr ⟨Int32.not_le.mp c_4, upd_s (fun j hj => by rcases hg1 with q | q; exact absurd hj (by omega); exact q.2 j hj) rfl⟩) hP hD hS (lv_sub hl [0, 1, 2] rfl)
set_option maxHeartbeats 1000000 in
set_option maxRecDepth 100000 in
theorem b_X4_today (a : Nat → Nat) (th : Int32) (day : Int32) (kp : Int64) (tw : Int64) (wk : Int32) (k1 : Int64) (k2 : Int64) (o1 : Int64) (o2 : Int64) (ns : Int32) (p0 : Int32) (mi : Nat → Int32)  {H : Heap} {locs : List Loc} {ls : Array Slot} (C : Cx p s m args c cX4_today 3 RX4 D t x A) (ret : RtZ p l e r_X4_today s m args below meth c Q D A cX4_today (Bool × Int32 × (Nat → Int32)) (fun (u : Bool × Int32 × (Nat → Int32)) => (u.1 = false ∧ (p0 < day ∨ nI 1000000 < p0) ∧ u.2.1 = day ∧ u.2.2 = mi) ∨ (u.1 = true ∧ ¬ p0 < day ∧ ¬ nI 1000000 < p0 ∧ u.2.1 = p0 ∧ ((day < p0 ∧ ∀ j, j < 128 → u.2.2 j = nI 0) ∨ (¬ day < p0 ∧ u.2.2 = mi)))) (fun (u : Bool × Int32 × (Nat → Int32)) => some (.int (bI u.1))) (fun (u : Bool × Int32 × (Nat → Int32)) => [(a 0, .inr (4, mO a (nI 0) u.2.1 kp tw wk k1 k2 o1 o2 ns)), (a 35, .inl (t 1, 128, .inl u.2.2))]) 0 0) (hl : lv_has ls 3 [(0, .ref (a 0)), (1, .int p0)]) (hP : va_P D vwCl [(a 0, .inr (4, mO a th day kp tw wk k1 k2 o1 o2 ns)), (a 35, .inl (t 1, 128, .inl mi))] H) (hD : va_D A [(a 0, .inr (4, mO a th day kp tw wk k1 k2 o1 o2 ns)), (a 35, .inl (t 1, 128, .inl mi))]) (hS : va_S A s.heap H locs) : W p l e r_X4_today s m args below meth c H locs 0 0 Q (F0 m 0 ls []) := by
  obtain ⟨hx, hcb, hml, hown, hts, hK, hA, hX, hN⟩ := id C
  refine lv_aload_n hx hcb dX4_today_0 rfl (lv_at hl 0 rfl) ?_
  refine lv_iconst (v := nI 0) hx hcb dX4_today_1 (by decide) ?_
  refine va_put (D := D) (ci := 4) (v := .int (nI 0)) (ty := .int) (C := RX4) (T := TX4) (N := 45) hx hcb hts inX4 tyX4 tyX4_ok nX4 hown hK hP hD hS 0 rfl rfl 0 (by decide) (hts _ wf_X4_121) (fun _ h9 => h9) rfl (by decide +kernel) rfl rfl (Nat.le_of_ble_eq_true rfl) dX4_today_2 (fun H locs hP hD hS => ?_)
  have hP : va_P D vwCl [(a 0, .inr (4, mO a (nI 0) day kp tw wk k1 k2 o1 o2 ns)), (a 35, .inl (t 1, 128, .inl mi))] H := hP
  have hD : va_D A [(a 0, .inr (4, mO a (nI 0) day kp tw wk k1 k2 o1 o2 ns)), (a 35, .inl (t 1, 128, .inl mi))] := hD
  refine lv_iload_n hx hcb dX4_today_5 rfl (lv_at hl 1 rfl) ?_
  refine lv_aload_n hx hcb dX4_today_6 rfl (lv_at hl 0 rfl) ?_
  refine va_get (D := D) (ci := 4) (v := .int day) (C := RX4) (T := TX4) (N := 45) hx hcb hts inX4 hown hK hP 0 rfl rfl 12 (by decide) (hts _ wf_X4_255) (fun _ h9 => h9) rfl dX4_today_7 ?_
  refine lv_icmp_lt (tgt := 20) hx hcb dX4_today_10 (by decide) (fun c_1 => ?_) (fun c_1 => ?_)
  · refine lv_iconst (v := nI 0) hx hcb dX4_today_20 (by decide) ?_
    have hP9 := hP.sub (ws' := [(a 0, .inr (4, mO a (nI 0) day kp tw wk k1 k2 o1 o2 ns)), (a 35, .inl (t 1, 128, .inl mi))]) [0, 1] rfl
    have hD9 := hD.sub (ws' := [(a 0, .inr (4, mO a (nI 0) day kp tw wk k1 k2 o1 o2 ns)), (a 35, .inl (t 1, 128, .inl mi))]) [0, 1] (by decide) rfl
    exact ret (false, day, mi) _ false _ _ _ _ rfl rfl dX4_today_21 (Or.inl ⟨rfl, Or.inl c_1, rfl, rfl⟩) hP9 hD9 hS
  · refine lv_iload_n hx hcb dX4_today_13 rfl (lv_at hl 1 rfl) ?_
    refine lv_ldcw (v := nI 1000000) hx hcb hown (hts _ wk_X4_258) dX4_today_14 ?_
    refine lv_icmp_le (tgt := 22) hx hcb dX4_today_17 (by decide) (fun c_2 => ?_) (fun c_2 => ?_)
    · refine lv_iconst (v := nI 0) hx hcb dX4_today_22 (by decide) ?_
      refine lv_istore_n (lv' := [(2, .int (nI 0)), (0, .ref (a 0)), (1, .int p0)]) hx hcb dX4_today_23 rfl hl (by decide) rfl (fun ls hl => ?_)
      refine lp_X4_today_24 a th day kp tw wk k1 k2 o1 o2 ns p0 mi  C (fun i1 g1 H locs ls hi1 hg1 he1 hP hD hS hl => ?_) ((128 - 0) + 1) 0 mi _ _ _ (Nat.lt_succ_self _) (Nat.zero_le _) (Or.inl ⟨rfl, rfl⟩) hP hD hS (lv_sub hl [0, 1, 2] rfl)
      refine lv_aload_n hx hcb dX4_today_52 rfl (lv_at hl 1 rfl) ?_
      refine lv_iload_n hx hcb dX4_today_53 rfl (lv_at hl 2 rfl) ?_
      refine va_put (D := D) (ci := 4) (v := .int p0) (ty := .int) (C := RX4) (T := TX4) (N := 45) hx hcb hts inX4 tyX4 tyX4_ok nX4 hown hK hP hD hS 0 rfl rfl 12 (by decide) (hts _ wf_X4_255) (fun _ h9 => h9) rfl (by decide +kernel) rfl rfl (Nat.le_of_ble_eq_true rfl) dX4_today_54 (fun H locs hP hD hS => ?_)
      have hP : va_P D vwCl [(a 0, .inr (4, mO a (nI 0) p0 kp tw wk k1 k2 o1 o2 ns)), (a 35, .inl (t 1, 128, .inl g1))] H := hP
      have hD : va_D A [(a 0, .inr (4, mO a (nI 0) p0 kp tw wk k1 k2 o1 o2 ns)), (a 35, .inl (t 1, 128, .inl g1))] := hD
      refine lv_iconst (v := nI 1) hx hcb dX4_today_57 (by decide) ?_
      have hP9 := hP.sub (ws' := [(a 0, .inr (4, mO a (nI 0) p0 kp tw wk k1 k2 o1 o2 ns)), (a 35, .inl (t 1, 128, .inl g1))]) [0, 1] rfl
      have hD9 := hD.sub (ws' := [(a 0, .inr (4, mO a (nI 0) p0 kp tw wk k1 k2 o1 o2 ns)), (a 35, .inl (t 1, 128, .inl g1))]) [0, 1] (by decide) rfl
      exact ret (true, p0, g1) _ true _ _ _ _ rfl rfl dX4_today_58 (Or.inr ⟨rfl, c_1, Int32.not_lt.mpr c_2, rfl, he1⟩) hP9 hD9 hS
    · refine lv_iconst (v := nI 0) hx hcb dX4_today_20 (by decide) ?_
      have hP9 := hP.sub (ws' := [(a 0, .inr (4, mO a (nI 0) day kp tw wk k1 k2 o1 o2 ns)), (a 35, .inl (t 1, 128, .inl mi))]) [0, 1] rfl
      have hD9 := hD.sub (ws' := [(a 0, .inr (4, mO a (nI 0) day kp tw wk k1 k2 o1 o2 ns)), (a 35, .inl (t 1, 128, .inl mi))]) [0, 1] (by decide) rfl
      exact ret (false, day, mi) _ false _ _ _ _ rfl rfl dX4_today_21 (Or.inl ⟨rfl, Or.inr (Int32.not_le.mp c_2), rfl, rfl⟩) hP9 hD9 hS
end
set_option maxHeartbeats 1000000 in
set_option maxRecDepth 100000 in
/-- today(d) -/
theorem c_X4_today (l : Launch) (D : va_G) (t : Nat → ClassId) (x : Nat → Nat) (a : Nat → Nat) (th : Int32) (day : Int32) (kp : Int64) (tw : Int64) (wk : Int32) (k1 : Int64) (k2 : Int64) (o1 : Int64) (o2 : Int64) (ns : Int32) (p0 : Int32) (mi : Nat → Int32)  : Ct l D t x yX4_today wsX4_today r_X4_today [.ref (a 0), .int p0] [(a 0, .inr (4, mO a th day kp tw wk k1 k2 o1 o2 ns)), (a 35, .inl (t 1, 128, .inl mi))] (Bool × Int32 × (Nat → Int32)) (fun (u : Bool × Int32 × (Nat → Int32)) => (u.1 = false ∧ (p0 < day ∨ nI 1000000 < p0) ∧ u.2.1 = day ∧ u.2.2 = mi) ∨ (u.1 = true ∧ ¬ p0 < day ∧ ¬ nI 1000000 < p0 ∧ u.2.1 = p0 ∧ ((day < p0 ∧ ∀ j, j < 128 → u.2.2 j = nI 0) ∨ (¬ day < p0 ∧ u.2.2 = mi)))) (fun (u : Bool × Int32 × (Nat → Int32)) => some (.int (bI u.1))) (fun (u : Bool × Int32 × (Nat → Int32)) => [(a 0, .inr (4, mO a (nI 0) u.2.1 kp tw wk k1 k2 o1 o2 ns)), (a 35, .inl (t 1, 128, .inl u.2.2))]) 0 0 := ct_ofZ (by decide) rfl (Nat.le_of_ble_eq_true rfl) rfl (fun p e s m below meth c A ls Q C ret hl hP hD hS => b_X4_today a th day kp tw wk k1 k2 o1 o2 ns p0 mi  C ret hl hP hD hS)
