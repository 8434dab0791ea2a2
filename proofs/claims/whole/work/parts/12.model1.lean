def r_X4_rot : Room := { frames := 0, cells := 0, slots := 0, locals := 0 }
section
variable {p : Program} {l : Launch} {e : Env} {s : State} {m : MethodId} {args : Array Value} {below : List Frame} {meth : Method} {c : Code} {Q : State → Prop} {D : va_G} {t : Nat → ClassId} {x : Nat → Nat} {A : Nat → Prop}
set_option maxHeartbeats 1000000 in
set_option maxRecDepth 100000 in
theorem b_X4_rot (p0 : Int32) (p1 : Int32)  {H : Heap} {locs : List Loc} {ls : Array Slot} (C : Cx p s m args c cX4_rot 2 RX4 D t x A) (ret : RtI p l e r_X4_rot s m args below meth c Q D A cX4_rot (Unit) (fun (_ : Unit) => True) (fun (_ : Unit) => some (.int (ro p0 p1))) (fun (_ : Unit) => []) 0 0) (hl : lv_has ls 2 [(0, .int p0), (1, .int p1)]) (hP : va_P D vwCl [] H) (hD : va_D A []) (hS : va_S A s.heap H locs) : W p l e r_X4_rot s m args below meth c H locs 0 0 Q (F0 m 0 ls []) := by
  obtain ⟨hx, hcb, hml, hown, hts, hK, hA, hX, hN⟩ := id C
  refine lv_iload_n hx hcb dX4_rot_0 rfl (lv_at hl 0 rfl) ?_
  refine lv_iload_n hx hcb dX4_rot_1 rfl (lv_at hl 1 rfl) ?_
  refine lv_iushr (v := us p0 p1) hx hcb dX4_rot_2 rfl ?_
  refine lv_iload_n hx hcb dX4_rot_3 rfl (lv_at hl 0 rfl) ?_
  refine lv_bipush (v := nI 32) hx hcb dX4_rot_4 (by decide) ?_
  refine lv_iload_n hx hcb dX4_rot_6 rfl (lv_at hl 1 rfl) ?_
  refine lv_isub hx hcb dX4_rot_7 ?_
  refine lv_ishl hx hcb dX4_rot_8 ?_
  refine lv_ior hx hcb dX4_rot_9 ?_
  have hP9 := hP.sub (ws' := []) [] rfl
  have hD9 := hD.sub (ws' := []) [] (by decide) rfl
  exact ret () _ _ _ _ _ rfl dX4_rot_10 trivial hP9 hD9 hS
end
set_option maxHeartbeats 1000000 in
set_option maxRecDepth 100000 in
/-- rot(x, k) -/
theorem c_X4_rot (l : Launch) (D : va_G) (t : Nat → ClassId) (x : Nat → Nat) (p0 : Int32) (p1 : Int32)  : Ct l D t x yX4_rot wsX4_rot r_X4_rot [.int p0, .int p1] [] (Unit) (fun (_ : Unit) => True) (fun (_ : Unit) => some (.int (ro p0 p1))) (fun (_ : Unit) => []) 0 0 := ct_ofI (by decide) rfl (Nat.le_of_ble_eq_true rfl) rfl (fun p e s m below meth c A ls Q C ret hl hP hD hS => b_X4_rot p0 p1  C ret hl hP hD hS)
def r_X4_within : Room := { frames := 0, cells := 0, slots := 0, locals := 0 }
section
variable {p : Program} {l : Launch} {e : Env} {s : State} {m : MethodId} {args : Array Value} {below : List Frame} {meth : Method} {c : Code} {Q : State → Prop} {D : va_G} {t : Nat → ClassId} {x : Nat → Nat} {A : Nat → Prop}
set_option maxHeartbeats 1000000 in
set_option maxRecDepth 100000 in
theorem b_X4_within (p0 : Int32) (p1 : Int32) (p2 : Int32)  {H : Heap} {locs : List Loc} {ls : Array Slot} (C : Cx p s m args c cX4_within 3 RX4 D t x A) (ret : RtZ p l e r_X4_within s m args below meth c Q D A cX4_within (Unit) (fun (_ : Unit) => True) (fun (_ : Unit) => some (.int (bI (wi p0 p1 p2)))) (fun (_ : Unit) => []) 0 0) (hl : lv_has ls 3 [(0, .int p0), (1, .int p1), (2, .int p2)]) (hP : va_P D vwCl [] H) (hD : va_D A []) (hS : va_S A s.heap H locs) : W p l e r_X4_within s m args below meth c H locs 0 0 Q (F0 m 0 ls []) := by
  obtain ⟨hx, hcb, hml, hown, hts, hK, hA, hX, hN⟩ := id C
  refine lv_iload_n hx hcb dX4_within_0 rfl (lv_at hl 0 rfl) ?_
  refine lv_iload_n hx hcb dX4_within_1 rfl (lv_at hl 1 rfl) ?_
  refine lv_icmp_lt (tgt := 14) hx hcb dX4_within_2 (by decide) (fun c_1 => ?_) (fun c_1 => ?_)
  · refine lv_iconst (v := nI 0) hx hcb dX4_within_14 (by decide) ?_
    have hP9 := hP.sub (ws' := []) [] rfl
    have hD9 := hD.sub (ws' := []) [] (by decide) rfl
    exact ret () _ false _ _ _ _ rfl (by simp [wi, c_1]) dX4_within_15 trivial hP9 hD9 hS
  · refine lv_iload_n hx hcb dX4_within_5 rfl (lv_at hl 0 rfl) ?_
    refine lv_iload_n hx hcb dX4_within_6 rfl (lv_at hl 2 rfl) ?_
    refine lv_icmp_gt (tgt := 14) hx hcb dX4_within_7 (by decide) (fun c_2 => ?_) (fun c_2 => ?_)
    · refine lv_iconst (v := nI 0) hx hcb dX4_within_14 (by decide) ?_
      have hP9 := hP.sub (ws' := []) [] rfl
      have hD9 := hD.sub (ws' := []) [] (by decide) rfl
      exact ret () _ false _ _ _ _ rfl (by simp [wi, c_1, c_2]) dX4_within_15 trivial hP9 hD9 hS
    · refine lv_iconst (v := nI 1) hx hcb dX4_within_10 (by decide) ?_
      refine lv_goto (tgt := 15) hx hcb dX4_within_11 (by decide) ?_
      have hP9 := hP.sub (ws' := []) [] rfl
      have hD9 := hD.sub (ws' := []) [] (by decide) rfl
      exact ret () _ true _ _ _ _ rfl (by simp [wi, c_1, c_2]) dX4_within_15 trivial hP9 hD9 hS
end
set_option maxHeartbeats 1000000 in
set_option maxRecDepth 100000 in
/-- within(v, low, high) -/
theorem c_X4_within (l : Launch) (D : va_G) (t : Nat → ClassId) (x : Nat → Nat) (p0 : Int32) (p1 : Int32) (p2 : Int32)  : Ct l D t x yX4_within wsX4_within r_X4_within [.int p0, .int p1, .int p2] [] (Unit) (fun (_ : Unit) => True) (fun (_ : Unit) => some (.int (bI (wi p0 p1 p2)))) (fun (_ : Unit) => []) 0 0 := ct_ofZ (by decide) rfl (Nat.le_of_ble_eq_true rfl) rfl (fun p e s m below meth c A ls Q C ret hl hP hD hS => b_X4_within p0 p1 p2  C ret hl hP hD hS)
def r_X4_block : Room := { frames := 1, cells := 0, slots := 0, locals := 21 }
section
variable {p : Program} {l : Launch} {e : Env} {s : State} {m : MethodId} {args : Array Value} {below : List Frame} {meth : Method} {c : Code} {Q : State → Prop} {D : va_G} {t : Nat → ClassId} {x : Nat → Nat} {A : Nat → Prop}
set_option maxHeartbeats 1000000 in
set_option maxRecDepth 100000 in
theorem lp_X4_block_2 (a : Nat → Nat) (fr : Nat) (th : Int32) (day : Int32) (kp : Int64) (tw : Int64) (wk : Int32) (k1 : Int64) (k2 : Int64) (o1 : Int64) (o2 : Int64) (ns : Int32) (row : Nat → Int32) (w : Nat → Int32) (hh : Nat → Int32) (nw_ : Nat → Int32) (hfr : fr + 64 ≤ 448) (C : Cx p s m args c cX4_block 8 RX4 D t x A) (kx0 : ∀ (i : Nat) (g : Nat → Int32) (H : Heap) (locs : List Loc) (ls : Array Slot), (i ≤ 16) → (∀ j, j < i → g j = wA row fr i j) → (16 = i) → va_P D vwCl [(a 0, .inr (4, mO a th day kp tw wk k1 k2 o1 o2 ns)), (a 1, .inl (t 1, 64, .inl k_cu)), (a 3, .inl (t 0, 448, .inl row)), (a 4, .inl (t 1, 64, .inl g)), (a 5, .inl (t 1, 8, .inl hh)), (a 6, .inl (t 1, 8, .inl nw_))] H → va_D A [(a 0, .inr (4, mO a th day kp tw wk k1 k2 o1 o2 ns)), (a 1, .inl (t 1, 64, .inl k_cu)), (a 3, .inl (t 0, 448, .inl row)), (a 4, .inl (t 1, 64, .inl g)), (a 5, .inl (t 1, 8, .inl hh)), (a 6, .inl (t 1, 8, .inl nw_))] → va_S A s.heap H locs → lv_has ls 8 [(2, .int (nI i)), (0, .ref (a 0)), (1, .int (nI fr))] → W p l e r_X4_block s m args below meth c H locs 0 0 Q (F0 m 84 ls [])) : ∀ (fu : Nat) (i : Nat) (g : Nat → Int32) (H : Heap) (locs : List Loc) (ls : Array Slot), 16 - i < fu → (i ≤ 16) → (∀ j, j < i → g j = wA row fr i j) → va_P D vwCl [(a 0, .inr (4, mO a th day kp tw wk k1 k2 o1 o2 ns)), (a 1, .inl (t 1, 64, .inl k_cu)), (a 3, .inl (t 0, 448, .inl row)), (a 4, .inl (t 1, 64, .inl g)), (a 5, .inl (t 1, 8, .inl hh)), (a 6, .inl (t 1, 8, .inl nw_))] H → va_D A [(a 0, .inr (4, mO a th day kp tw wk k1 k2 o1 o2 ns)), (a 1, .inl (t 1, 64, .inl k_cu)), (a 3, .inl (t 0, 448, .inl row)), (a 4, .inl (t 1, 64, .inl g)), (a 5, .inl (t 1, 8, .inl hh)), (a 6, .inl (t 1, 8, .inl nw_))] → va_S A s.heap H locs → lv_has ls 8 [(2, .int (nI i)), (0, .ref (a 0)), (1, .int (nI fr))] → W p l e r_X4_block s m args below meth c H locs 0 0 Q (F0 m 2 ls []) := by
  obtain ⟨hx, hcb, hml, hown, hts, hK, hA, hX, hN⟩ := id C
  intro fu
  induction fu with
  | zero =>
    intro i g H locs ls hz
    exact absurd hz (Nat.not_lt_zero _)
  | succ fu ih =>
    intro i g H locs ls hz hi hg hP hD hS hl
    refine lv_iload_n hx hcb dX4_block_2 rfl (lv_at hl 0 rfl) ?_
    refine lv_bipush (v := nI 16) hx hcb dX4_block_3 (by decide) ?_
    refine q_ge (x := i) (y := 16) (tgt := 84) hx hcb (by omega) (by omega) dX4_block_5 (by decide) (fun c_1 => ?_) (fun c_1 => ?_)
    · exact kx0 i g _ _ _ hi hg (by omega) hP hD hS (lv_sub hl [0, 1, 2] rfl)
    · refine lv_iload_n hx hcb dX4_block_8 rfl (lv_at hl 2 rfl) ?_
      refine lv_iconst (v := nI 4) hx hcb dX4_block_9 (by decide) ?_
      refine lv_iload_n hx hcb dX4_block_10 rfl (lv_at hl 0 rfl) ?_
      refine q_imul (x := 4) (y := i) hx hcb dX4_block_11 ?_
      refine q_iadd (x := fr) (y := (4 * i)) hx hcb dX4_block_12 ?_
      refine lv_istore_n (lv' := [(3, .int (nI (fr + (4 * i)))), (2, .int (nI i)), (0, .ref (a 0)), (1, .int (nI fr))]) hx hcb dX4_block_13 rfl hl (by decide) rfl (fun ls hl => ?_)
      refine lv_aload_n hx hcb dX4_block_14 rfl (lv_at hl 2 rfl) ?_
      refine va_get (D := D) (ci := 4) (v := .ref (a 4)) (C := RX4) (T := TX4) (N := 45) hx hcb hts inX4 hown hK hP 0 rfl rfl 4 (by decide) (hts _ wf_X4_20) (fun _ h9 => h9) rfl dX4_block_15 ?_
      refine lv_iload_n hx hcb dX4_block_18 rfl (lv_at hl 1 rfl) ?_
      refine lv_aload_n hx hcb dX4_block_19 rfl (lv_at hl 2 rfl) ?_
      refine va_get (D := D) (ci := 4) (v := .ref (a 3)) (C := RX4) (T := TX4) (N := 45) hx hcb hts inX4 hown hK hP 0 rfl rfl 3 (by decide) (hts _ wf_X4_16) (fun _ h9 => h9) rfl dX4_block_20 ?_
      refine lv_iload_n hx hcb dX4_block_23 rfl (lv_at hl 0 rfl) ?_
      refine q_bald (j := fr + (4 * i)) hx hcb hK hP 2 0 rfl rfl (by omega) (by decide) dX4_block_24 ?_
      refine lv_sipush (v := nI 255) hx hcb dX4_block_25 (by decide) ?_
      refine lv_iand hx hcb dX4_block_28 ?_
      refine lv_bipush (v := nI 24) hx hcb dX4_block_29 (by decide) ?_
      refine lv_ishl hx hcb dX4_block_31 ?_
      refine lv_aload_n hx hcb dX4_block_32 rfl (lv_at hl 2 rfl) ?_
      refine va_get (D := D) (ci := 4) (v := .ref (a 3)) (C := RX4) (T := TX4) (N := 45) hx hcb hts inX4 hown hK hP 0 rfl rfl 3 (by decide) (hts _ wf_X4_16) (fun _ h9 => h9) rfl dX4_block_33 ?_
      refine lv_iload_n hx hcb dX4_block_36 rfl (lv_at hl 0 rfl) ?_
      refine lv_iconst (v := nI 1) hx hcb dX4_block_37 (by decide) ?_
      refine q_iadd (x := (fr + (4 * i))) (y := 1) hx hcb dX4_block_38 ?_
      refine q_bald (j := (fr + (4 * i)) + 1) hx hcb hK hP 2 0 rfl rfl (by omega) (by decide) dX4_block_39 ?_
      refine lv_sipush (v := nI 255) hx hcb dX4_block_40 (by decide) ?_
      refine lv_iand hx hcb dX4_block_43 ?_
      refine lv_bipush (v := nI 16) hx hcb dX4_block_44 (by decide) ?_
      refine lv_ishl hx hcb dX4_block_46 ?_
      refine lv_ior hx hcb dX4_block_47 ?_
      refine lv_aload_n hx hcb dX4_block_48 rfl (lv_at hl 2 rfl) ?_
      refine va_get (D := D) (ci := 4) (v := .ref (a 3)) (C := RX4) (T := TX4) (N := 45) hx hcb hts inX4 hown hK hP 0 rfl rfl 3 (by decide) (hts _ wf_X4_16) (fun _ h9 => h9) rfl dX4_block_49 ?_
      refine lv_iload_n hx hcb dX4_block_52 rfl (lv_at hl 0 rfl) ?_
      refine lv_iconst (v := nI 2) hx hcb dX4_block_53 (by decide) ?_
      refine q_iadd (x := (fr + (4 * i))) (y := 2) hx hcb dX4_block_54 ?_
      refine q_bald (j := (fr + (4 * i)) + 2) hx hcb hK hP 2 0 rfl rfl (by omega) (by decide) dX4_block_55 ?_
      refine lv_sipush (v := nI 255) hx hcb dX4_block_56 (by decide) ?_
      refine lv_iand hx hcb dX4_block_59 ?_
      refine lv_bipush (v := nI 8) hx hcb dX4_block_60 (by decide) ?_
      refine lv_ishl hx hcb dX4_block_62 ?_
      refine lv_ior hx hcb dX4_block_63 ?_
      refine lv_aload_n hx hcb dX4_block_64 rfl (lv_at hl 2 rfl) ?_
      refine va_get (D := D) (ci := 4) (v := .ref (a 3)) (C := RX4) (T := TX4) (N := 45) hx hcb hts inX4 hown hK hP 0 rfl rfl 3 (by decide) (hts _ wf_X4_16) (fun _ h9 => h9) rfl dX4_block_65 ?_
      refine lv_iload_n hx hcb dX4_block_68 rfl (lv_at hl 0 rfl) ?_
      refine lv_iconst (v := nI 3) hx hcb dX4_block_69 (by decide) ?_
      refine q_iadd (x := (fr + (4 * i))) (y := 3) hx hcb dX4_block_70 ?_
      refine q_bald (j := (fr + (4 * i)) + 3) hx hcb hK hP 2 0 rfl rfl (by omega) (by decide) dX4_block_71 ?_
      refine lv_sipush (v := nI 255) hx hcb dX4_block_72 (by decide) ?_
      refine lv_iand hx hcb dX4_block_75 ?_
      refine lv_ior hx hcb dX4_block_76 ?_
      refine q_iast (j := i) (v := (((((row (fr + (4 * i))) &&& (nI 255)) <<< ((nI 24) &&& 31)) ||| (((row ((fr + (4 * i)) + 1)) &&& (nI 255)) <<< ((nI 16) &&& 31))) ||| (((row ((fr + (4 * i)) + 2)) &&& (nI 255)) <<< ((nI 8) &&& 31))) ||| ((row ((fr + (4 * i)) + 3)) &&& (nI 255))) hx hcb hK hP hD hS 3 1 rfl rfl (by omega) (by decide) dX4_block_77 (fun H locs hP hD hS => ?_)
      have hP : va_P D vwCl [(a 0, .inr (4, mO a th day kp tw wk k1 k2 o1 o2 ns)), (a 1, .inl (t 1, 64, .inl k_cu)), (a 3, .inl (t 0, 448, .inl row)), (a 4, .inl (t 1, 64, .inl (upd g i ((((((row (fr + (4 * i))) &&& (nI 255)) <<< ((nI 24) &&& 31)) ||| (((row ((fr + (4 * i)) + 1)) &&& (nI 255)) <<< ((nI 16) &&& 31))) ||| (((row ((fr + (4 * i)) + 2)) &&& (nI 255)) <<< ((nI 8) &&& 31))) ||| ((row ((fr + (4 * i)) + 3)) &&& (nI 255)))))), (a 5, .inl (t 1, 8, .inl hh)), (a 6, .inl (t 1, 8, .inl nw_))] H := hP
      have hD : va_D A [(a 0, .inr (4, mO a th day kp tw wk k1 k2 o1 o2 ns)), (a 1, .inl (t 1, 64, .inl k_cu)), (a 3, .inl (t 0, 448, .inl row)), (a 4, .inl (t 1, 64, .inl (upd g i ((((((row (fr + (4 * i))) &&& (nI 255)) <<< ((nI 24) &&& 31)) ||| (((row ((fr + (4 * i)) + 1)) &&& (nI 255)) <<< ((nI 16) &&& 31))) ||| (((row ((fr + (4 * i)) + 2)) &&& (nI 255)) <<< ((nI 8) &&& 31))) ||| ((row ((fr + (4 * i)) + 3)) &&& (nI 255)))))), (a 5, .inl (t 1, 8, .inl hh)), (a 6, .inl (t 1, 8, .inl nw_))] := hD
      refine lv_iinc (v := nI (i + 1)) (lv' := [(2, .int (nI (i + 1))), (3, .int (nI (fr + (4 * i)))), (0, .ref (a 0)), (1, .int (nI fr))]) hx hcb dX4_block_78 hl (k := 1) rfl (q_inc i 1 rfl) (by decide) rfl (fun ls hl => ?_)
      refine lv_goto (tgt := 2) hx hcb dX4_block_81 (by decide) ?_
      exact ih (i + 1) (upd g i ((((((row (fr + (4 * i))) &&& (nI 255)) <<< ((nI 24) &&& 31)) ||| (((row ((fr + (4 * i)) + 1)) &&& (nI 255)) <<< ((nI 16) &&& 31))) ||| (((row ((fr + (4 * i)) + 2)) &&& (nI 255)) <<< ((nI 8) &&& 31))) ||| ((row ((fr + (4 * i)) + 3)) &&& (nI 255)))) _ _ _ (by omega) (by omega) (wA_s hg (wx_lo (by omega)).symm) hP hD hS (lv_sub hl [0, 2, 3] rfl)
set_option maxHeartbeats 1000000 in
set_option maxRecDepth 100000 in
theorem lp_X4_block_87 (a : Nat → Nat) (fr : Nat) (th : Int32) (day : Int32) (kp : Int64) (tw : Int64) (wk : Int32) (k1 : Int64) (k2 : Int64) (o1 : Int64) (o2 : Int64) (ns : Int32) (row : Nat → Int32) (w : Nat → Int32) (hh : Nat → Int32) (nw_ : Nat → Int32) (g : Nat → Int32) (hfr : fr + 64 ≤ 448) (hi : 16 ≤ 16) (hg : ∀ j, j < 16 → g j = wA row fr 16 j) (C : Cx p s m args c cX4_block 8 RX4 D t x A) (kx0 : ∀ (i2 : Nat) (g2 : Nat → Int32) (H : Heap) (locs : List Loc) (ls : Array Slot), (16 ≤ i2 ∧ i2 ≤ 64) → (∀ j, j < i2 → g2 j = wA row fr i2 j) → (64 = i2) → va_P D vwCl [(a 0, .inr (4, mO a th day kp tw wk k1 k2 o1 o2 ns)), (a 1, .inl (t 1, 64, .inl k_cu)), (a 3, .inl (t 0, 448, .inl row)), (a 4, .inl (t 1, 64, .inl g2)), (a 5, .inl (t 1, 8, .inl hh)), (a 6, .inl (t 1, 8, .inl nw_))] H → va_D A [(a 0, .inr (4, mO a th day kp tw wk k1 k2 o1 o2 ns)), (a 1, .inl (t 1, 64, .inl k_cu)), (a 3, .inl (t 0, 448, .inl row)), (a 4, .inl (t 1, 64, .inl g2)), (a 5, .inl (t 1, 8, .inl hh)), (a 6, .inl (t 1, 8, .inl nw_))] → va_S A s.heap H locs → lv_has ls 8 [(2, .int (nI i2)), (0, .ref (a 0)), (1, .int (nI fr))] → W p l e r_X4_block s m args below meth c H locs 0 0 Q (F0 m 184 ls [])) : ∀ (fu : Nat) (i2 : Nat) (g2 : Nat → Int32) (H : Heap) (locs : List Loc) (ls : Array Slot), 64 - i2 < fu → (16 ≤ i2 ∧ i2 ≤ 64) → (∀ j, j < i2 → g2 j = wA row fr i2 j) → va_P D vwCl [(a 0, .inr (4, mO a th day kp tw wk k1 k2 o1 o2 ns)), (a 1, .inl (t 1, 64, .inl k_cu)), (a 3, .inl (t 0, 448, .inl row)), (a 4, .inl (t 1, 64, .inl g2)), (a 5, .inl (t 1, 8, .inl hh)), (a 6, .inl (t 1, 8, .inl nw_))] H → va_D A [(a 0, .inr (4, mO a th day kp tw wk k1 k2 o1 o2 ns)), (a 1, .inl (t 1, 64, .inl k_cu)), (a 3, .inl (t 0, 448, .inl row)), (a 4, .inl (t 1, 64, .inl g2)), (a 5, .inl (t 1, 8, .inl hh)), (a 6, .inl (t 1, 8, .inl nw_))] → va_S A s.heap H locs → lv_has ls 8 [(2, .int (nI i2)), (0, .ref (a 0)), (1, .int (nI fr))] → W p l e r_X4_block s m args below meth c H locs 0 0 Q (F0 m 87 ls []) := by
  obtain ⟨hx, hcb, hml, hown, hts, hK, hA, hX, hN⟩ := id C
  intro fu
  induction fu with
  | zero =>
    intro i2 g2 H locs ls hz
    exact absurd hz (Nat.not_lt_zero _)
  | succ fu ih =>
    intro i2 g2 H locs ls hz hi2 hg2 hP hD hS hl
    refine lv_iload_n hx hcb dX4_block_87 rfl (lv_at hl 0 rfl) ?_
    refine lv_bipush (v := nI 64) hx hcb dX4_block_88 (by decide) ?_
    refine q_ge (x := i2) (y := 64) (tgt := 184) hx hcb (by omega) (by omega) dX4_block_90 (by decide) (fun c_2 => ?_) (fun c_2 => ?_)
    · exact kx0 i2 g2 _ _ _ hi2 hg2 (by omega) hP hD hS (lv_sub hl [0, 1, 2] rfl)
    · refine lv_aload_n hx hcb dX4_block_93 rfl (lv_at hl 1 rfl) ?_
      refine va_get (D := D) (ci := 4) (v := .ref (a 4)) (C := RX4) (T := TX4) (N := 45) hx hcb hts inX4 hown hK hP 0 rfl rfl 4 (by decide) (hts _ wf_X4_20) (fun _ h9 => h9) rfl dX4_block_94 ?_
      refine lv_iload_n hx hcb dX4_block_97 rfl (lv_at hl 0 rfl) ?_
      refine lv_iconst (v := nI 2) hx hcb dX4_block_98 (by decide) ?_
      refine q_isub (x := i2) (y := 2) hx hcb (by omega) dX4_block_99 ?_
      refine q_iald (j := i2 - 2) hx hcb hK hP 3 1 rfl rfl (by omega) (by decide) dX4_block_100 ?_
      refine lv_istore_n (lv' := [(3, .int (g2 (i2 - 2))), (2, .int (nI i2)), (0, .ref (a 0)), (1, .int (nI fr))]) hx hcb dX4_block_101 rfl hl (by decide) rfl (fun ls hl => ?_)
      refine lv_aload_n hx hcb dX4_block_102 rfl (lv_at hl 2 rfl) ?_
      refine va_get (D := D) (ci := 4) (v := .ref (a 4)) (C := RX4) (T := TX4) (N := 45) hx hcb hts inX4 hown hK hP 0 rfl rfl 4 (by decide) (hts _ wf_X4_20) (fun _ h9 => h9) rfl dX4_block_103 ?_
      refine lv_iload_n hx hcb dX4_block_106 rfl (lv_at hl 1 rfl) ?_
      refine lv_bipush (v := nI 15) hx hcb dX4_block_107 (by decide) ?_
      refine q_isub (x := i2) (y := 15) hx hcb (by omega) dX4_block_109 ?_
      refine q_iald (j := i2 - 15) hx hcb hK hP 3 1 rfl rfl (by omega) (by decide) dX4_block_110 ?_
      refine lv_istore (lv' := [(4, .int (g2 (i2 - 15))), (3, .int (g2 (i2 - 2))), (2, .int (nI i2)), (0, .ref (a 0)), (1, .int (nI fr))]) hx hcb dX4_block_111 hl (by decide) rfl (fun ls hl => ?_)
      refine lv_aload_n hx hcb dX4_block_113 rfl (lv_at hl 3 rfl) ?_
      refine va_get (D := D) (ci := 4) (v := .ref (a 4)) (C := RX4) (T := TX4) (N := 45) hx hcb hts inX4 hown hK hP 0 rfl rfl 4 (by decide) (hts _ wf_X4_20) (fun _ h9 => h9) rfl dX4_block_114 ?_
      refine lv_iload_n hx hcb dX4_block_117 rfl (lv_at hl 2 rfl) ?_
      refine lv_iload_n hx hcb dX4_block_118 rfl (lv_at hl 1 rfl) ?_
      refine lv_bipush (v := nI 17) hx hcb dX4_block_119 (by decide) ?_
      refine ct_callS (as := [.int (g2 (i2 - 2)), .int (nI 17)]) (rest := [.int (nI i2), .ref (a 4)]) (wr := [(a 0, .inr (4, mO a th day kp tw wk k1 k2 o1 o2 ns)), (a 1, .inl (t 1, 64, .inl k_cu)), (a 3, .inl (t 0, 448, .inl row)), (a 4, .inl (t 1, 64, .inl g2)), (a 5, .inl (t 1, 8, .inl hh)), (a 6, .inl (t 1, 8, .inl nw_))]) C (c_X4_rot l D t x (g2 (i2 - 2)) (nI 17) ) (va_cwS 2 hts (gt_app (by simpa using ⟨wm_X4_201, ws_yX4_rot, wz_X4⟩) (gt_code wc_X4_rot)) rfl rfl rfl (by decide +kernel) ⟨Nat.le_of_ble_eq_true rfl, Nat.le_of_ble_eq_true rfl⟩) hP hD hS [] [0, 1, 2, 3, 4, 5] rfl (by decide) rfl (by decide) (by decide) rfl hl.1 rfl (Nat.le_of_ble_eq_true rfl) dX4_block_121 ⟨Nat.le_of_ble_eq_true rfl, Nat.le_of_ble_eq_true rfl⟩ (fun u H locs hw_3 hP hD hS => ?_)
      have hP : va_P D vwCl [(a 0, .inr (4, mO a th day kp tw wk k1 k2 o1 o2 ns)), (a 1, .inl (t 1, 64, .inl k_cu)), (a 3, .inl (t 0, 448, .inl row)), (a 4, .inl (t 1, 64, .inl g2)), (a 5, .inl (t 1, 8, .inl hh)), (a 6, .inl (t 1, 8, .inl nw_))] H := hP
      have hD : va_D A [(a 0, .inr (4, mO a th day kp tw wk k1 k2 o1 o2 ns)), (a 1, .inl (t 1, 64, .inl k_cu)), (a 3, .inl (t 0, 448, .inl row)), (a 4, .inl (t 1, 64, .inl g2)), (a 5, .inl (t 1, 8, .inl hh)), (a 6, .inl (t 1, 8, .inl nw_))] := hD
      refine W.eq (g2 := F0 m 124 ls [.int (ro (g2 (i2 - 2)) (nI 17)), .int (nI i2), .ref (a 4)]) rfl ?_
      refine lv_iload_n hx hcb dX4_block_124 rfl (lv_at hl 1 rfl) ?_
      refine lv_bipush (v := nI 19) hx hcb dX4_block_125 (by decide) ?_
      refine ct_callS (as := [.int (g2 (i2 - 2)), .int (nI 19)]) (rest := [.int (ro (g2 (i2 - 2)) (nI 17)), .int (nI i2), .ref (a 4)]) (wr := [(a 0, .inr (4, mO a th day kp tw wk k1 k2 o1 o2 ns)), (a 1, .inl (t 1, 64, .inl k_cu)), (a 3, .inl (t 0, 448, .inl row)), (a 4, .inl (t 1, 64, .inl g2)), (a 5, .inl (t 1, 8, .inl hh)), (a 6, .inl (t 1, 8, .inl nw_))]) C (c_X4_rot l D t x (g2 (i2 - 2)) (nI 19) ) (va_cwS 2 hts (gt_app (by simpa using ⟨wm_X4_201, ws_yX4_rot, wz_X4⟩) (gt_code wc_X4_rot)) rfl rfl rfl (by decide +kernel) ⟨Nat.le_of_ble_eq_true rfl, Nat.le_of_ble_eq_true rfl⟩) hP hD hS [] [0, 1, 2, 3, 4, 5] rfl (by decide) rfl (by decide) (by decide) rfl hl.1 rfl (Nat.le_of_ble_eq_true rfl) dX4_block_127 ⟨Nat.le_of_ble_eq_true rfl, Nat.le_of_ble_eq_true rfl⟩ (fun u H locs hw_4 hP hD hS => ?_)
      have hP : va_P D vwCl [(a 0, .inr (4, mO a th day kp tw wk k1 k2 o1 o2 ns)), (a 1, .inl (t 1, 64, .inl k_cu)), (a 3, .inl (t 0, 448, .inl row)), (a 4, .inl (t 1, 64, .inl g2)), (a 5, .inl (t 1, 8, .inl hh)), (a 6, .inl (t 1, 8, .inl nw_))] H := hP
      have hD : va_D A [(a 0, .inr (4, mO a th day kp tw wk k1 k2 o1 o2 ns)), (a 1, .inl (t 1, 64, .inl k_cu)), (a 3, .inl (t 0, 448, .inl row)), (a 4, .inl (t 1, 64, .inl g2)), (a 5, .inl (t 1, 8, .inl hh)), (a 6, .inl (t 1, 8, .inl nw_))] := hD
      refine W.eq (g2 := F0 m 130 ls [.int (ro (g2 (i2 - 2)) (nI 19)), .int (ro (g2 (i2 - 2)) (nI 17)), .int (nI i2), .ref (a 4)]) rfl ?_
      refine lv_ixor hx hcb dX4_block_130 ?_
      refine lv_iload_n hx hcb dX4_block_131 rfl (lv_at hl 1 rfl) ?_
      refine lv_bipush (v := nI 10) hx hcb dX4_block_132 (by decide) ?_
      refine lv_iushr (v := us (g2 (i2 - 2)) (nI 10)) hx hcb dX4_block_134 rfl ?_
      refine lv_ixor hx hcb dX4_block_135 ?_
      refine lv_aload_n hx hcb dX4_block_136 rfl (lv_at hl 3 rfl) ?_
      refine va_get (D := D) (ci := 4) (v := .ref (a 4)) (C := RX4) (T := TX4) (N := 45) hx hcb hts inX4 hown hK hP 0 rfl rfl 4 (by decide) (hts _ wf_X4_20) (fun _ h9 => h9) rfl dX4_block_137 ?_
      refine lv_iload_n hx hcb dX4_block_140 rfl (lv_at hl 2 rfl) ?_
      refine lv_bipush (v := nI 7) hx hcb dX4_block_141 (by decide) ?_
      refine q_isub (x := i2) (y := 7) hx hcb (by omega) dX4_block_143 ?_
      refine q_iald (j := i2 - 7) hx hcb hK hP 3 1 rfl rfl (by omega) (by decide) dX4_block_144 ?_
      refine lv_iadd hx hcb dX4_block_145 ?_
      refine lv_iload hx hcb dX4_block_146 (lv_at hl 0 rfl) ?_
      refine lv_bipush (v := nI 7) hx hcb dX4_block_148 (by decide) ?_
      refine ct_callS (as := [.int (g2 (i2 - 15)), .int (nI 7)]) (rest := [.int ((((ro (g2 (i2 - 2)) (nI 17)) ^^^ (ro (g2 (i2 - 2)) (nI 19))) ^^^ (us (g2 (i2 - 2)) (nI 10))) + (g2 (i2 - 7))), .int (nI i2), .ref (a 4)]) (wr := [(a 0, .inr (4, mO a th day kp tw wk k1 k2 o1 o2 ns)), (a 1, .inl (t 1, 64, .inl k_cu)), (a 3, .inl (t 0, 448, .inl row)), (a 4, .inl (t 1, 64, .inl g2)), (a 5, .inl (t 1, 8, .inl hh)), (a 6, .inl (t 1, 8, .inl nw_))]) C (c_X4_rot l D t x (g2 (i2 - 15)) (nI 7) ) (va_cwS 2 hts (gt_app (by simpa using ⟨wm_X4_201, ws_yX4_rot, wz_X4⟩) (gt_code wc_X4_rot)) rfl rfl rfl (by decide +kernel) ⟨Nat.le_of_ble_eq_true rfl, Nat.le_of_ble_eq_true rfl⟩) hP hD hS [] [0, 1, 2, 3, 4, 5] rfl (by decide) rfl (by decide) (by decide) rfl hl.1 rfl (Nat.le_of_ble_eq_true rfl) dX4_block_150 ⟨Nat.le_of_ble_eq_true rfl, Nat.le_of_ble_eq_true rfl⟩ (fun u H locs hw_5 hP hD hS => ?_)
      have hP : va_P D vwCl [(a 0, .inr (4, mO a th day kp tw wk k1 k2 o1 o2 ns)), (a 1, .inl (t 1, 64, .inl k_cu)), (a 3, .inl (t 0, 448, .inl row)), (a 4, .inl (t 1, 64, .inl g2)), (a 5, .inl (t 1, 8, .inl hh)), (a 6, .inl (t 1, 8, .inl nw_))] H := hP
      have hD : va_D A [(a 0, .inr (4, mO a th day kp tw wk k1 k2 o1 o2 ns)), (a 1, .inl (t 1, 64, .inl k_cu)), (a 3, .inl (t 0, 448, .inl row)), (a 4, .inl (t 1, 64, .inl g2)), (a 5, .inl (t 1, 8, .inl hh)), (a 6, .inl (t 1, 8, .inl nw_))] := hD
      refine W.eq (g2 := F0 m 153 ls [.int (ro (g2 (i2 - 15)) (nI 7)), .int ((((ro (g2 (i2 - 2)) (nI 17)) ^^^ (ro (g2 (i2 - 2)) (nI 19))) ^^^ (us (g2 (i2 - 2)) (nI 10))) + (g2 (i2 - 7))), .int (nI i2), .ref (a 4)]) rfl ?_
      refine lv_iload hx hcb dX4_block_153 (lv_at hl 0 rfl) ?_
      refine lv_bipush (v := nI 18) hx hcb dX4_block_155 (by decide) ?_
      refine ct_callS (as := [.int (g2 (i2 - 15)), .int (nI 18)]) (rest := [.int (ro (g2 (i2 - 15)) (nI 7)), .int ((((ro (g2 (i2 - 2)) (nI 17)) ^^^ (ro (g2 (i2 - 2)) (nI 19))) ^^^ (us (g2 (i2 - 2)) (nI 10))) + (g2 (i2 - 7))), .int (nI i2), .ref (a 4)]) (wr := [(a 0, .inr (4, mO a th day kp tw wk k1 k2 o1 o2 ns)), (a 1, .inl (t 1, 64, .inl k_cu)), (a 3, .inl (t 0, 448, .inl row)), (a 4, .inl (t 1, 64, .inl g2)), (a 5, .inl (t 1, 8, .inl hh)), (a 6, .inl (t 1, 8, .inl nw_))]) C (c_X4_rot l D t x (g2 (i2 - 15)) (nI 18) ) (va_cwS 2 hts (gt_app (by simpa using ⟨wm_X4_201, ws_yX4_rot, wz_X4⟩) (gt_code wc_X4_rot)) rfl rfl rfl (by decide +kernel) ⟨Nat.le_of_ble_eq_true rfl, Nat.le_of_ble_eq_true rfl⟩) hP hD hS [] [0, 1, 2, 3, 4, 5] rfl (by decide) rfl (by decide) (by decide) rfl hl.1 rfl (Nat.le_of_ble_eq_true rfl) dX4_block_157 ⟨Nat.le_of_ble_eq_true rfl, Nat.le_of_ble_eq_true rfl⟩ (fun u H locs hw_6 hP hD hS => ?_)
      have hP : va_P D vwCl [(a 0, .inr (4, mO a th day kp tw wk k1 k2 o1 o2 ns)), (a 1, .inl (t 1, 64, .inl k_cu)), (a 3, .inl (t 0, 448, .inl row)), (a 4, .inl (t 1, 64, .inl g2)), (a 5, .inl (t 1, 8, .inl hh)), (a 6, .inl (t 1, 8, .inl nw_))] H := hP
      have hD : va_D A [(a 0, .inr (4, mO a th day kp tw wk k1 k2 o1 o2 ns)), (a 1, .inl (t 1, 64, .inl k_cu)), (a 3, .inl (t 0, 448, .inl row)), (a 4, .inl (t 1, 64, .inl g2)), (a 5, .inl (t 1, 8, .inl hh)), (a 6, .inl (t 1, 8, .inl nw_))] := hD
      refine W.eq (g2 := F0 m 160 ls [.int (ro (g2 (i2 - 15)) (nI 18)), .int (ro (g2 (i2 - 15)) (nI 7)), .int ((((ro (g2 (i2 - 2)) (nI 17)) ^^^ (ro (g2 (i2 - 2)) (nI 19))) ^^^ (us (g2 (i2 - 2)) (nI 10))) + (g2 (i2 - 7))), .int (nI i2), .ref (a 4)]) rfl ?_
      refine lv_ixor hx hcb dX4_block_160 ?_
      refine lv_iload hx hcb dX4_block_161 (lv_at hl 0 rfl) ?_
      refine lv_iconst (v := nI 3) hx hcb dX4_block_163 (by decide) ?_
      refine lv_iushr (v := us (g2 (i2 - 15)) (nI 3)) hx hcb dX4_block_164 rfl ?_
      refine lv_ixor hx hcb dX4_block_165 ?_
      refine lv_iadd hx hcb dX4_block_166 ?_
      refine lv_aload_n hx hcb dX4_block_167 rfl (lv_at hl 3 rfl) ?_
      refine va_get (D := D) (ci := 4) (v := .ref (a 4)) (C := RX4) (T := TX4) (N := 45) hx hcb hts inX4 hown hK hP 0 rfl rfl 4 (by decide) (hts _ wf_X4_20) (fun _ h9 => h9) rfl dX4_block_168 ?_
      refine lv_iload_n hx hcb dX4_block_171 rfl (lv_at hl 2 rfl) ?_
      refine lv_bipush (v := nI 16) hx hcb dX4_block_172 (by decide) ?_
      refine q_isub (x := i2) (y := 16) hx hcb (by omega) dX4_block_174 ?_
      refine q_iald (j := i2 - 16) hx hcb hK hP 3 1 rfl rfl (by omega) (by decide) dX4_block_175 ?_
      refine lv_iadd hx hcb dX4_block_176 ?_
      refine q_iast (j := i2) (v := (((((ro (g2 (i2 - 2)) (nI 17)) ^^^ (ro (g2 (i2 - 2)) (nI 19))) ^^^ (us (g2 (i2 - 2)) (nI 10))) + (g2 (i2 - 7))) + (((ro (g2 (i2 - 15)) (nI 7)) ^^^ (ro (g2 (i2 - 15)) (nI 18))) ^^^ (us (g2 (i2 - 15)) (nI 3)))) + (g2 (i2 - 16))) hx hcb hK hP hD hS 3 1 rfl rfl (by omega) (by decide) dX4_block_177 (fun H locs hP hD hS => ?_)
      have hP : va_P D vwCl [(a 0, .inr (4, mO a th day kp tw wk k1 k2 o1 o2 ns)), (a 1, .inl (t 1, 64, .inl k_cu)), (a 3, .inl (t 0, 448, .inl row)), (a 4, .inl (t 1, 64, .inl (upd g2 i2 ((((((ro (g2 (i2 - 2)) (nI 17)) ^^^ (ro (g2 (i2 - 2)) (nI 19))) ^^^ (us (g2 (i2 - 2)) (nI 10))) + (g2 (i2 - 7))) + (((ro (g2 (i2 - 15)) (nI 7)) ^^^ (ro (g2 (i2 - 15)) (nI 18))) ^^^ (us (g2 (i2 - 15)) (nI 3)))) + (g2 (i2 - 16)))))), (a 5, .inl (t 1, 8, .inl hh)), (a 6, .inl (t 1, 8, .inl nw_))] H := hP
      have hD : va_D A [(a 0, .inr (4, mO a th day kp tw wk k1 k2 o1 o2 ns)), (a 1, .inl (t 1, 64, .inl k_cu)), (a 3, .inl (t 0, 448, .inl row)), (a 4, .inl (t 1, 64, .inl (upd g2 i2 ((((((ro (g2 (i2 - 2)) (nI 17)) ^^^ (ro (g2 (i2 - 2)) (nI 19))) ^^^ (us (g2 (i2 - 2)) (nI 10))) + (g2 (i2 - 7))) + (((ro (g2 (i2 - 15)) (nI 7)) ^^^ (ro (g2 (i2 - 15)) (nI 18))) ^^^ (us (g2 (i2 - 15)) (nI 3)))) + (g2 (i2 - 16)))))), (a 5, .inl (t 1, 8, .inl hh)), (a 6, .inl (t 1, 8, .inl nw_))] := hD
      refine lv_iinc (v := nI (i2 + 1)) (lv' := [(2, .int (nI (i2 + 1))), (4, .int (g2 (i2 - 15))), (3, .int (g2 (i2 - 2))), (0, .ref (a 0)), (1, .int (nI fr))]) hx hcb dX4_block_178 hl (k := 2) rfl (q_inc i2 1 rfl) (by decide) rfl (fun ls hl => ?_)
      refine lv_goto (tgt := 87) hx hcb dX4_block_181 (by decide) ?_
      exact ih (i2 + 1) (upd g2 i2 ((((((ro (g2 (i2 - 2)) (nI 17)) ^^^ (ro (g2 (i2 - 2)) (nI 19))) ^^^ (us (g2 (i2 - 2)) (nI 10))) + (g2 (i2 - 7))) + (((ro (g2 (i2 - 15)) (nI 7)) ^^^ (ro (g2 (i2 - 15)) (nI 18))) ^^^ (us (g2 (i2 - 15)) (nI 3)))) + (g2 (i2 - 16)))) _ _ _ (by omega) (by omega) (wA_s hg2 (wA_t hg2 (by omega))) hP hD hS (lv_sub hl [0, 3, 4] rfl)
set_option maxHeartbeats 1000000 in
set_option maxRecDepth 100000 in
theorem lp_X4_block_186 (a : Nat → Nat) (fr : Nat) (th : Int32) (day : Int32) (kp : Int64) (tw : Int64) (wk : Int32) (k1 : Int64) (k2 : Int64) (o1 : Int64) (o2 : Int64) (ns : Int32) (row : Nat → Int32) (w : Nat → Int32) (hh : Nat → Int32) (nw_ : Nat → Int32) (g : Nat → Int32) (g2 : Nat → Int32) (hfr : fr + 64 ≤ 448) (hi : 16 ≤ 16) (hg : ∀ j, j < 16 → g j = wA row fr 16 j) (hi2 : 16 ≤ 64 ∧ 64 ≤ 64) (hg2 : ∀ j, j < 64 → g2 j = wA row fr 64 j) (C : Cx p s m args c cX4_block 8 RX4 D t x A) (kx0 : ∀ (i3 : Nat) (v3 : Nat → Int32) (H : Heap) (locs : List Loc) (ls : Array Slot), (i3 ≤ 8) → (∀ j, j < i3 → v3 j = hh j) → (8 = i3) → va_P D vwCl [(a 0, .inr (4, mO a th day kp tw wk k1 k2 o1 o2 ns)), (a 1, .inl (t 1, 64, .inl k_cu)), (a 3, .inl (t 0, 448, .inl row)), (a 4, .inl (t 1, 64, .inl g2)), (a 5, .inl (t 1, 8, .inl hh)), (a 6, .inl (t 1, 8, .inl v3))] H → va_D A [(a 0, .inr (4, mO a th day kp tw wk k1 k2 o1 o2 ns)), (a 1, .inl (t 1, 64, .inl k_cu)), (a 3, .inl (t 0, 448, .inl row)), (a 4, .inl (t 1, 64, .inl g2)), (a 5, .inl (t 1, 8, .inl hh)), (a 6, .inl (t 1, 8, .inl v3))] → va_S A s.heap H locs → lv_has ls 8 [(2, .int (nI i3)), (0, .ref (a 0)), (1, .int (nI fr))] → W p l e r_X4_block s m args below meth c H locs 0 0 Q (F0 m 210 ls [])) : ∀ (fu : Nat) (i3 : Nat) (v3 : Nat → Int32) (H : Heap) (locs : List Loc) (ls : Array Slot), 8 - i3 < fu → (i3 ≤ 8) → (∀ j, j < i3 → v3 j = hh j) → va_P D vwCl [(a 0, .inr (4, mO a th day kp tw wk k1 k2 o1 o2 ns)), (a 1, .inl (t 1, 64, .inl k_cu)), (a 3, .inl (t 0, 448, .inl row)), (a 4, .inl (t 1, 64, .inl g2)), (a 5, .inl (t 1, 8, .inl hh)), (a 6, .inl (t 1, 8, .inl v3))] H → va_D A [(a 0, .inr (4, mO a th day kp tw wk k1 k2 o1 o2 ns)), (a 1, .inl (t 1, 64, .inl k_cu)), (a 3, .inl (t 0, 448, .inl row)), (a 4, .inl (t 1, 64, .inl g2)), (a 5, .inl (t 1, 8, .inl hh)), (a 6, .inl (t 1, 8, .inl v3))] → va_S A s.heap H locs → lv_has ls 8 [(2, .int (nI i3)), (0, .ref (a 0)), (1, .int (nI fr))] → W p l e r_X4_block s m args below meth c H locs 0 0 Q (F0 m 186 ls []) := by
  obtain ⟨hx, hcb, hml, hown, hts, hK, hA, hX, hN⟩ := id C
  intro fu
  induction fu with
  | zero =>
    intro i3 v3 H locs ls hz
    exact absurd hz (Nat.not_lt_zero _)
  | succ fu ih =>
    intro i3 v3 H locs ls hz hi3 hv3 hP hD hS hl
    refine lv_iload_n hx hcb dX4_block_186 rfl (lv_at hl 0 rfl) ?_
    refine lv_bipush (v := nI 8) hx hcb dX4_block_187 (by decide) ?_
    refine q_ge (x := i3) (y := 8) (tgt := 210) hx hcb (by omega) (by omega) dX4_block_189 (by decide) (fun c_7 => ?_) (fun c_7 => ?_)
    · exact kx0 i3 v3 _ _ _ hi3 hv3 (by omega) hP hD hS (lv_sub hl [0, 1, 2] rfl)
    · refine lv_aload_n hx hcb dX4_block_192 rfl (lv_at hl 1 rfl) ?_
      refine va_get (D := D) (ci := 4) (v := .ref (a 6)) (C := RX4) (T := TX4) (N := 45) hx hcb hts inX4 hown hK hP 0 rfl rfl 6 (by decide) (hts _ wf_X4_26) (fun _ h9 => h9) rfl dX4_block_193 ?_
      refine lv_iload_n hx hcb dX4_block_196 rfl (lv_at hl 0 rfl) ?_
      refine lv_aload_n hx hcb dX4_block_197 rfl (lv_at hl 1 rfl) ?_
      refine va_get (D := D) (ci := 4) (v := .ref (a 5)) (C := RX4) (T := TX4) (N := 45) hx hcb hts inX4 hown hK hP 0 rfl rfl 5 (by decide) (hts _ wf_X4_23) (fun _ h9 => h9) rfl dX4_block_198 ?_
      refine lv_iload_n hx hcb dX4_block_201 rfl (lv_at hl 0 rfl) ?_
      refine q_iald (j := i3) hx hcb hK hP 4 1 rfl rfl (by omega) (by decide) dX4_block_202 ?_
      refine q_iast (j := i3) (v := hh i3) hx hcb hK hP hD hS 5 1 rfl rfl (by omega) (by decide) dX4_block_203 (fun H locs hP hD hS => ?_)
      have hP : va_P D vwCl [(a 0, .inr (4, mO a th day kp tw wk k1 k2 o1 o2 ns)), (a 1, .inl (t 1, 64, .inl k_cu)), (a 3, .inl (t 0, 448, .inl row)), (a 4, .inl (t 1, 64, .inl g2)), (a 5, .inl (t 1, 8, .inl hh)), (a 6, .inl (t 1, 8, .inl (upd v3 i3 (hh i3))))] H := hP
      have hD : va_D A [(a 0, .inr (4, mO a th day kp tw wk k1 k2 o1 o2 ns)), (a 1, .inl (t 1, 64, .inl k_cu)), (a 3, .inl (t 0, 448, .inl row)), (a 4, .inl (t 1, 64, .inl g2)), (a 5, .inl (t 1, 8, .inl hh)), (a 6, .inl (t 1, 8, .inl (upd v3 i3 (hh i3))))] := hD
      refine lv_iinc (v := nI (i3 + 1)) (lv' := [(2, .int (nI (i3 + 1))), (0, .ref (a 0)), (1, .int (nI fr))]) hx hcb dX4_block_204 hl (k := 0) rfl (q_inc i3 1 rfl) (by decide) rfl (fun ls hl => ?_)
      refine lv_goto (tgt := 186) hx hcb dX4_block_207 (by decide) ?_
      exact ih (i3 + 1) (upd v3 i3 (hh i3)) _ _ _ (by omega) (by omega) (upd_s hv3 rfl) hP hD hS (lv_sub hl [0, 1, 2] rfl)
set_option maxHeartbeats 1000000 in
set_option maxRecDepth 100000 in
theorem lp_X4_block_360 (a : Nat → Nat) (fr : Nat) (th : Int32) (day : Int32) (kp : Int64) (tw : Int64) (wk : Int32) (k1 : Int64) (k2 : Int64) (o1 : Int64) (o2 : Int64) (ns : Int32) (row : Nat → Int32) (w : Nat → Int32) (hh : Nat → Int32) (nw_ : Nat → Int32) (g : Nat → Int32) (g2 : Nat → Int32) (v3 : Nat → Int32) (i4 : Nat) (v4 : Nat → Int32) (hfr : fr + 64 ≤ 448) (hi : 16 ≤ 16) (hg : ∀ j, j < 16 → g j = wA row fr 16 j) (hi2 : 16 ≤ 64 ∧ 64 ≤ 64) (hg2 : ∀ j, j < 64 → g2 j = wA row fr 64 j) (hi3 : 8 ≤ 8) (hv3 : ∀ j, j < 8 → v3 j = hh j) (hi4 : i4 ≤ 64) (hv4 : ∀ j, j < 8 → v4 j = rds hh (wA row fr 64) i4 j) (C : Cx p s m args c cX4_block 8 RX4 D t x A) (kx0 : ∀ (i5 : Nat) (v5 : Nat → Int32) (H : Heap) (locs : List Loc) (ls : Array Slot), (i5 ≤ 7) → (∀ j, j < 8 → v5 j = if i5 < j then v4 (j - 1) else v4 j) → (0 = i5) → va_P D vwCl [(a 0, .inr (4, mO a th day kp tw wk k1 k2 o1 o2 ns)), (a 1, .inl (t 1, 64, .inl k_cu)), (a 3, .inl (t 0, 448, .inl row)), (a 4, .inl (t 1, 64, .inl g2)), (a 5, .inl (t 1, 8, .inl hh)), (a 6, .inl (t 1, 8, .inl v5))] H → va_D A [(a 0, .inr (4, mO a th day kp tw wk k1 k2 o1 o2 ns)), (a 1, .inl (t 1, 64, .inl k_cu)), (a 3, .inl (t 0, 448, .inl row)), (a 4, .inl (t 1, 64, .inl g2)), (a 5, .inl (t 1, 8, .inl hh)), (a 6, .inl (t 1, 8, .inl v5))] → va_S A s.heap H locs → lv_has ls 8 [(7, .int (nI i5)), (6, .int ((((ro (v4 0) (nI 2)) ^^^ (ro (v4 0) (nI 13))) ^^^ (ro (v4 0) (nI 22))) + ((((v4 0) &&& (v4 1)) ^^^ ((v4 0) &&& (v4 2))) ^^^ ((v4 1) &&& (v4 2))))), (5, .int (((((v4 7) + (((ro (v4 4) (nI 6)) ^^^ (ro (v4 4) (nI 11))) ^^^ (ro (v4 4) (nI 25)))) + (((v4 4) &&& (v4 5)) ^^^ (((v4 4) ^^^ (-1)) &&& (v4 6)))) + (k_cu i4)) + (g2 i4))), (4, .int (v4 0)), (3, .int (v4 4)), (2, .int (nI i4)), (0, .ref (a 0)), (1, .int (nI fr))] → W p l e r_X4_block s m args below meth c H locs 0 0 Q (F0 m 387 ls [])) : ∀ (fu : Nat) (i5 : Nat) (v5 : Nat → Int32) (H : Heap) (locs : List Loc) (ls : Array Slot), i5 < fu → (i5 ≤ 7) → (∀ j, j < 8 → v5 j = if i5 < j then v4 (j - 1) else v4 j) → va_P D vwCl [(a 0, .inr (4, mO a th day kp tw wk k1 k2 o1 o2 ns)), (a 1, .inl (t 1, 64, .inl k_cu)), (a 3, .inl (t 0, 448, .inl row)), (a 4, .inl (t 1, 64, .inl g2)), (a 5, .inl (t 1, 8, .inl hh)), (a 6, .inl (t 1, 8, .inl v5))] H → va_D A [(a 0, .inr (4, mO a th day kp tw wk k1 k2 o1 o2 ns)), (a 1, .inl (t 1, 64, .inl k_cu)), (a 3, .inl (t 0, 448, .inl row)), (a 4, .inl (t 1, 64, .inl g2)), (a 5, .inl (t 1, 8, .inl hh)), (a 6, .inl (t 1, 8, .inl v5))] → va_S A s.heap H locs → lv_has ls 8 [(7, .int (nI i5)), (6, .int ((((ro (v4 0) (nI 2)) ^^^ (ro (v4 0) (nI 13))) ^^^ (ro (v4 0) (nI 22))) + ((((v4 0) &&& (v4 1)) ^^^ ((v4 0) &&& (v4 2))) ^^^ ((v4 1) &&& (v4 2))))), (5, .int (((((v4 7) + (((ro (v4 4) (nI 6)) ^^^ (ro (v4 4) (nI 11))) ^^^ (ro (v4 4) (nI 25)))) + (((v4 4) &&& (v4 5)) ^^^ (((v4 4) ^^^ (-1)) &&& (v4 6)))) + (k_cu i4)) + (g2 i4))), (4, .int (v4 0)), (3, .int (v4 4)), (2, .int (nI i4)), (0, .ref (a 0)), (1, .int (nI fr))] → W p l e r_X4_block s m args below meth c H locs 0 0 Q (F0 m 360 ls []) := by
  obtain ⟨hx, hcb, hml, hown, hts, hK, hA, hX, hN⟩ := id C
  intro fu
  induction fu with
  | zero =>
    intro i5 v5 H locs ls hz
    exact absurd hz (Nat.not_lt_zero _)
  | succ fu ih =>
    intro i5 v5 H locs ls hz hi5 hv5 hP hD hS hl
    refine lv_iload hx hcb dX4_block_360 (lv_at hl 0 rfl) ?_
    refine q_n0_le (x := i5) (tgt := 387) hx hcb (by omega) dX4_block_362 (by decide) (fun c_15 => ?_) (fun c_15 => ?_)
    · exact kx0 i5 v5 _ _ _ hi5 hv5 (by omega) hP hD hS (lv_sub hl [0, 1, 2, 3, 4, 5, 6, 7] rfl)
    · refine lv_aload_n hx hcb dX4_block_365 rfl (lv_at hl 6 rfl) ?_
      refine va_get (D := D) (ci := 4) (v := .ref (a 6)) (C := RX4) (T := TX4) (N := 45) hx hcb hts inX4 hown hK hP 0 rfl rfl 6 (by decide) (hts _ wf_X4_26) (fun _ h9 => h9) rfl dX4_block_366 ?_
      refine lv_iload hx hcb dX4_block_369 (lv_at hl 0 rfl) ?_
      refine lv_aload_n hx hcb dX4_block_371 rfl (lv_at hl 6 rfl) ?_
      refine va_get (D := D) (ci := 4) (v := .ref (a 6)) (C := RX4) (T := TX4) (N := 45) hx hcb hts inX4 hown hK hP 0 rfl rfl 6 (by decide) (hts _ wf_X4_26) (fun _ h9 => h9) rfl dX4_block_372 ?_
      refine lv_iload hx hcb dX4_block_375 (lv_at hl 0 rfl) ?_
      refine lv_iconst (v := nI 1) hx hcb dX4_block_377 (by decide) ?_
      refine q_isub (x := i5) (y := 1) hx hcb (by omega) dX4_block_378 ?_
      refine q_iald (j := i5 - 1) hx hcb hK hP 5 1 rfl rfl (by omega) (by decide) dX4_block_379 ?_
      refine q_iast (j := i5) (v := v5 (i5 - 1)) hx hcb hK hP hD hS 5 1 rfl rfl (by omega) (by decide) dX4_block_380 (fun H locs hP hD hS => ?_)
      have hP : va_P D vwCl [(a 0, .inr (4, mO a th day kp tw wk k1 k2 o1 o2 ns)), (a 1, .inl (t 1, 64, .inl k_cu)), (a 3, .inl (t 0, 448, .inl row)), (a 4, .inl (t 1, 64, .inl g2)), (a 5, .inl (t 1, 8, .inl hh)), (a 6, .inl (t 1, 8, .inl (upd v5 i5 (v5 (i5 - 1)))))] H := hP
      have hD : va_D A [(a 0, .inr (4, mO a th day kp tw wk k1 k2 o1 o2 ns)), (a 1, .inl (t 1, 64, .inl k_cu)), (a 3, .inl (t 0, 448, .inl row)), (a 4, .inl (t 1, 64, .inl g2)), (a 5, .inl (t 1, 8, .inl hh)), (a 6, .inl (t 1, 8, .inl (upd v5 i5 (v5 (i5 - 1)))))] := hD
      refine lv_iinc (v := nI (i5 - 1)) (lv' := [(7, .int (nI (i5 - 1))), (6, .int ((((ro (v4 0) (nI 2)) ^^^ (ro (v4 0) (nI 13))) ^^^ (ro (v4 0) (nI 22))) + ((((v4 0) &&& (v4 1)) ^^^ ((v4 0) &&& (v4 2))) ^^^ ((v4 1) &&& (v4 2))))), (5, .int (((((v4 7) + (((ro (v4 4) (nI 6)) ^^^ (ro (v4 4) (nI 11))) ^^^ (ro (v4 4) (nI 25)))) + (((v4 4) &&& (v4 5)) ^^^ (((v4 4) ^^^ (-1)) &&& (v4 6)))) + (k_cu i4)) + (g2 i4))), (4, .int (v4 0)), (3, .int (v4 4)), (2, .int (nI i4)), (0, .ref (a 0)), (1, .int (nI fr))]) hx hcb dX4_block_381 hl (k := 0) rfl (q_dec (x := i5) (by omega)) (by decide) rfl (fun ls hl => ?_)
      refine lv_goto (tgt := 360) hx hcb dX4_block_384 (by decide) ?_
      exact ih (i5 - 1) (upd v5 i5 (v5 (i5 - 1))) _ _ _ (by omega) (by omega) (sh_s (by omega) hi5 hv5) hP hD hS (lv_sub hl [0, 1, 2, 3, 4, 5, 6, 7] rfl)
set_option maxHeartbeats 1000000 in
set_option maxRecDepth 100000 in
theorem lp_X4_block_212 (a : Nat → Nat) (fr : Nat) (th : Int32) (day : Int32) (kp : Int64) (tw : Int64) (wk : Int32) (k1 : Int64) (k2 : Int64) (o1 : Int64) (o2 : Int64) (ns : Int32) (row : Nat → Int32) (w : Nat → Int32) (hh : Nat → Int32) (nw_ : Nat → Int32) (g : Nat → Int32) (g2 : Nat → Int32) (v3 : Nat → Int32) (hfr : fr + 64 ≤ 448) (hi : 16 ≤ 16) (hg : ∀ j, j < 16 → g j = wA row fr 16 j) (hi2 : 16 ≤ 64 ∧ 64 ≤ 64) (hg2 : ∀ j, j < 64 → g2 j = wA row fr 64 j) (hi3 : 8 ≤ 8) (hv3 : ∀ j, j < 8 → v3 j = hh j) (C : Cx p s m args c cX4_block 8 RX4 D t x A) (kx0 : ∀ (i4 : Nat) (v4 : Nat → Int32) (H : Heap) (locs : List Loc) (ls : Array Slot), (i4 ≤ 64) → (∀ j, j < 8 → v4 j = rds hh (wA row fr 64) i4 j) → (64 = i4) → va_P D vwCl [(a 0, .inr (4, mO a th day kp tw wk k1 k2 o1 o2 ns)), (a 1, .inl (t 1, 64, .inl k_cu)), (a 3, .inl (t 0, 448, .inl row)), (a 4, .inl (t 1, 64, .inl g2)), (a 5, .inl (t 1, 8, .inl hh)), (a 6, .inl (t 1, 8, .inl v4))] H → va_D A [(a 0, .inr (4, mO a th day kp tw wk k1 k2 o1 o2 ns)), (a 1, .inl (t 1, 64, .inl k_cu)), (a 3, .inl (t 0, 448, .inl row)), (a 4, .inl (t 1, 64, .inl g2)), (a 5, .inl (t 1, 8, .inl hh)), (a 6, .inl (t 1, 8, .inl v4))] → va_S A s.heap H locs → lv_has ls 8 [(2, .int (nI i4)), (0, .ref (a 0)), (1, .int (nI fr))] → W p l e r_X4_block s m args below meth c H locs 0 0 Q (F0 m 415 ls [])) : ∀ (fu : Nat) (i4 : Nat) (v4 : Nat → Int32) (H : Heap) (locs : List Loc) (ls : Array Slot), 64 - i4 < fu → (i4 ≤ 64) → (∀ j, j < 8 → v4 j = rds hh (wA row fr 64) i4 j) → va_P D vwCl [(a 0, .inr (4, mO a th day kp tw wk k1 k2 o1 o2 ns)), (a 1, .inl (t 1, 64, .inl k_cu)), (a 3, .inl (t 0, 448, .inl row)), (a 4, .inl (t 1, 64, .inl g2)), (a 5, .inl (t 1, 8, .inl hh)), (a 6, .inl (t 1, 8, .inl v4))] H → va_D A [(a 0, .inr (4, mO a th day kp tw wk k1 k2 o1 o2 ns)), (a 1, .inl (t 1, 64, .inl k_cu)), (a 3, .inl (t 0, 448, .inl row)), (a 4, .inl (t 1, 64, .inl g2)), (a 5, .inl (t 1, 8, .inl hh)), (a 6, .inl (t 1, 8, .inl v4))] → va_S A s.heap H locs → lv_has ls 8 [(2, .int (nI i4)), (0, .ref (a 0)), (1, .int (nI fr))] → W p l e r_X4_block s m args below meth c H locs 0 0 Q (F0 m 212 ls []) := by
  obtain ⟨hx, hcb, hml, hown, hts, hK, hA, hX, hN⟩ := id C
  intro fu
  induction fu with
  | zero =>
    intro i4 v4 H locs ls hz
    exact absurd hz (Nat.not_lt_zero _)
  | succ fu ih =>
    intro i4 v4 H locs ls hz hi4 hv4 hP hD hS hl
    refine lv_iload_n hx hcb dX4_block_212 rfl (lv_at hl 0 rfl) ?_
    refine lv_bipush (v := nI 64) hx hcb dX4_block_213 (by decide) ?_
    refine q_ge (x := i4) (y := 64) (tgt := 415) hx hcb (by omega) (by omega) dX4_block_215 (by decide) (fun c_8 => ?_) (fun c_8 => ?_)
    · exact kx0 i4 v4 _ _ _ hi4 hv4 (by omega) hP hD hS (lv_sub hl [0, 1, 2] rfl)
    · refine lv_aload_n hx hcb dX4_block_218 rfl (lv_at hl 1 rfl) ?_
      refine va_get (D := D) (ci := 4) (v := .ref (a 6)) (C := RX4) (T := TX4) (N := 45) hx hcb hts inX4 hown hK hP 0 rfl rfl 6 (by decide) (hts _ wf_X4_26) (fun _ h9 => h9) rfl dX4_block_219 ?_
      refine lv_iconst (v := nI 4) hx hcb dX4_block_222 (by decide) ?_
      refine q_iald (j := 4) hx hcb hK hP 5 1 rfl rfl (by omega) (by decide) dX4_block_223 ?_
      refine lv_istore_n (lv' := [(3, .int (v4 4)), (2, .int (nI i4)), (0, .ref (a 0)), (1, .int (nI fr))]) hx hcb dX4_block_224 rfl hl (by decide) rfl (fun ls hl => ?_)
      refine lv_aload_n hx hcb dX4_block_225 rfl (lv_at hl 2 rfl) ?_
      refine va_get (D := D) (ci := 4) (v := .ref (a 6)) (C := RX4) (T := TX4) (N := 45) hx hcb hts inX4 hown hK hP 0 rfl rfl 6 (by decide) (hts _ wf_X4_26) (fun _ h9 => h9) rfl dX4_block_226 ?_
      refine lv_iconst (v := nI 0) hx hcb dX4_block_229 (by decide) ?_
      refine q_iald (j := 0) hx hcb hK hP 5 1 rfl rfl (by omega) (by decide) dX4_block_230 ?_
      refine lv_istore (lv' := [(4, .int (v4 0)), (3, .int (v4 4)), (2, .int (nI i4)), (0, .ref (a 0)), (1, .int (nI fr))]) hx hcb dX4_block_231 hl (by decide) rfl (fun ls hl => ?_)
      refine lv_aload_n hx hcb dX4_block_233 rfl (lv_at hl 3 rfl) ?_
      refine va_get (D := D) (ci := 4) (v := .ref (a 6)) (C := RX4) (T := TX4) (N := 45) hx hcb hts inX4 hown hK hP 0 rfl rfl 6 (by decide) (hts _ wf_X4_26) (fun _ h9 => h9) rfl dX4_block_234 ?_
      refine lv_bipush (v := nI 7) hx hcb dX4_block_237 (by decide) ?_
      refine q_iald (j := 7) hx hcb hK hP 5 1 rfl rfl (by omega) (by decide) dX4_block_239 ?_
      refine lv_iload_n hx hcb dX4_block_240 rfl (lv_at hl 1 rfl) ?_
      refine lv_bipush (v := nI 6) hx hcb dX4_block_241 (by decide) ?_
      refine ct_callS (as := [.int (v4 4), .int (nI 6)]) (rest := [.int (v4 7)]) (wr := [(a 0, .inr (4, mO a th day kp tw wk k1 k2 o1 o2 ns)), (a 1, .inl (t 1, 64, .inl k_cu)), (a 3, .inl (t 0, 448, .inl row)), (a 4, .inl (t 1, 64, .inl g2)), (a 5, .inl (t 1, 8, .inl hh)), (a 6, .inl (t 1, 8, .inl v4))]) C (c_X4_rot l D t x (v4 4) (nI 6) ) (va_cwS 2 hts (gt_app (by simpa using ⟨wm_X4_201, ws_yX4_rot, wz_X4⟩) (gt_code wc_X4_rot)) rfl rfl rfl (by decide +kernel) ⟨Nat.le_of_ble_eq_true rfl, Nat.le_of_ble_eq_true rfl⟩) hP hD hS [] [0, 1, 2, 3, 4, 5] rfl (by decide) rfl (by decide) (by decide) rfl hl.1 rfl (Nat.le_of_ble_eq_true rfl) dX4_block_243 ⟨Nat.le_of_ble_eq_true rfl, Nat.le_of_ble_eq_true rfl⟩ (fun u H locs hw_9 hP hD hS => ?_)
      have hP : va_P D vwCl [(a 0, .inr (4, mO a th day kp tw wk k1 k2 o1 o2 ns)), (a 1, .inl (t 1, 64, .inl k_cu)), (a 3, .inl (t 0, 448, .inl row)), (a 4, .inl (t 1, 64, .inl g2)), (a 5, .inl (t 1, 8, .inl hh)), (a 6, .inl (t 1, 8, .inl v4))] H := hP
      have hD : va_D A [(a 0, .inr (4, mO a th day kp tw wk k1 k2 o1 o2 ns)), (a 1, .inl (t 1, 64, .inl k_cu)), (a 3, .inl (t 0, 448, .inl row)), (a 4, .inl (t 1, 64, .inl g2)), (a 5, .inl (t 1, 8, .inl hh)), (a 6, .inl (t 1, 8, .inl v4))] := hD
      refine W.eq (g2 := F0 m 246 ls [.int (ro (v4 4) (nI 6)), .int (v4 7)]) rfl ?_
      refine lv_iload_n hx hcb dX4_block_246 rfl (lv_at hl 1 rfl) ?_
      refine lv_bipush (v := nI 11) hx hcb dX4_block_247 (by decide) ?_
      refine ct_callS (as := [.int (v4 4), .int (nI 11)]) (rest := [.int (ro (v4 4) (nI 6)), .int (v4 7)]) (wr := [(a 0, .inr (4, mO a th day kp tw wk k1 k2 o1 o2 ns)), (a 1, .inl (t 1, 64, .inl k_cu)), (a 3, .inl (t 0, 448, .inl row)), (a 4, .inl (t 1, 64, .inl g2)), (a 5, .inl (t 1, 8, .inl hh)), (a 6, .inl (t 1, 8, .inl v4))]) C (c_X4_rot l D t x (v4 4) (nI 11) ) (va_cwS 2 hts (gt_app (by simpa using ⟨wm_X4_201, ws_yX4_rot, wz_X4⟩) (gt_code wc_X4_rot)) rfl rfl rfl (by decide +kernel) ⟨Nat.le_of_ble_eq_true rfl, Nat.le_of_ble_eq_true rfl⟩) hP hD hS [] [0, 1, 2, 3, 4, 5] rfl (by decide) rfl (by decide) (by decide) rfl hl.1 rfl (Nat.le_of_ble_eq_true rfl) dX4_block_249 ⟨Nat.le_of_ble_eq_true rfl, Nat.le_of_ble_eq_true rfl⟩ (fun u H locs hw_10 hP hD hS => ?_)
      have hP : va_P D vwCl [(a 0, .inr (4, mO a th day kp tw wk k1 k2 o1 o2 ns)), (a 1, .inl (t 1, 64, .inl k_cu)), (a 3, .inl (t 0, 448, .inl row)), (a 4, .inl (t 1, 64, .inl g2)), (a 5, .inl (t 1, 8, .inl hh)), (a 6, .inl (t 1, 8, .inl v4))] H := hP
      have hD : va_D A [(a 0, .inr (4, mO a th day kp tw wk k1 k2 o1 o2 ns)), (a 1, .inl (t 1, 64, .inl k_cu)), (a 3, .inl (t 0, 448, .inl row)), (a 4, .inl (t 1, 64, .inl g2)), (a 5, .inl (t 1, 8, .inl hh)), (a 6, .inl (t 1, 8, .inl v4))] := hD
      refine W.eq (g2 := F0 m 252 ls [.int (ro (v4 4) (nI 11)), .int (ro (v4 4) (nI 6)), .int (v4 7)]) rfl ?_
      refine lv_ixor hx hcb dX4_block_252 ?_
      refine lv_iload_n hx hcb dX4_block_253 rfl (lv_at hl 1 rfl) ?_
      refine lv_bipush (v := nI 25) hx hcb dX4_block_254 (by decide) ?_
      refine ct_callS (as := [.int (v4 4), .int (nI 25)]) (rest := [.int ((ro (v4 4) (nI 6)) ^^^ (ro (v4 4) (nI 11))), .int (v4 7)]) (wr := [(a 0, .inr (4, mO a th day kp tw wk k1 k2 o1 o2 ns)), (a 1, .inl (t 1, 64, .inl k_cu)), (a 3, .inl (t 0, 448, .inl row)), (a 4, .inl (t 1, 64, .inl g2)), (a 5, .inl (t 1, 8, .inl hh)), (a 6, .inl (t 1, 8, .inl v4))]) C (c_X4_rot l D t x (v4 4) (nI 25) ) (va_cwS 2 hts (gt_app (by simpa using ⟨wm_X4_201, ws_yX4_rot, wz_X4⟩) (gt_code wc_X4_rot)) rfl rfl rfl (by decide +kernel) ⟨Nat.le_of_ble_eq_true rfl, Nat.le_of_ble_eq_true rfl⟩) hP hD hS [] [0, 1, 2, 3, 4, 5] rfl (by decide) rfl (by decide) (by decide) rfl hl.1 rfl (Nat.le_of_ble_eq_true rfl) dX4_block_256 ⟨Nat.le_of_ble_eq_true rfl, Nat.le_of_ble_eq_true rfl⟩ (fun u H locs hw_11 hP hD hS => ?_)
      have hP : va_P D vwCl [(a 0, .inr (4, mO a th day kp tw wk k1 k2 o1 o2 ns)), (a 1, .inl (t 1, 64, .inl k_cu)), (a 3, .inl (t 0, 448, .inl row)), (a 4, .inl (t 1, 64, .inl g2)), (a 5, .inl (t 1, 8, .inl hh)), (a 6, .inl (t 1, 8, .inl v4))] H := hP
      have hD : va_D A [(a 0, .inr (4, mO a th day kp tw wk k1 k2 o1 o2 ns)), (a 1, .inl (t 1, 64, .inl k_cu)), (a 3, .inl (t 0, 448, .inl row)), (a 4, .inl (t 1, 64, .inl g2)), (a 5, .inl (t 1, 8, .inl hh)), (a 6, .inl (t 1, 8, .inl v4))] := hD
      refine W.eq (g2 := F0 m 259 ls [.int (ro (v4 4) (nI 25)), .int ((ro (v4 4) (nI 6)) ^^^ (ro (v4 4) (nI 11))), .int (v4 7)]) rfl ?_
      refine lv_ixor hx hcb dX4_block_259 ?_
      refine lv_iadd hx hcb dX4_block_260 ?_
      refine lv_iload_n hx hcb dX4_block_261 rfl (lv_at hl 1 rfl) ?_
      refine lv_aload_n hx hcb dX4_block_262 rfl (lv_at hl 3 rfl) ?_
      refine va_get (D := D) (ci := 4) (v := .ref (a 6)) (C := RX4) (T := TX4) (N := 45) hx hcb hts inX4 hown hK hP 0 rfl rfl 6 (by decide) (hts _ wf_X4_26) (fun _ h9 => h9) rfl dX4_block_263 ?_
      refine lv_iconst (v := nI 5) hx hcb dX4_block_266 (by decide) ?_
      refine q_iald (j := 5) hx hcb hK hP 5 1 rfl rfl (by omega) (by decide) dX4_block_267 ?_
      refine lv_iand hx hcb dX4_block_268 ?_
      refine lv_iload_n hx hcb dX4_block_269 rfl (lv_at hl 1 rfl) ?_
      refine lv_iconst (v := (-1)) hx hcb dX4_block_270 (by decide) ?_
      refine lv_ixor hx hcb dX4_block_271 ?_
      refine lv_aload_n hx hcb dX4_block_272 rfl (lv_at hl 3 rfl) ?_
      refine va_get (D := D) (ci := 4) (v := .ref (a 6)) (C := RX4) (T := TX4) (N := 45) hx hcb hts inX4 hown hK hP 0 rfl rfl 6 (by decide) (hts _ wf_X4_26) (fun _ h9 => h9) rfl dX4_block_273 ?_
      refine lv_bipush (v := nI 6) hx hcb dX4_block_276 (by decide) ?_
      refine q_iald (j := 6) hx hcb hK hP 5 1 rfl rfl (by omega) (by decide) dX4_block_278 ?_
      refine lv_iand hx hcb dX4_block_279 ?_
      refine lv_ixor hx hcb dX4_block_280 ?_
      refine lv_iadd hx hcb dX4_block_281 ?_
      refine lv_aload_n hx hcb dX4_block_282 rfl (lv_at hl 3 rfl) ?_
      refine va_get (D := D) (ci := 4) (v := .ref (a 1)) (C := RX4) (T := TX4) (N := 45) hx hcb hts inX4 hown hK hP 0 rfl rfl 1 (by decide) (hts _ wf_X4_7) (fun _ h9 => h9) rfl dX4_block_283 ?_
      refine lv_iload_n hx hcb dX4_block_286 rfl (lv_at hl 2 rfl) ?_
      refine q_iald (j := i4) hx hcb hK hP 1 1 rfl rfl (by omega) (by decide) dX4_block_287 ?_
      refine lv_iadd hx hcb dX4_block_288 ?_
      refine lv_aload_n hx hcb dX4_block_289 rfl (lv_at hl 3 rfl) ?_
      refine va_get (D := D) (ci := 4) (v := .ref (a 4)) (C := RX4) (T := TX4) (N := 45) hx hcb hts inX4 hown hK hP 0 rfl rfl 4 (by decide) (hts _ wf_X4_20) (fun _ h9 => h9) rfl dX4_block_290 ?_
      refine lv_iload_n hx hcb dX4_block_293 rfl (lv_at hl 2 rfl) ?_
      refine q_iald (j := i4) hx hcb hK hP 3 1 rfl rfl (by omega) (by decide) dX4_block_294 ?_
      refine lv_iadd hx hcb dX4_block_295 ?_
      refine lv_istore (lv' := [(5, .int (((((v4 7) + (((ro (v4 4) (nI 6)) ^^^ (ro (v4 4) (nI 11))) ^^^ (ro (v4 4) (nI 25)))) + (((v4 4) &&& (v4 5)) ^^^ (((v4 4) ^^^ (-1)) &&& (v4 6)))) + (k_cu i4)) + (g2 i4))), (4, .int (v4 0)), (3, .int (v4 4)), (2, .int (nI i4)), (0, .ref (a 0)), (1, .int (nI fr))]) hx hcb dX4_block_296 hl (by decide) rfl (fun ls hl => ?_)
      refine lv_iload hx hcb dX4_block_298 (lv_at hl 1 rfl) ?_
      refine lv_iconst (v := nI 2) hx hcb dX4_block_300 (by decide) ?_
      refine ct_callS (as := [.int (v4 0), .int (nI 2)]) (rest := []) (wr := [(a 0, .inr (4, mO a th day kp tw wk k1 k2 o1 o2 ns)), (a 1, .inl (t 1, 64, .inl k_cu)), (a 3, .inl (t 0, 448, .inl row)), (a 4, .inl (t 1, 64, .inl g2)), (a 5, .inl (t 1, 8, .inl hh)), (a 6, .inl (t 1, 8, .inl v4))]) C (c_X4_rot l D t x (v4 0) (nI 2) ) (va_cwS 2 hts (gt_app (by simpa using ⟨wm_X4_201, ws_yX4_rot, wz_X4⟩) (gt_code wc_X4_rot)) rfl rfl rfl (by decide +kernel) ⟨Nat.le_of_ble_eq_true rfl, Nat.le_of_ble_eq_true rfl⟩) hP hD hS [] [0, 1, 2, 3, 4, 5] rfl (by decide) rfl (by decide) (by decide) rfl hl.1 rfl (Nat.le_of_ble_eq_true rfl) dX4_block_301 ⟨Nat.le_of_ble_eq_true rfl, Nat.le_of_ble_eq_true rfl⟩ (fun u H locs hw_12 hP hD hS => ?_)
      have hP : va_P D vwCl [(a 0, .inr (4, mO a th day kp tw wk k1 k2 o1 o2 ns)), (a 1, .inl (t 1, 64, .inl k_cu)), (a 3, .inl (t 0, 448, .inl row)), (a 4, .inl (t 1, 64, .inl g2)), (a 5, .inl (t 1, 8, .inl hh)), (a 6, .inl (t 1, 8, .inl v4))] H := hP
      have hD : va_D A [(a 0, .inr (4, mO a th day kp tw wk k1 k2 o1 o2 ns)), (a 1, .inl (t 1, 64, .inl k_cu)), (a 3, .inl (t 0, 448, .inl row)), (a 4, .inl (t 1, 64, .inl g2)), (a 5, .inl (t 1, 8, .inl hh)), (a 6, .inl (t 1, 8, .inl v4))] := hD
      refine W.eq (g2 := F0 m 304 ls [.int (ro (v4 0) (nI 2))]) rfl ?_
      refine lv_iload hx hcb dX4_block_304 (lv_at hl 1 rfl) ?_
      refine lv_bipush (v := nI 13) hx hcb dX4_block_306 (by decide) ?_
      refine ct_callS (as := [.int (v4 0), .int (nI 13)]) (rest := [.int (ro (v4 0) (nI 2))]) (wr := [(a 0, .inr (4, mO a th day kp tw wk k1 k2 o1 o2 ns)), (a 1, .inl (t 1, 64, .inl k_cu)), (a 3, .inl (t 0, 448, .inl row)), (a 4, .inl (t 1, 64, .inl g2)), (a 5, .inl (t 1, 8, .inl hh)), (a 6, .inl (t 1, 8, .inl v4))]) C (c_X4_rot l D t x (v4 0) (nI 13) ) (va_cwS 2 hts (gt_app (by simpa using ⟨wm_X4_201, ws_yX4_rot, wz_X4⟩) (gt_code wc_X4_rot)) rfl rfl rfl (by decide +kernel) ⟨Nat.le_of_ble_eq_true rfl, Nat.le_of_ble_eq_true rfl⟩) hP hD hS [] [0, 1, 2, 3, 4, 5] rfl (by decide) rfl (by decide) (by decide) rfl hl.1 rfl (Nat.le_of_ble_eq_true rfl) dX4_block_308 ⟨Nat.le_of_ble_eq_true rfl, Nat.le_of_ble_eq_true rfl⟩ (fun u H locs hw_13 hP hD hS => ?_)
      have hP : va_P D vwCl [(a 0, .inr (4, mO a th day kp tw wk k1 k2 o1 o2 ns)), (a 1, .inl (t 1, 64, .inl k_cu)), (a 3, .inl (t 0, 448, .inl row)), (a 4, .inl (t 1, 64, .inl g2)), (a 5, .inl (t 1, 8, .inl hh)), (a 6, .inl (t 1, 8, .inl v4))] H := hP
      have hD : va_D A [(a 0, .inr (4, mO a th day kp tw wk k1 k2 o1 o2 ns)), (a 1, .inl (t 1, 64, .inl k_cu)), (a 3, .inl (t 0, 448, .inl row)), (a 4, .inl (t 1, 64, .inl g2)), (a 5, .inl (t 1, 8, .inl hh)), (a 6, .inl (t 1, 8, .inl v4))] := hD
      refine W.eq (g2 := F0 m 311 ls [.int (ro (v4 0) (nI 13)), .int (ro (v4 0) (nI 2))]) rfl ?_
      refine lv_ixor hx hcb dX4_block_311 ?_
      refine lv_iload hx hcb dX4_block_312 (lv_at hl 1 rfl) ?_
      refine lv_bipush (v := nI 22) hx hcb dX4_block_314 (by decide) ?_
      refine ct_callS (as := [.int (v4 0), .int (nI 22)]) (rest := [.int ((ro (v4 0) (nI 2)) ^^^ (ro (v4 0) (nI 13)))]) (wr := [(a 0, .inr (4, mO a th day kp tw wk k1 k2 o1 o2 ns)), (a 1, .inl (t 1, 64, .inl k_cu)), (a 3, .inl (t 0, 448, .inl row)), (a 4, .inl (t 1, 64, .inl g2)), (a 5, .inl (t 1, 8, .inl hh)), (a 6, .inl (t 1, 8, .inl v4))]) C (c_X4_rot l D t x (v4 0) (nI 22) ) (va_cwS 2 hts (gt_app (by simpa using ⟨wm_X4_201, ws_yX4_rot, wz_X4⟩) (gt_code wc_X4_rot)) rfl rfl rfl (by decide +kernel) ⟨Nat.le_of_ble_eq_true rfl, Nat.le_of_ble_eq_true rfl⟩) hP hD hS [] [0, 1, 2, 3, 4, 5] rfl (by decide) rfl (by decide) (by decide) rfl hl.1 rfl (Nat.le_of_ble_eq_true rfl) dX4_block_316 ⟨Nat.le_of_ble_eq_true rfl, Nat.le_of_ble_eq_true rfl⟩ (fun u H locs hw_14 hP hD hS => ?_)
      have hP : va_P D vwCl [(a 0, .inr (4, mO a th day kp tw wk k1 k2 o1 o2 ns)), (a 1, .inl (t 1, 64, .inl k_cu)), (a 3, .inl (t 0, 448, .inl row)), (a 4, .inl (t 1, 64, .inl g2)), (a 5, .inl (t 1, 8, .inl hh)), (a 6, .inl (t 1, 8, .inl v4))] H := hP
      have hD : va_D A [(a 0, .inr (4, mO a th day kp tw wk k1 k2 o1 o2 ns)), (a 1, .inl (t 1, 64, .inl k_cu)), (a 3, .inl (t 0, 448, .inl row)), (a 4, .inl (t 1, 64, .inl g2)), (a 5, .inl (t 1, 8, .inl hh)), (a 6, .inl (t 1, 8, .inl v4))] := hD
      refine W.eq (g2 := F0 m 319 ls [.int (ro (v4 0) (nI 22)), .int ((ro (v4 0) (nI 2)) ^^^ (ro (v4 0) (nI 13)))]) rfl ?_
      refine lv_ixor hx hcb dX4_block_319 ?_
      refine lv_iload hx hcb dX4_block_320 (lv_at hl 1 rfl) ?_
      refine lv_aload_n hx hcb dX4_block_322 rfl (lv_at hl 4 rfl) ?_
      refine va_get (D := D) (ci := 4) (v := .ref (a 6)) (C := RX4) (T := TX4) (N := 45) hx hcb hts inX4 hown hK hP 0 rfl rfl 6 (by decide) (hts _ wf_X4_26) (fun _ h9 => h9) rfl dX4_block_323 ?_
      refine lv_iconst (v := nI 1) hx hcb dX4_block_326 (by decide) ?_
      refine q_iald (j := 1) hx hcb hK hP 5 1 rfl rfl (by omega) (by decide) dX4_block_327 ?_
      refine lv_iand hx hcb dX4_block_328 ?_
      refine lv_iload hx hcb dX4_block_329 (lv_at hl 1 rfl) ?_
      refine lv_aload_n hx hcb dX4_block_331 rfl (lv_at hl 4 rfl) ?_
      refine va_get (D := D) (ci := 4) (v := .ref (a 6)) (C := RX4) (T := TX4) (N := 45) hx hcb hts inX4 hown hK hP 0 rfl rfl 6 (by decide) (hts _ wf_X4_26) (fun _ h9 => h9) rfl dX4_block_332 ?_
      refine lv_iconst (v := nI 2) hx hcb dX4_block_335 (by decide) ?_
      refine q_iald (j := 2) hx hcb hK hP 5 1 rfl rfl (by omega) (by decide) dX4_block_336 ?_
      refine lv_iand hx hcb dX4_block_337 ?_
      refine lv_ixor hx hcb dX4_block_338 ?_
      refine lv_aload_n hx hcb dX4_block_339 rfl (lv_at hl 4 rfl) ?_
      refine va_get (D := D) (ci := 4) (v := .ref (a 6)) (C := RX4) (T := TX4) (N := 45) hx hcb hts inX4 hown hK hP 0 rfl rfl 6 (by decide) (hts _ wf_X4_26) (fun _ h9 => h9) rfl dX4_block_340 ?_
      refine lv_iconst (v := nI 1) hx hcb dX4_block_343 (by decide) ?_
      refine q_iald (j := 1) hx hcb hK hP 5 1 rfl rfl (by omega) (by decide) dX4_block_344 ?_
      refine lv_aload_n hx hcb dX4_block_345 rfl (lv_at hl 4 rfl) ?_
      refine va_get (D := D) (ci := 4) (v := .ref (a 6)) (C := RX4) (T := TX4) (N := 45) hx hcb hts inX4 hown hK hP 0 rfl rfl 6 (by decide) (hts _ wf_X4_26) (fun _ h9 => h9) rfl dX4_block_346 ?_
      refine lv_iconst (v := nI 2) hx hcb dX4_block_349 (by decide) ?_
      refine q_iald (j := 2) hx hcb hK hP 5 1 rfl rfl (by omega) (by decide) dX4_block_350 ?_
      refine lv_iand hx hcb dX4_block_351 ?_
      refine lv_ixor hx hcb dX4_block_352 ?_
      refine lv_iadd hx hcb dX4_block_353 ?_
      refine lv_istore (lv' := [(6, .int ((((ro (v4 0) (nI 2)) ^^^ (ro (v4 0) (nI 13))) ^^^ (ro (v4 0) (nI 22))) + ((((v4 0) &&& (v4 1)) ^^^ ((v4 0) &&& (v4 2))) ^^^ ((v4 1) &&& (v4 2))))), (5, .int (((((v4 7) + (((ro (v4 4) (nI 6)) ^^^ (ro (v4 4) (nI 11))) ^^^ (ro (v4 4) (nI 25)))) + (((v4 4) &&& (v4 5)) ^^^ (((v4 4) ^^^ (-1)) &&& (v4 6)))) + (k_cu i4)) + (g2 i4))), (4, .int (v4 0)), (3, .int (v4 4)), (2, .int (nI i4)), (0, .ref (a 0)), (1, .int (nI fr))]) hx hcb dX4_block_354 hl (by decide) rfl (fun ls hl => ?_)
      refine lv_bipush (v := nI 7) hx hcb dX4_block_356 (by decide) ?_
      refine lv_istore (lv' := [(7, .int (nI 7)), (6, .int ((((ro (v4 0) (nI 2)) ^^^ (ro (v4 0) (nI 13))) ^^^ (ro (v4 0) (nI 22))) + ((((v4 0) &&& (v4 1)) ^^^ ((v4 0) &&& (v4 2))) ^^^ ((v4 1) &&& (v4 2))))), (5, .int (((((v4 7) + (((ro (v4 4) (nI 6)) ^^^ (ro (v4 4) (nI 11))) ^^^ (ro (v4 4) (nI 25)))) + (((v4 4) &&& (v4 5)) ^^^ (((v4 4) ^^^ (-1)) &&& (v4 6)))) + (k_cu i4)) + (g2 i4))), (4, .int (v4 0)), (3, .int (v4 4)), (2, .int (nI i4)), (0, .ref (a 0)), (1, .int (nI fr))]) hx hcb dX4_block_358 hl (by decide) rfl (fun ls hl => ?_)
      refine lp_X4_block_360 a fr th day kp tw wk k1 k2 o1 o2 ns row w hh nw_ g g2 v3 i4 v4 hfr hi hg hi2 hg2 hi3 hv3 hi4 hv4 C (fun i5 v5 H locs ls hi5 hv5 hi0 hP hD hS hl => ?_) ((7) + 1) 7 v4 _ _ _ (Nat.lt_succ_self _) (by omega) (fun j hj => by rw [if_neg (by omega)]) hP hD hS (lv_sub hl [0, 1, 2, 3, 4, 5, 6, 7] rfl)
      subst hi0
      refine lv_aload_n hx hcb dX4_block_387 rfl (lv_at hl 6 rfl) ?_
      refine va_get (D := D) (ci := 4) (v := .ref (a 6)) (C := RX4) (T := TX4) (N := 45) hx hcb hts inX4 hown hK hP 0 rfl rfl 6 (by decide) (hts _ wf_X4_26) (fun _ h9 => h9) rfl dX4_block_388 ?_
      refine lv_iconst (v := nI 4) hx hcb dX4_block_391 (by decide) ?_
      refine lv_dup2_11 hx hcb dX4_block_392 rfl rfl ?_
      refine q_iald (j := 4) hx hcb hK hP 5 1 rfl rfl (by omega) (by decide) dX4_block_393 ?_
      refine lv_iload hx hcb dX4_block_394 (lv_at hl 2 rfl) ?_
      refine lv_iadd hx hcb dX4_block_396 ?_
      refine q_iast (j := 4) (v := (v5 4) + (((((v4 7) + (((ro (v4 4) (nI 6)) ^^^ (ro (v4 4) (nI 11))) ^^^ (ro (v4 4) (nI 25)))) + (((v4 4) &&& (v4 5)) ^^^ (((v4 4) ^^^ (-1)) &&& (v4 6)))) + (k_cu i4)) + (g2 i4))) hx hcb hK hP hD hS 5 1 rfl rfl (by omega) (by decide) dX4_block_397 (fun H locs hP hD hS => ?_)
      have hP : va_P D vwCl [(a 0, .inr (4, mO a th day kp tw wk k1 k2 o1 o2 ns)), (a 1, .inl (t 1, 64, .inl k_cu)), (a 3, .inl (t 0, 448, .inl row)), (a 4, .inl (t 1, 64, .inl g2)), (a 5, .inl (t 1, 8, .inl hh)), (a 6, .inl (t 1, 8, .inl (upd v5 4 ((v5 4) + (((((v4 7) + (((ro (v4 4) (nI 6)) ^^^ (ro (v4 4) (nI 11))) ^^^ (ro (v4 4) (nI 25)))) + (((v4 4) &&& (v4 5)) ^^^ (((v4 4) ^^^ (-1)) &&& (v4 6)))) + (k_cu i4)) + (g2 i4))))))] H := hP
      have hD : va_D A [(a 0, .inr (4, mO a th day kp tw wk k1 k2 o1 o2 ns)), (a 1, .inl (t 1, 64, .inl k_cu)), (a 3, .inl (t 0, 448, .inl row)), (a 4, .inl (t 1, 64, .inl g2)), (a 5, .inl (t 1, 8, .inl hh)), (a 6, .inl (t 1, 8, .inl (upd v5 4 ((v5 4) + (((((v4 7) + (((ro (v4 4) (nI 6)) ^^^ (ro (v4 4) (nI 11))) ^^^ (ro (v4 4) (nI 25)))) + (((v4 4) &&& (v4 5)) ^^^ (((v4 4) ^^^ (-1)) &&& (v4 6)))) + (k_cu i4)) + (g2 i4))))))] := hD
      refine lv_aload_n hx hcb dX4_block_398 rfl (lv_at hl 6 rfl) ?_
      refine va_get (D := D) (ci := 4) (v := .ref (a 6)) (C := RX4) (T := TX4) (N := 45) hx hcb hts inX4 hown hK hP 0 rfl rfl 6 (by decide) (hts _ wf_X4_26) (fun _ h9 => h9) rfl dX4_block_399 ?_
      refine lv_iconst (v := nI 0) hx hcb dX4_block_402 (by decide) ?_
      refine lv_iload hx hcb dX4_block_403 (lv_at hl 2 rfl) ?_
      refine lv_iload hx hcb dX4_block_405 (lv_at hl 1 rfl) ?_
      refine lv_iadd hx hcb dX4_block_407 ?_
      refine q_iast (j := 0) (v := (((((v4 7) + (((ro (v4 4) (nI 6)) ^^^ (ro (v4 4) (nI 11))) ^^^ (ro (v4 4) (nI 25)))) + (((v4 4) &&& (v4 5)) ^^^ (((v4 4) ^^^ (-1)) &&& (v4 6)))) + (k_cu i4)) + (g2 i4)) + ((((ro (v4 0) (nI 2)) ^^^ (ro (v4 0) (nI 13))) ^^^ (ro (v4 0) (nI 22))) + ((((v4 0) &&& (v4 1)) ^^^ ((v4 0) &&& (v4 2))) ^^^ ((v4 1) &&& (v4 2))))) hx hcb hK hP hD hS 5 1 rfl rfl (by omega) (by decide) dX4_block_408 (fun H locs hP hD hS => ?_)
      have hP : va_P D vwCl [(a 0, .inr (4, mO a th day kp tw wk k1 k2 o1 o2 ns)), (a 1, .inl (t 1, 64, .inl k_cu)), (a 3, .inl (t 0, 448, .inl row)), (a 4, .inl (t 1, 64, .inl g2)), (a 5, .inl (t 1, 8, .inl hh)), (a 6, .inl (t 1, 8, .inl (upd (upd v5 4 ((v5 4) + (((((v4 7) + (((ro (v4 4) (nI 6)) ^^^ (ro (v4 4) (nI 11))) ^^^ (ro (v4 4) (nI 25)))) + (((v4 4) &&& (v4 5)) ^^^ (((v4 4) ^^^ (-1)) &&& (v4 6)))) + (k_cu i4)) + (g2 i4)))) 0 ((((((v4 7) + (((ro (v4 4) (nI 6)) ^^^ (ro (v4 4) (nI 11))) ^^^ (ro (v4 4) (nI 25)))) + (((v4 4) &&& (v4 5)) ^^^ (((v4 4) ^^^ (-1)) &&& (v4 6)))) + (k_cu i4)) + (g2 i4)) + ((((ro (v4 0) (nI 2)) ^^^ (ro (v4 0) (nI 13))) ^^^ (ro (v4 0) (nI 22))) + ((((v4 0) &&& (v4 1)) ^^^ ((v4 0) &&& (v4 2))) ^^^ ((v4 1) &&& (v4 2))))))))] H := hP
      have hD : va_D A [(a 0, .inr (4, mO a th day kp tw wk k1 k2 o1 o2 ns)), (a 1, .inl (t 1, 64, .inl k_cu)), (a 3, .inl (t 0, 448, .inl row)), (a 4, .inl (t 1, 64, .inl g2)), (a 5, .inl (t 1, 8, .inl hh)), (a 6, .inl (t 1, 8, .inl (upd (upd v5 4 ((v5 4) + (((((v4 7) + (((ro (v4 4) (nI 6)) ^^^ (ro (v4 4) (nI 11))) ^^^ (ro (v4 4) (nI 25)))) + (((v4 4) &&& (v4 5)) ^^^ (((v4 4) ^^^ (-1)) &&& (v4 6)))) + (k_cu i4)) + (g2 i4)))) 0 ((((((v4 7) + (((ro (v4 4) (nI 6)) ^^^ (ro (v4 4) (nI 11))) ^^^ (ro (v4 4) (nI 25)))) + (((v4 4) &&& (v4 5)) ^^^ (((v4 4) ^^^ (-1)) &&& (v4 6)))) + (k_cu i4)) + (g2 i4)) + ((((ro (v4 0) (nI 2)) ^^^ (ro (v4 0) (nI 13))) ^^^ (ro (v4 0) (nI 22))) + ((((v4 0) &&& (v4 1)) ^^^ ((v4 0) &&& (v4 2))) ^^^ ((v4 1) &&& (v4 2))))))))] := hD
      refine lv_iinc (v := nI (i4 + 1)) (lv' := [(2, .int (nI (i4 + 1))), (7, .int (nI 0)), (6, .int ((((ro (v4 0) (nI 2)) ^^^ (ro (v4 0) (nI 13))) ^^^ (ro (v4 0) (nI 22))) + ((((v4 0) &&& (v4 1)) ^^^ ((v4 0) &&& (v4 2))) ^^^ ((v4 1) &&& (v4 2))))), (5, .int (((((v4 7) + (((ro (v4 4) (nI 6)) ^^^ (ro (v4 4) (nI 11))) ^^^ (ro (v4 4) (nI 25)))) + (((v4 4) &&& (v4 5)) ^^^ (((v4 4) ^^^ (-1)) &&& (v4 6)))) + (k_cu i4)) + (g2 i4))), (4, .int (v4 0)), (3, .int (v4 4)), (0, .ref (a 0)), (1, .int (nI fr))]) hx hcb dX4_block_409 hl (k := 5) rfl (q_inc i4 1 rfl) (by decide) rfl (fun ls hl => ?_)
      refine lv_goto (tgt := 212) hx hcb dX4_block_412 (by decide) ?_
      exact ih (i4 + 1) (upd (upd v5 4 ((v5 4) + (((((v4 7) + (((ro (v4 4) (nI 6)) ^^^ (ro (v4 4) (nI 11))) ^^^ (ro (v4 4) (nI 25)))) + (((v4 4) &&& (v4 5)) ^^^ (((v4 4) ^^^ (-1)) &&& (v4 6)))) + (k_cu i4)) + (g2 i4)))) 0 ((((((v4 7) + (((ro (v4 4) (nI 6)) ^^^ (ro (v4 4) (nI 11))) ^^^ (ro (v4 4) (nI 25)))) + (((v4 4) &&& (v4 5)) ^^^ (((v4 4) ^^^ (-1)) &&& (v4 6)))) + (k_cu i4)) + (g2 i4)) + ((((ro (v4 0) (nI 2)) ^^^ (ro (v4 0) (nI 13))) ^^^ (ro (v4 0) (nI 22))) + ((((v4 0) &&& (v4 1)) ^^^ ((v4 0) &&& (v4 2))) ^^^ ((v4 1) &&& (v4 2)))))) _ _ _ (by omega) (by omega) (rd_sh hv4 (hg2 i4 (by omega)) hv5) hP hD hS (lv_sub hl [0, 6, 7] rfl)
set_option maxHeartbeats 1000000 in
set_option maxRecDepth 100000 in
theorem lp_X4_block_417 (a : Nat → Nat) (fr : Nat) (th : Int32) (day : Int32) (kp : Int64) (tw : Int64) (wk : Int32) (k1 : Int64) (k2 : Int64) (o1 : Int64) (o2 : Int64) (ns : Int32) (row : Nat → Int32) (w : Nat → Int32) (hh : Nat → Int32) (nw_ : Nat → Int32) (g : Nat → Int32) (g2 : Nat → Int32) (v3 : Nat → Int32) (v4 : Nat → Int32) (hfr : fr + 64 ≤ 448) (hi : 16 ≤ 16) (hg : ∀ j, j < 16 → g j = wA row fr 16 j) (hi2 : 16 ≤ 64 ∧ 64 ≤ 64) (hg2 : ∀ j, j < 64 → g2 j = wA row fr 64 j) (hi3 : 8 ≤ 8) (hv3 : ∀ j, j < 8 → v3 j = hh j) (hi4 : 64 ≤ 64) (hv4 : ∀ j, j < 8 → v4 j = rds hh (wA row fr 64) 64 j) (C : Cx p s m args c cX4_block 8 RX4 D t x A) (kx0 : ∀ (i6 : Nat) (h6 : Nat → Int32) (H : Heap) (locs : List Loc) (ls : Array Slot), (i6 ≤ 8) → (∀ j, j < 8 → h6 j = if j < i6 then hh j + v4 j else hh j) → (8 = i6) → va_P D vwCl [(a 0, .inr (4, mO a th day kp tw wk k1 k2 o1 o2 ns)), (a 1, .inl (t 1, 64, .inl k_cu)), (a 3, .inl (t 0, 448, .inl row)), (a 4, .inl (t 1, 64, .inl g2)), (a 5, .inl (t 1, 8, .inl h6)), (a 6, .inl (t 1, 8, .inl v4))] H → va_D A [(a 0, .inr (4, mO a th day kp tw wk k1 k2 o1 o2 ns)), (a 1, .inl (t 1, 64, .inl k_cu)), (a 3, .inl (t 0, 448, .inl row)), (a 4, .inl (t 1, 64, .inl g2)), (a 5, .inl (t 1, 8, .inl h6)), (a 6, .inl (t 1, 8, .inl v4))] → va_S A s.heap H locs → lv_has ls 8 [(2, .int (nI i6)), (0, .ref (a 0)), (1, .int (nI fr))] → W p l e r_X4_block s m args below meth c H locs 0 0 Q (F0 m 444 ls [])) : ∀ (fu : Nat) (i6 : Nat) (h6 : Nat → Int32) (H : Heap) (locs : List Loc) (ls : Array Slot), 8 - i6 < fu → (i6 ≤ 8) → (∀ j, j < 8 → h6 j = if j < i6 then hh j + v4 j else hh j) → va_P D vwCl [(a 0, .inr (4, mO a th day kp tw wk k1 k2 o1 o2 ns)), (a 1, .inl (t 1, 64, .inl k_cu)), (a 3, .inl (t 0, 448, .inl row)), (a 4, .inl (t 1, 64, .inl g2)), (a 5, .inl (t 1, 8, .inl h6)), (a 6, .inl (t 1, 8, .inl v4))] H → va_D A [(a 0, .inr (4, mO a th day kp tw wk k1 k2 o1 o2 ns)), (a 1, .inl (t 1, 64, .inl k_cu)), (a 3, .inl (t 0, 448, .inl row)), (a 4, .inl (t 1, 64, .inl g2)), (a 5, .inl (t 1, 8, .inl h6)), (a 6, .inl (t 1, 8, .inl v4))] → va_S A s.heap H locs → lv_has ls 8 [(2, .int (nI i6)), (0, .ref (a 0)), (1, .int (nI fr))] → W p l e r_X4_block s m args below meth c H locs 0 0 Q (F0 m 417 ls []) := by
  obtain ⟨hx, hcb, hml, hown, hts, hK, hA, hX, hN⟩ := id C
  intro fu
  induction fu with
  | zero =>
    intro i6 h6 H locs ls hz
    exact absurd hz (Nat.not_lt_zero _)
  | succ fu ih =>
    intro i6 h6 H locs ls hz hi6 hh6 hP hD hS hl
    refine lv_iload_n hx hcb dX4_block_417 rfl (lv_at hl 0 rfl) ?_
    refine lv_bipush (v := nI 8) hx hcb dX4_block_418 (by decide) ?_
    refine q_ge (x := i6) (y := 8) (tgt := 444) hx hcb (by omega) (by omega) dX4_block_420 (by decide) (fun c_16 => ?_) (fun c_16 => ?_)
    · exact kx0 i6 h6 _ _ _ hi6 hh6 (by omega) hP hD hS (lv_sub hl [0, 1, 2] rfl)
    · refine lv_aload_n hx hcb dX4_block_423 rfl (lv_at hl 1 rfl) ?_
      refine va_get (D := D) (ci := 4) (v := .ref (a 5)) (C := RX4) (T := TX4) (N := 45) hx hcb hts inX4 hown hK hP 0 rfl rfl 5 (by decide) (hts _ wf_X4_23) (fun _ h9 => h9) rfl dX4_block_424 ?_
      refine lv_iload_n hx hcb dX4_block_427 rfl (lv_at hl 0 rfl) ?_
      refine lv_dup2_11 hx hcb dX4_block_428 rfl rfl ?_
      refine q_iald (j := i6) hx hcb hK hP 4 1 rfl rfl (by omega) (by decide) dX4_block_429 ?_
      refine lv_aload_n hx hcb dX4_block_430 rfl (lv_at hl 1 rfl) ?_
      refine va_get (D := D) (ci := 4) (v := .ref (a 6)) (C := RX4) (T := TX4) (N := 45) hx hcb hts inX4 hown hK hP 0 rfl rfl 6 (by decide) (hts _ wf_X4_26) (fun _ h9 => h9) rfl dX4_block_431 ?_
      refine lv_iload_n hx hcb dX4_block_434 rfl (lv_at hl 0 rfl) ?_
      refine q_iald (j := i6) hx hcb hK hP 5 1 rfl rfl (by omega) (by decide) dX4_block_435 ?_
      refine lv_iadd hx hcb dX4_block_436 ?_
      refine q_iast (j := i6) (v := (h6 i6) + (v4 i6)) hx hcb hK hP hD hS 4 1 rfl rfl (by omega) (by decide) dX4_block_437 (fun H locs hP hD hS => ?_)
      have hP : va_P D vwCl [(a 0, .inr (4, mO a th day kp tw wk k1 k2 o1 o2 ns)), (a 1, .inl (t 1, 64, .inl k_cu)), (a 3, .inl (t 0, 448, .inl row)), (a 4, .inl (t 1, 64, .inl g2)), (a 5, .inl (t 1, 8, .inl (upd h6 i6 ((h6 i6) + (v4 i6))))), (a 6, .inl (t 1, 8, .inl v4))] H := hP
      have hD : va_D A [(a 0, .inr (4, mO a th day kp tw wk k1 k2 o1 o2 ns)), (a 1, .inl (t 1, 64, .inl k_cu)), (a 3, .inl (t 0, 448, .inl row)), (a 4, .inl (t 1, 64, .inl g2)), (a 5, .inl (t 1, 8, .inl (upd h6 i6 ((h6 i6) + (v4 i6))))), (a 6, .inl (t 1, 8, .inl v4))] := hD
      refine lv_iinc (v := nI (i6 + 1)) (lv' := [(2, .int (nI (i6 + 1))), (0, .ref (a 0)), (1, .int (nI fr))]) hx hcb dX4_block_438 hl (k := 0) rfl (q_inc i6 1 rfl) (by decide) rfl (fun ls hl => ?_)
      refine lv_goto (tgt := 417) hx hcb dX4_block_441 (by decide) ?_
      exact ih (i6 + 1) (upd h6 i6 ((h6 i6) + (v4 i6))) _ _ _ (by omega) (by omega) (ad_s (by omega) hh6) hP hD hS (lv_sub hl [0, 1, 2] rfl)
set_option maxHeartbeats 1000000 in
set_option maxRecDepth 100000 in
theorem b_X4_block (a : Nat → Nat) (fr : Nat) (th : Int32) (day : Int32) (kp : Int64) (tw : Int64) (wk : Int32) (k1 : Int64) (k2 : Int64) (o1 : Int64) (o2 : Int64) (ns : Int32) (row : Nat → Int32) (w : Nat → Int32) (hh : Nat → Int32) (nw_ : Nat → Int32) (hfr : fr + 64 ≤ 448) {H : Heap} {locs : List Loc} {ls : Array Slot} (C : Cx p s m args c cX4_block 8 RX4 D t x A) (ret : RtV p l e r_X4_block s m args below meth c Q D A cX4_block ((Nat → Int32) × (Nat → Int32) × (Nat → Int32)) (fun (u : (Nat → Int32) × (Nat → Int32) × (Nat → Int32)) => ∀ k, k < 8 → u.2.1 k = hh k + rds hh (wA row fr 64) 64 k) (fun (u : (Nat → Int32) × (Nat → Int32) × (Nat → Int32)) => none) (fun (u : (Nat → Int32) × (Nat → Int32) × (Nat → Int32)) => [(a 0, .inr (4, mO a th day kp tw wk k1 k2 o1 o2 ns)), (a 1, .inl (t 1, 64, .inl k_cu)), (a 3, .inl (t 0, 448, .inl row)), (a 4, .inl (t 1, 64, .inl u.1)), (a 5, .inl (t 1, 8, .inl u.2.1)), (a 6, .inl (t 1, 8, .inl u.2.2))]) 0 0) (hl : lv_has ls 8 [(0, .ref (a 0)), (1, .int (nI fr))]) (hP : va_P D vwCl [(a 0, .inr (4, mO a th day kp tw wk k1 k2 o1 o2 ns)), (a 1, .inl (t 1, 64, .inl k_cu)), (a 3, .inl (t 0, 448, .inl row)), (a 4, .inl (t 1, 64, .inl w)), (a 5, .inl (t 1, 8, .inl hh)), (a 6, .inl (t 1, 8, .inl nw_))] H) (hD : va_D A [(a 0, .inr (4, mO a th day kp tw wk k1 k2 o1 o2 ns)), (a 1, .inl (t 1, 64, .inl k_cu)), (a 3, .inl (t 0, 448, .inl row)), (a 4, .inl (t 1, 64, .inl w)), (a 5, .inl (t 1, 8, .inl hh)), (a 6, .inl (t 1, 8, .inl nw_))]) (hS : va_S A s.heap H locs) : W p l e r_X4_block s m args below meth c H locs 0 0 Q (F0 m 0 ls []) := by
  obtain ⟨hx, hcb, hml, hown, hts, hK, hA, hX, hN⟩ := id C
  refine lv_iconst (v := nI 0) hx hcb dX4_block_0 (by decide) ?_
  refine lv_istore_n (lv' := [(2, .int (nI 0)), (0, .ref (a 0)), (1, .int (nI fr))]) hx hcb dX4_block_1 rfl hl (by decide) rfl (fun ls hl => ?_)
  refine lp_X4_block_2 a fr th day kp tw wk k1 k2 o1 o2 ns row w hh nw_ hfr C (fun i g H locs ls hi hg hi16 hP hD hS hl => ?_) ((16 - 0) + 1) 0 w _ _ _ (Nat.lt_succ_self _) (Nat.zero_le _) (fun j hj => absurd hj (Nat.not_lt_zero _)) hP hD hS (lv_sub hl [0, 1, 2] rfl)
  subst hi16
  refine lv_bipush (v := nI 16) hx hcb dX4_block_84 (by decide) ?_
  refine lv_istore_n (lv' := [(2, .int (nI 16)), (0, .ref (a 0)), (1, .int (nI fr))]) hx hcb dX4_block_86 rfl hl (by decide) rfl (fun ls hl => ?_)
  refine lp_X4_block_87 a fr th day kp tw wk k1 k2 o1 o2 ns row w hh nw_ g hfr hi hg C (fun i2 g2 H locs ls hi2 hg2 hi64 hP hD hS hl => ?_) ((64 - 16) + 1) 16 g _ _ _ (Nat.lt_succ_self _) (by omega) hg hP hD hS (lv_sub hl [0, 1, 2] rfl)
  subst hi64
  refine lv_iconst (v := nI 0) hx hcb dX4_block_184 (by decide) ?_
  refine lv_istore_n (lv' := [(2, .int (nI 0)), (0, .ref (a 0)), (1, .int (nI fr))]) hx hcb dX4_block_185 rfl hl (by decide) rfl (fun ls hl => ?_)
  refine lp_X4_block_186 a fr th day kp tw wk k1 k2 o1 o2 ns row w hh nw_ g g2 hfr hi hg hi2 hg2 C (fun i3 v3 H locs ls hi3 hv3 hi8 hP hD hS hl => ?_) ((8 - 0) + 1) 0 nw_ _ _ _ (Nat.lt_succ_self _) (Nat.zero_le _) (fun j hj => absurd hj (Nat.not_lt_zero _)) hP hD hS (lv_sub hl [0, 1, 2] rfl)
  subst hi8
  refine lv_iconst (v := nI 0) hx hcb dX4_block_210 (by decide) ?_
  refine lv_istore_n (lv' := [(2, .int (nI 0)), (0, .ref (a 0)), (1, .int (nI fr))]) hx hcb dX4_block_211 rfl hl (by decide) rfl (fun ls hl => ?_)
  refine lp_X4_block_212 a fr th day kp tw wk k1 k2 o1 o2 ns row w hh nw_ g g2 v3 hfr hi hg hi2 hg2 hi3 hv3 C (fun i4 v4 H locs ls hi4 hv4 hj64 hP hD hS hl => ?_) ((64 - 0) + 1) 0 v3 _ _ _ (Nat.lt_succ_self _) (Nat.zero_le _) hv3 hP hD hS (lv_sub hl [0, 1, 2] rfl)
  subst hj64
  refine lv_iconst (v := nI 0) hx hcb dX4_block_415 (by decide) ?_
  refine lv_istore_n (lv' := [(2, .int (nI 0)), (0, .ref (a 0)), (1, .int (nI fr))]) hx hcb dX4_block_416 rfl hl (by decide) rfl (fun ls hl => ?_)
  refine lp_X4_block_417 a fr th day kp tw wk k1 k2 o1 o2 ns row w hh nw_ g g2 v3 v4 hfr hi hg hi2 hg2 hi3 hv3 hi4 hv4 C (fun i6 h6 H locs ls hi6 hh6 hi8b hP hD hS hl => ?_) ((8 - 0) + 1) 0 hh _ _ _ (Nat.lt_succ_self _) (Nat.zero_le _) (fun j hj => by rw [if_neg (by omega)]) hP hD hS (lv_sub hl [0, 1, 2] rfl)
  subst hi8b
  have he : ∀ k, k < 8 → h6 k = hh k + rds hh (wA row fr 64) 64 k := fun k hk => by rw [hh6 k hk, if_pos hk, hv4 k hk]
  have hP9 := hP.sub (ws' := [(a 0, .inr (4, mO a th day kp tw wk k1 k2 o1 o2 ns)), (a 1, .inl (t 1, 64, .inl k_cu)), (a 3, .inl (t 0, 448, .inl row)), (a 4, .inl (t 1, 64, .inl g2)), (a 5, .inl (t 1, 8, .inl h6)), (a 6, .inl (t 1, 8, .inl v4))]) [0, 1, 2, 3, 4, 5] rfl
  have hD9 := hD.sub (ws' := [(a 0, .inr (4, mO a th day kp tw wk k1 k2 o1 o2 ns)), (a 1, .inl (t 1, 64, .inl k_cu)), (a 3, .inl (t 0, 448, .inl row)), (a 4, .inl (t 1, 64, .inl g2)), (a 5, .inl (t 1, 8, .inl h6)), (a 6, .inl (t 1, 8, .inl v4))]) [0, 1, 2, 3, 4, 5] (by decide) rfl
  exact ret (g2, h6, v4) _ _ _ _ rfl dX4_block_444 (fun k hk => he k hk) hP9 hD9 hS
end
set_option maxHeartbeats 1000000 in
set_option maxRecDepth 100000 in
/-- block(at) -/
theorem c_X4_block (l : Launch) (D : va_G) (t : Nat → ClassId) (x : Nat → Nat) (a : Nat → Nat) (fr : Nat) (th : Int32) (day : Int32) (kp : Int64) (tw : Int64) (wk : Int32) (k1 : Int64) (k2 : Int64) (o1 : Int64) (o2 : Int64) (ns : Int32) (row : Nat → Int32) (w : Nat → Int32) (hh : Nat → Int32) (nw_ : Nat → Int32) (hfr : fr + 64 ≤ 448) : Ct l D t x yX4_block wsX4_block r_X4_block [.ref (a 0), .int (nI fr)] [(a 0, .inr (4, mO a th day kp tw wk k1 k2 o1 o2 ns)), (a 1, .inl (t 1, 64, .inl k_cu)), (a 3, .inl (t 0, 448, .inl row)), (a 4, .inl (t 1, 64, .inl w)), (a 5, .inl (t 1, 8, .inl hh)), (a 6, .inl (t 1, 8, .inl nw_))] ((Nat → Int32) × (Nat → Int32) × (Nat → Int32)) (fun (u : (Nat → Int32) × (Nat → Int32) × (Nat → Int32)) => ∀ k, k < 8 → u.2.1 k = hh k + rds hh (wA row fr 64) 64 k) (fun (u : (Nat → Int32) × (Nat → Int32) × (Nat → Int32)) => none) (fun (u : (Nat → Int32) × (Nat → Int32) × (Nat → Int32)) => [(a 0, .inr (4, mO a th day kp tw wk k1 k2 o1 o2 ns)), (a 1, .inl (t 1, 64, .inl k_cu)), (a 3, .inl (t 0, 448, .inl row)), (a 4, .inl (t 1, 64, .inl u.1)), (a 5, .inl (t 1, 8, .inl u.2.1)), (a 6, .inl (t 1, 8, .inl u.2.2))]) 0 0 := ct_ofV (by decide) rfl (Nat.le_of_ble_eq_true rfl) rfl (fun p e s m below meth c A ls Q C ret hi9 hl hP hD hS => b_X4_block a fr th day kp tw wk k1 k2 o1 o2 ns row w hh nw_ hfr C ret hl hP hD hS)
def r_X4_hash : Room := { frames := 2, cells := 0, slots := 0, locals := 48 }
section
variable {p : Program} {l : Launch} {e : Env} {s : State} {m : MethodId} {args : Array Value} {below : List Frame} {meth : Method} {c : Code} {Q : State → Prop} {D : va_G} {t : Nat → ClassId} {x : Nat → Nat} {A : Nat → Prop}
set_option maxHeartbeats 1000000 in
set_option maxRecDepth 100000 in
theorem lp_X4_hash_13 (a : Nat → Nat) (n : Nat) (th : Int32) (day : Int32) (kp : Int64) (tw : Int64) (wk : Int32) (k1 : Int64) (k2 : Int64) (o1 : Int64) (o2 : Int64) (ns : Int32) (row : Nat → Int32) (w : Nat → Int32) (hh : Nat → Int32) (nw_ : Nat → Int32) (hs : Nat → Int32) (hn : n ≤ 375) (hp1 : n + 9 ≤ pe n ∧ pe n ≤ 448 ∧ pe n % 64 = 0) (C : Cx p s m args c cX4_hash 4 RX4 D t x A) (kx0 : ∀ (i1 : Nat) (g1 : Nat → Int32) (H : Heap) (locs : List Loc) (ls : Array Slot), (n ≤ i1 ∧ i1 ≤ pe n) → (g1 = zf row n i1) → (pe n = i1) → va_P D vwCl [(a 0, .inr (4, mO a th day kp tw wk k1 k2 o1 o2 ns)), (a 1, .inl (t 1, 64, .inl k_cu)), (a 2, .inl (t 1, 8, .inl k_sq)), (a 3, .inl (t 0, 448, .inl g1)), (a 4, .inl (t 1, 64, .inl w)), (a 5, .inl (t 1, 8, .inl hh)), (a 6, .inl (t 1, 8, .inl nw_)), (a 7, .inl (t 0, 32, .inl hs))] H → va_D A [(a 0, .inr (4, mO a th day kp tw wk k1 k2 o1 o2 ns)), (a 1, .inl (t 1, 64, .inl k_cu)), (a 2, .inl (t 1, 8, .inl k_sq)), (a 3, .inl (t 0, 448, .inl g1)), (a 4, .inl (t 1, 64, .inl w)), (a 5, .inl (t 1, 8, .inl hh)), (a 6, .inl (t 1, 8, .inl nw_)), (a 7, .inl (t 0, 32, .inl hs))] → va_S A s.heap H locs → lv_has ls 4 [(3, .int (nI i1)), (2, .int (nI (pe n))), (0, .ref (a 0)), (1, .int (nI n))] → W p l e r_X4_hash s m args below meth c H locs 0 0 Q (F0 m 31 ls [])) : ∀ (fu : Nat) (i1 : Nat) (g1 : Nat → Int32) (H : Heap) (locs : List Loc) (ls : Array Slot), pe n - i1 < fu → (n ≤ i1 ∧ i1 ≤ pe n) → (g1 = zf row n i1) → va_P D vwCl [(a 0, .inr (4, mO a th day kp tw wk k1 k2 o1 o2 ns)), (a 1, .inl (t 1, 64, .inl k_cu)), (a 2, .inl (t 1, 8, .inl k_sq)), (a 3, .inl (t 0, 448, .inl g1)), (a 4, .inl (t 1, 64, .inl w)), (a 5, .inl (t 1, 8, .inl hh)), (a 6, .inl (t 1, 8, .inl nw_)), (a 7, .inl (t 0, 32, .inl hs))] H → va_D A [(a 0, .inr (4, mO a th day kp tw wk k1 k2 o1 o2 ns)), (a 1, .inl (t 1, 64, .inl k_cu)), (a 2, .inl (t 1, 8, .inl k_sq)), (a 3, .inl (t 0, 448, .inl g1)), (a 4, .inl (t 1, 64, .inl w)), (a 5, .inl (t 1, 8, .inl hh)), (a 6, .inl (t 1, 8, .inl nw_)), (a 7, .inl (t 0, 32, .inl hs))] → va_S A s.heap H locs → lv_has ls 4 [(3, .int (nI i1)), (2, .int (nI (pe n))), (0, .ref (a 0)), (1, .int (nI n))] → W p l e r_X4_hash s m args below meth c H locs 0 0 Q (F0 m 13 ls []) := by
  obtain ⟨hx, hcb, hml, hown, hts, hK, hA, hX, hN⟩ := id C
  intro fu
  induction fu with
  | zero =>
    intro i1 g1 H locs ls hz
    exact absurd hz (Nat.not_lt_zero _)
  | succ fu ih =>
    intro i1 g1 H locs ls hz hi1 hg1 hP hD hS hl
    refine lv_iload_n hx hcb dX4_hash_13 rfl (lv_at hl 0 rfl) ?_
    refine lv_iload_n hx hcb dX4_hash_14 rfl (lv_at hl 1 rfl) ?_
    refine q_ge (x := i1) (y := (pe n)) (tgt := 31) hx hcb (by omega) (by omega) dX4_hash_15 (by decide) (fun c_1 => ?_) (fun c_1 => ?_)
    · exact kx0 i1 g1 _ _ _ hi1 hg1 (by omega) hP hD hS (lv_sub hl [0, 1, 2, 3] rfl)
    · refine lv_aload_n hx hcb dX4_hash_18 rfl (lv_at hl 2 rfl) ?_
      refine va_get (D := D) (ci := 4) (v := .ref (a 3)) (C := RX4) (T := TX4) (N := 45) hx hcb hts inX4 hown hK hP 0 rfl rfl 3 (by decide) (hts _ wf_X4_16) (fun _ h9 => h9) rfl dX4_hash_19 ?_
      refine lv_iload_n hx hcb dX4_hash_22 rfl (lv_at hl 0 rfl) ?_
      refine lv_iconst (v := nI 0) hx hcb dX4_hash_23 (by decide) ?_
      refine q_bast (j := i1) (v := nI 0) hx hcb hK hP hD hS 3 0 rfl rfl (by decide) (by omega) (by decide) dX4_hash_24 (fun H locs hP hD hS => ?_)
      have hP : va_P D vwCl [(a 0, .inr (4, mO a th day kp tw wk k1 k2 o1 o2 ns)), (a 1, .inl (t 1, 64, .inl k_cu)), (a 2, .inl (t 1, 8, .inl k_sq)), (a 3, .inl (t 0, 448, .inl (upd g1 i1 (nI 0)))), (a 4, .inl (t 1, 64, .inl w)), (a 5, .inl (t 1, 8, .inl hh)), (a 6, .inl (t 1, 8, .inl nw_)), (a 7, .inl (t 0, 32, .inl hs))] H := hP
      have hD : va_D A [(a 0, .inr (4, mO a th day kp tw wk k1 k2 o1 o2 ns)), (a 1, .inl (t 1, 64, .inl k_cu)), (a 2, .inl (t 1, 8, .inl k_sq)), (a 3, .inl (t 0, 448, .inl (upd g1 i1 (nI 0)))), (a 4, .inl (t 1, 64, .inl w)), (a 5, .inl (t 1, 8, .inl hh)), (a 6, .inl (t 1, 8, .inl nw_)), (a 7, .inl (t 0, 32, .inl hs))] := hD
      refine lv_iinc (v := nI (i1 + 1)) (lv' := [(3, .int (nI (i1 + 1))), (2, .int (nI (pe n))), (0, .ref (a 0)), (1, .int (nI n))]) hx hcb dX4_hash_25 hl (k := 0) rfl (q_inc i1 1 rfl) (by decide) rfl (fun ls hl => ?_)
      refine lv_goto (tgt := 13) hx hcb dX4_hash_28 (by decide) ?_
      exact ih (i1 + 1) (upd g1 i1 (nI 0)) _ _ _ (by omega) (by omega) (zf_s (by omega) hg1) hP hD hS (lv_sub hl [0, 1, 2, 3] rfl)
set_option maxHeartbeats 1000000 in
set_option maxRecDepth 100000 in
theorem lp_X4_hash_41 (a : Nat → Nat) (n : Nat) (th : Int32) (day : Int32) (kp : Int64) (tw : Int64) (wk : Int32) (k1 : Int64) (k2 : Int64) (o1 : Int64) (o2 : Int64) (ns : Int32) (row : Nat → Int32) (w : Nat → Int32) (hh : Nat → Int32) (nw_ : Nat → Int32) (hs : Nat → Int32) (hn : n ≤ 375) (hp1 : n + 9 ≤ pe n ∧ pe n ≤ 448 ∧ pe n % 64 = 0) (hi1 : n ≤ (pe n) ∧ (pe n) ≤ pe n) (C : Cx p s m args c cX4_hash 4 RX4 D t x A) (kx0 : ∀ (i2 : Nat) (g2 : Nat → Int32) (H : Heap) (locs : List Loc) (ls : Array Slot), (i2 ≤ 4) → (g2 = rpf row n i2) → (4 = i2) → va_P D vwCl [(a 0, .inr (4, mO a th day kp tw wk k1 k2 o1 o2 ns)), (a 1, .inl (t 1, 64, .inl k_cu)), (a 2, .inl (t 1, 8, .inl k_sq)), (a 3, .inl (t 0, 448, .inl g2)), (a 4, .inl (t 1, 64, .inl w)), (a 5, .inl (t 1, 8, .inl hh)), (a 6, .inl (t 1, 8, .inl nw_)), (a 7, .inl (t 0, 32, .inl hs))] H → va_D A [(a 0, .inr (4, mO a th day kp tw wk k1 k2 o1 o2 ns)), (a 1, .inl (t 1, 64, .inl k_cu)), (a 2, .inl (t 1, 8, .inl k_sq)), (a 3, .inl (t 0, 448, .inl g2)), (a 4, .inl (t 1, 64, .inl w)), (a 5, .inl (t 1, 8, .inl hh)), (a 6, .inl (t 1, 8, .inl nw_)), (a 7, .inl (t 0, 32, .inl hs))] → va_S A s.heap H locs → lv_has ls 4 [(3, .int (nI i2)), (2, .int (nI (pe n))), (0, .ref (a 0)), (1, .int (nI n))] → W p l e r_X4_hash s m args below meth c H locs 0 0 Q (F0 m 72 ls [])) : ∀ (fu : Nat) (i2 : Nat) (g2 : Nat → Int32) (H : Heap) (locs : List Loc) (ls : Array Slot), 4 - i2 < fu → (i2 ≤ 4) → (g2 = rpf row n i2) → va_P D vwCl [(a 0, .inr (4, mO a th day kp tw wk k1 k2 o1 o2 ns)), (a 1, .inl (t 1, 64, .inl k_cu)), (a 2, .inl (t 1, 8, .inl k_sq)), (a 3, .inl (t 0, 448, .inl g2)), (a 4, .inl (t 1, 64, .inl w)), (a 5, .inl (t 1, 8, .inl hh)), (a 6, .inl (t 1, 8, .inl nw_)), (a 7, .inl (t 0, 32, .inl hs))] H → va_D A [(a 0, .inr (4, mO a th day kp tw wk k1 k2 o1 o2 ns)), (a 1, .inl (t 1, 64, .inl k_cu)), (a 2, .inl (t 1, 8, .inl k_sq)), (a 3, .inl (t 0, 448, .inl g2)), (a 4, .inl (t 1, 64, .inl w)), (a 5, .inl (t 1, 8, .inl hh)), (a 6, .inl (t 1, 8, .inl nw_)), (a 7, .inl (t 0, 32, .inl hs))] → va_S A s.heap H locs → lv_has ls 4 [(3, .int (nI i2)), (2, .int (nI (pe n))), (0, .ref (a 0)), (1, .int (nI n))] → W p l e r_X4_hash s m args below meth c H locs 0 0 Q (F0 m 41 ls []) := by
  obtain ⟨hx, hcb, hml, hown, hts, hK, hA, hX, hN⟩ := id C
  intro fu
  induction fu with
  | zero =>
    intro i2 g2 H locs ls hz
    exact absurd hz (Nat.not_lt_zero _)
  | succ fu ih =>
    intro i2 g2 H locs ls hz hi2 hg2 hP hD hS hl
    refine lv_iload_n hx hcb dX4_hash_41 rfl (lv_at hl 0 rfl) ?_
    refine lv_iconst (v := nI 4) hx hcb dX4_hash_42 (by decide) ?_
    refine q_ge (x := i2) (y := 4) (tgt := 72) hx hcb (by omega) (by omega) dX4_hash_43 (by decide) (fun c_2 => ?_) (fun c_2 => ?_)
    · exact kx0 i2 g2 _ _ _ hi2 hg2 (by omega) hP hD hS (lv_sub hl [0, 1, 2, 3] rfl)
    · refine lv_aload_n hx hcb dX4_hash_46 rfl (lv_at hl 2 rfl) ?_
      refine va_get (D := D) (ci := 4) (v := .ref (a 3)) (C := RX4) (T := TX4) (N := 45) hx hcb hts inX4 hown hK hP 0 rfl rfl 3 (by decide) (hts _ wf_X4_16) (fun _ h9 => h9) rfl dX4_hash_47 ?_
      refine lv_iload_n hx hcb dX4_hash_50 rfl (lv_at hl 1 rfl) ?_
      refine lv_iconst (v := nI 1) hx hcb dX4_hash_51 (by decide) ?_
      refine q_isub (x := (pe n)) (y := 1) hx hcb (by omega) dX4_hash_52 ?_
      refine lv_iload_n hx hcb dX4_hash_53 rfl (lv_at hl 0 rfl) ?_
      refine q_isub (x := ((pe n) - 1)) (y := i2) hx hcb (by omega) dX4_hash_54 ?_
      refine lv_bipush (v := nI 8) hx hcb dX4_hash_55 (by decide) ?_
      refine lv_iload_n hx hcb dX4_hash_57 rfl (lv_at hl 3 rfl) ?_
      refine q_imul (x := 8) (y := n) hx hcb dX4_hash_58 ?_
      refine lv_bipush (v := nI 8) hx hcb dX4_hash_59 (by decide) ?_
      refine lv_iload_n hx hcb dX4_hash_61 rfl (lv_at hl 0 rfl) ?_
      refine q_imul (x := 8) (y := i2) hx hcb dX4_hash_62 ?_
      refine lv_ishr hx hcb dX4_hash_63 ?_
      refine lv_i2b (v := bx ((nI (8 * n)) >>> ((nI (8 * i2)) &&& 31))) hx hcb dX4_hash_64 rfl ?_
      refine q_bast (j := ((pe n) - 1) - i2) (v := bx ((nI (8 * n)) >>> ((nI (8 * i2)) &&& 31))) hx hcb hK hP hD hS 3 0 rfl rfl (bx_bx _) (by omega) (by decide) dX4_hash_65 (fun H locs hP hD hS => ?_)
      have hP : va_P D vwCl [(a 0, .inr (4, mO a th day kp tw wk k1 k2 o1 o2 ns)), (a 1, .inl (t 1, 64, .inl k_cu)), (a 2, .inl (t 1, 8, .inl k_sq)), (a 3, .inl (t 0, 448, .inl (upd g2 (((pe n) - 1) - i2) (bx ((nI (8 * n)) >>> ((nI (8 * i2)) &&& 31)))))), (a 4, .inl (t 1, 64, .inl w)), (a 5, .inl (t 1, 8, .inl hh)), (a 6, .inl (t 1, 8, .inl nw_)), (a 7, .inl (t 0, 32, .inl hs))] H := hP
      have hD : va_D A [(a 0, .inr (4, mO a th day kp tw wk k1 k2 o1 o2 ns)), (a 1, .inl (t 1, 64, .inl k_cu)), (a 2, .inl (t 1, 8, .inl k_sq)), (a 3, .inl (t 0, 448, .inl (upd g2 (((pe n) - 1) - i2) (bx ((nI (8 * n)) >>> ((nI (8 * i2)) &&& 31)))))), (a 4, .inl (t 1, 64, .inl w)), (a 5, .inl (t 1, 8, .inl hh)), (a 6, .inl (t 1, 8, .inl nw_)), (a 7, .inl (t 0, 32, .inl hs))] := hD
      refine lv_iinc (v := nI (i2 + 1)) (lv' := [(3, .int (nI (i2 + 1))), (2, .int (nI (pe n))), (0, .ref (a 0)), (1, .int (nI n))]) hx hcb dX4_hash_66 hl (k := 0) rfl (q_inc i2 1 rfl) (by decide) rfl (fun ls hl => ?_)
      refine lv_goto (tgt := 41) hx hcb dX4_hash_69 (by decide) ?_
      exact ih (i2 + 1) (upd g2 (((pe n) - 1) - i2) (bx ((nI (8 * n)) >>> ((nI (8 * i2)) &&& 31)))) _ _ _ (by omega) (by omega) (rpf_s (by omega) hg2 (by rw [nb_sI _ (k := i2) rfl (by omega), nI_l64 (by omega)])) hP hD hS (lv_sub hl [0, 1, 2, 3] rfl)
set_option maxHeartbeats 1000000 in
set_option maxRecDepth 100000 in
theorem lp_X4_hash_74 (a : Nat → Nat) (n : Nat) (th : Int32) (day : Int32) (kp : Int64) (tw : Int64) (wk : Int32) (k1 : Int64) (k2 : Int64) (o1 : Int64) (o2 : Int64) (ns : Int32) (row : Nat → Int32) (w : Nat → Int32) (hh : Nat → Int32) (nw_ : Nat → Int32) (hs : Nat → Int32) (R : Nat → Int32) (hn : n ≤ 375) (hp1 : n + 9 ≤ pe n ∧ pe n ≤ 448 ∧ pe n % 64 = 0) (hi1 : n ≤ (pe n) ∧ (pe n) ≤ pe n) (hi2 : 4 ≤ 4) (hR : ∀ j, j < pe n → R j = pad row n j) (C : Cx p s m args c cX4_hash 4 RX4 D t x A) (kx0 : ∀ (i3 : Nat) (s3 : Nat → Int32) (H : Heap) (locs : List Loc) (ls : Array Slot), (i3 ≤ 8) → (∀ j, j < i3 → s3 j = k_sq j) → (8 = i3) → va_P D vwCl [(a 0, .inr (4, mO a th day kp tw wk k1 k2 o1 o2 ns)), (a 1, .inl (t 1, 64, .inl k_cu)), (a 2, .inl (t 1, 8, .inl k_sq)), (a 3, .inl (t 0, 448, .inl R)), (a 4, .inl (t 1, 64, .inl w)), (a 5, .inl (t 1, 8, .inl s3)), (a 6, .inl (t 1, 8, .inl nw_)), (a 7, .inl (t 0, 32, .inl hs))] H → va_D A [(a 0, .inr (4, mO a th day kp tw wk k1 k2 o1 o2 ns)), (a 1, .inl (t 1, 64, .inl k_cu)), (a 2, .inl (t 1, 8, .inl k_sq)), (a 3, .inl (t 0, 448, .inl R)), (a 4, .inl (t 1, 64, .inl w)), (a 5, .inl (t 1, 8, .inl s3)), (a 6, .inl (t 1, 8, .inl nw_)), (a 7, .inl (t 0, 32, .inl hs))] → va_S A s.heap H locs → lv_has ls 4 [(3, .int (nI i3)), (2, .int (nI (pe n))), (0, .ref (a 0)), (1, .int (nI n))] → W p l e r_X4_hash s m args below meth c H locs 0 0 Q (F0 m 98 ls [])) : ∀ (fu : Nat) (i3 : Nat) (s3 : Nat → Int32) (H : Heap) (locs : List Loc) (ls : Array Slot), 8 - i3 < fu → (i3 ≤ 8) → (∀ j, j < i3 → s3 j = k_sq j) → va_P D vwCl [(a 0, .inr (4, mO a th day kp tw wk k1 k2 o1 o2 ns)), (a 1, .inl (t 1, 64, .inl k_cu)), (a 2, .inl (t 1, 8, .inl k_sq)), (a 3, .inl (t 0, 448, .inl R)), (a 4, .inl (t 1, 64, .inl w)), (a 5, .inl (t 1, 8, .inl s3)), (a 6, .inl (t 1, 8, .inl nw_)), (a 7, .inl (t 0, 32, .inl hs))] H → va_D A [(a 0, .inr (4, mO a th day kp tw wk k1 k2 o1 o2 ns)), (a 1, .inl (t 1, 64, .inl k_cu)), (a 2, .inl (t 1, 8, .inl k_sq)), (a 3, .inl (t 0, 448, .inl R)), (a 4, .inl (t 1, 64, .inl w)), (a 5, .inl (t 1, 8, .inl s3)), (a 6, .inl (t 1, 8, .inl nw_)), (a 7, .inl (t 0, 32, .inl hs))] → va_S A s.heap H locs → lv_has ls 4 [(3, .int (nI i3)), (2, .int (nI (pe n))), (0, .ref (a 0)), (1, .int (nI n))] → W p l e r_X4_hash s m args below meth c H locs 0 0 Q (F0 m 74 ls []) := by
  obtain ⟨hx, hcb, hml, hown, hts, hK, hA, hX, hN⟩ := id C
  intro fu
  induction fu with
  | zero =>
    intro i3 s3 H locs ls hz
    exact absurd hz (Nat.not_lt_zero _)
  | succ fu ih =>
    intro i3 s3 H locs ls hz hi3 hv3 hP hD hS hl
    refine lv_iload_n hx hcb dX4_hash_74 rfl (lv_at hl 0 rfl) ?_
    refine lv_bipush (v := nI 8) hx hcb dX4_hash_75 (by decide) ?_
    refine q_ge (x := i3) (y := 8) (tgt := 98) hx hcb (by omega) (by omega) dX4_hash_77 (by decide) (fun c_3 => ?_) (fun c_3 => ?_)
    · exact kx0 i3 s3 _ _ _ hi3 hv3 (by omega) hP hD hS (lv_sub hl [0, 1, 2, 3] rfl)
    · refine lv_aload_n hx hcb dX4_hash_80 rfl (lv_at hl 2 rfl) ?_
      refine va_get (D := D) (ci := 4) (v := .ref (a 5)) (C := RX4) (T := TX4) (N := 45) hx hcb hts inX4 hown hK hP 0 rfl rfl 5 (by decide) (hts _ wf_X4_23) (fun _ h9 => h9) rfl dX4_hash_81 ?_
      refine lv_iload_n hx hcb dX4_hash_84 rfl (lv_at hl 0 rfl) ?_
      refine lv_aload_n hx hcb dX4_hash_85 rfl (lv_at hl 2 rfl) ?_
      refine va_get (D := D) (ci := 4) (v := .ref (a 2)) (C := RX4) (T := TX4) (N := 45) hx hcb hts inX4 hown hK hP 0 rfl rfl 2 (by decide) (hts _ wf_X4_13) (fun _ h9 => h9) rfl dX4_hash_86 ?_
      refine lv_iload_n hx hcb dX4_hash_89 rfl (lv_at hl 0 rfl) ?_
      refine q_iald (j := i3) hx hcb hK hP 2 1 rfl rfl (by omega) (by decide) dX4_hash_90 ?_
      refine q_iast (j := i3) (v := k_sq i3) hx hcb hK hP hD hS 5 1 rfl rfl (by omega) (by decide) dX4_hash_91 (fun H locs hP hD hS => ?_)
      have hP : va_P D vwCl [(a 0, .inr (4, mO a th day kp tw wk k1 k2 o1 o2 ns)), (a 1, .inl (t 1, 64, .inl k_cu)), (a 2, .inl (t 1, 8, .inl k_sq)), (a 3, .inl (t 0, 448, .inl R)), (a 4, .inl (t 1, 64, .inl w)), (a 5, .inl (t 1, 8, .inl (upd s3 i3 (k_sq i3)))), (a 6, .inl (t 1, 8, .inl nw_)), (a 7, .inl (t 0, 32, .inl hs))] H := hP
      have hD : va_D A [(a 0, .inr (4, mO a th day kp tw wk k1 k2 o1 o2 ns)), (a 1, .inl (t 1, 64, .inl k_cu)), (a 2, .inl (t 1, 8, .inl k_sq)), (a 3, .inl (t 0, 448, .inl R)), (a 4, .inl (t 1, 64, .inl w)), (a 5, .inl (t 1, 8, .inl (upd s3 i3 (k_sq i3)))), (a 6, .inl (t 1, 8, .inl nw_)), (a 7, .inl (t 0, 32, .inl hs))] := hD
      refine lv_iinc (v := nI (i3 + 1)) (lv' := [(3, .int (nI (i3 + 1))), (2, .int (nI (pe n))), (0, .ref (a 0)), (1, .int (nI n))]) hx hcb dX4_hash_92 hl (k := 0) rfl (q_inc i3 1 rfl) (by decide) rfl (fun ls hl => ?_)
      refine lv_goto (tgt := 74) hx hcb dX4_hash_95 (by decide) ?_
      exact ih (i3 + 1) (upd s3 i3 (k_sq i3)) _ _ _ (by omega) (by omega) (upd_s hv3 rfl) hP hD hS (lv_sub hl [0, 1, 2, 3] rfl)
set_option maxHeartbeats 1000000 in
set_option maxRecDepth 100000 in
theorem lp_X4_hash_100 (a : Nat → Nat) (n : Nat) (th : Int32) (day : Int32) (kp : Int64) (tw : Int64) (wk : Int32) (k1 : Int64) (k2 : Int64) (o1 : Int64) (o2 : Int64) (ns : Int32) (row : Nat → Int32) (w : Nat → Int32) (hh : Nat → Int32) (nw_ : Nat → Int32) (hs : Nat → Int32) (R : Nat → Int32) (s3 : Nat → Int32) (hn : n ≤ 375) (hp1 : n + 9 ≤ pe n ∧ pe n ≤ 448 ∧ pe n % 64 = 0) (hi1 : n ≤ (pe n) ∧ (pe n) ≤ pe n) (hi2 : 4 ≤ 4) (hR : ∀ j, j < pe n → R j = pad row n j) (hi3 : 8 ≤ 8) (hv3 : ∀ j, j < 8 → s3 j = k_sq j) (C : Cx p s m args c cX4_hash 4 RX4 D t x A) (kx0 : ∀ (b : Nat) (w4_ : Nat → Int32) (s4 : Nat → Int32) (n4 : Nat → Int32) (H : Heap) (locs : List Loc) (ls : Array Slot), (64 * b ≤ pe n) → (∀ k, k < 8 → s4 k = hsh R b k) → (pe n / 64 = b) → va_P D vwCl [(a 0, .inr (4, mO a th day kp tw wk k1 k2 o1 o2 ns)), (a 1, .inl (t 1, 64, .inl k_cu)), (a 2, .inl (t 1, 8, .inl k_sq)), (a 3, .inl (t 0, 448, .inl R)), (a 4, .inl (t 1, 64, .inl w4_)), (a 5, .inl (t 1, 8, .inl s4)), (a 6, .inl (t 1, 8, .inl n4)), (a 7, .inl (t 0, 32, .inl hs))] H → va_D A [(a 0, .inr (4, mO a th day kp tw wk k1 k2 o1 o2 ns)), (a 1, .inl (t 1, 64, .inl k_cu)), (a 2, .inl (t 1, 8, .inl k_sq)), (a 3, .inl (t 0, 448, .inl R)), (a 4, .inl (t 1, 64, .inl w4_)), (a 5, .inl (t 1, 8, .inl s4)), (a 6, .inl (t 1, 8, .inl n4)), (a 7, .inl (t 0, 32, .inl hs))] → va_S A s.heap H locs → lv_has ls 4 [(3, .int (nI (64 * b))), (2, .int (nI (pe n))), (0, .ref (a 0)), (1, .int (nI n))] → W p l e r_X4_hash s m args below meth c H locs 0 0 Q (F0 m 116 ls [])) : ∀ (fu : Nat) (b : Nat) (w4_ : Nat → Int32) (s4 : Nat → Int32) (n4 : Nat → Int32) (H : Heap) (locs : List Loc) (ls : Array Slot), pe n - 64 * b < fu → (64 * b ≤ pe n) → (∀ k, k < 8 → s4 k = hsh R b k) → va_P D vwCl [(a 0, .inr (4, mO a th day kp tw wk k1 k2 o1 o2 ns)), (a 1, .inl (t 1, 64, .inl k_cu)), (a 2, .inl (t 1, 8, .inl k_sq)), (a 3, .inl (t 0, 448, .inl R)), (a 4, .inl (t 1, 64, .inl w4_)), (a 5, .inl (t 1, 8, .inl s4)), (a 6, .inl (t 1, 8, .inl n4)), (a 7, .inl (t 0, 32, .inl hs))] H → va_D A [(a 0, .inr (4, mO a th day kp tw wk k1 k2 o1 o2 ns)), (a 1, .inl (t 1, 64, .inl k_cu)), (a 2, .inl (t 1, 8, .inl k_sq)), (a 3, .inl (t 0, 448, .inl R)), (a 4, .inl (t 1, 64, .inl w4_)), (a 5, .inl (t 1, 8, .inl s4)), (a 6, .inl (t 1, 8, .inl n4)), (a 7, .inl (t 0, 32, .inl hs))] → va_S A s.heap H locs → lv_has ls 4 [(3, .int (nI (64 * b))), (2, .int (nI (pe n))), (0, .ref (a 0)), (1, .int (nI n))] → W p l e r_X4_hash s m args below meth c H locs 0 0 Q (F0 m 100 ls []) := by
  obtain ⟨hx, hcb, hml, hown, hts, hK, hA, hX, hN⟩ := id C
  intro fu
  induction fu with
  | zero =>
    intro b w4_ s4 n4 H locs ls hz
    exact absurd hz (Nat.not_lt_zero _)
  | succ fu ih =>
    intro b w4_ s4 n4 H locs ls hz hbb hs4 hP hD hS hl
    refine lv_iload_n hx hcb dX4_hash_100 rfl (lv_at hl 0 rfl) ?_
    refine lv_iload_n hx hcb dX4_hash_101 rfl (lv_at hl 1 rfl) ?_
    refine q_ge (x := (64 * b)) (y := (pe n)) (tgt := 116) hx hcb (by omega) (by omega) dX4_hash_102 (by decide) (fun c_4 => ?_) (fun c_4 => ?_)
    · exact kx0 b w4_ s4 n4 _ _ _ hbb hs4 (by omega) hP hD hS (lv_sub hl [0, 1, 2, 3] rfl)
    · refine lv_aload_n hx hcb dX4_hash_105 rfl (lv_at hl 2 rfl) ?_
      refine lv_iload_n hx hcb dX4_hash_106 rfl (lv_at hl 0 rfl) ?_
      refine ct_callV (As := [.int (nI (64 * b))]) (rest := []) (wr := [(a 2, .inl (t 1, 8, .inl k_sq)), (a 7, .inl (t 0, 32, .inl hs))]) C (c_X4_block l D t x a (64 * b) th day kp tw wk k1 k2 o1 o2 ns R w4_ s4 n4 (by omega)) (cwV 1 hts (gt_app (by simpa using ⟨wm_X4_205, wi_yX4_block, wv_X4_block, wz_X4⟩) (gt_code wc_X4_block)) rfl rfl rfl (by decide +kernel) ⟨Nat.le_of_ble_eq_true rfl, Nat.le_of_ble_eq_true rfl⟩) rfl rfl (q0 := 0) rfl hP hD hS [0, 1, 3, 4, 5, 6] [2, 7] rfl (by decide) rfl (by decide) (by decide) rfl hl.1 rfl (Nat.le_of_ble_eq_true rfl) dX4_hash_107 ⟨Nat.le_of_ble_eq_true rfl, Nat.le_of_ble_eq_true rfl⟩ (fun u H locs hwb hP hD hS => ?_)
      obtain ⟨r_5, r_6, r_7⟩ := u
      have hwb : ∀ k, k < 8 → r_6 k = s4 k + rds s4 (wA R (64 * b) 64) 64 k := hwb
      have hP : va_P D vwCl [(a 2, .inl (t 1, 8, .inl k_sq)), (a 7, .inl (t 0, 32, .inl hs)), (a 0, .inr (4, mO a th day kp tw wk k1 k2 o1 o2 ns)), (a 1, .inl (t 1, 64, .inl k_cu)), (a 3, .inl (t 0, 448, .inl R)), (a 4, .inl (t 1, 64, .inl r_5)), (a 5, .inl (t 1, 8, .inl r_6)), (a 6, .inl (t 1, 8, .inl r_7))] H := hP
      have hD : va_D A [(a 2, .inl (t 1, 8, .inl k_sq)), (a 7, .inl (t 0, 32, .inl hs)), (a 0, .inr (4, mO a th day kp tw wk k1 k2 o1 o2 ns)), (a 1, .inl (t 1, 64, .inl k_cu)), (a 3, .inl (t 0, 448, .inl R)), (a 4, .inl (t 1, 64, .inl r_5)), (a 5, .inl (t 1, 8, .inl r_6)), (a 6, .inl (t 1, 8, .inl r_7))] := hD
      refine W.eq (g2 := F0 m 110 ls []) rfl ?_
      refine lv_iinc (v := nI (64 * b + 64)) (lv' := [(3, .int (nI (64 * b + 64))), (2, .int (nI (pe n))), (0, .ref (a 0)), (1, .int (nI n))]) hx hcb dX4_hash_110 hl (k := 0) rfl (q_inc (64 * b) 64 rfl) (by decide) rfl (fun ls hl => ?_)
      refine lv_goto (tgt := 100) hx hcb dX4_hash_113 (by decide) ?_
      have hP9 := hP.sub (ws' := [(a 0, .inr (4, mO a th day kp tw wk k1 k2 o1 o2 ns)), (a 1, .inl (t 1, 64, .inl k_cu)), (a 2, .inl (t 1, 8, .inl k_sq)), (a 3, .inl (t 0, 448, .inl R)), (a 4, .inl (t 1, 64, .inl r_5)), (a 5, .inl (t 1, 8, .inl r_6)), (a 6, .inl (t 1, 8, .inl r_7)), (a 7, .inl (t 0, 32, .inl hs))]) [2, 3, 0, 4, 5, 6, 7, 1] rfl
      have hD9 := hD.sub (ws' := [(a 0, .inr (4, mO a th day kp tw wk k1 k2 o1 o2 ns)), (a 1, .inl (t 1, 64, .inl k_cu)), (a 2, .inl (t 1, 8, .inl k_sq)), (a 3, .inl (t 0, 448, .inl R)), (a 4, .inl (t 1, 64, .inl r_5)), (a 5, .inl (t 1, 8, .inl r_6)), (a 6, .inl (t 1, 8, .inl r_7)), (a 7, .inl (t 0, 32, .inl hs))]) [2, 3, 0, 4, 5, 6, 7, 1] (by decide) rfl
      exact ih (b + 1) r_5 r_6 r_7 _ _ _ (by omega) (by omega) (blk_s hs4 hwb) hP9 hD9 hS (lv_sub hl [0, 1, 2, 3] rfl)
set_option maxHeartbeats 1000000 in
set_option maxRecDepth 100000 in
theorem lp_X4_hash_118 (a : Nat → Nat) (n : Nat) (th : Int32) (day : Int32) (kp : Int64) (tw : Int64) (wk : Int32) (k1 : Int64) (k2 : Int64) (o1 : Int64) (o2 : Int64) (ns : Int32) (row : Nat → Int32) (w : Nat → Int32) (hh : Nat → Int32) (nw_ : Nat → Int32) (hs : Nat → Int32) (R : Nat → Int32) (s3 : Nat → Int32) (w4_ : Nat → Int32) (s4 : Nat → Int32) (n4 : Nat → Int32) (hn : n ≤ 375) (hp1 : n + 9 ≤ pe n ∧ pe n ≤ 448 ∧ pe n % 64 = 0) (hi1 : n ≤ (pe n) ∧ (pe n) ≤ pe n) (hi2 : 4 ≤ 4) (hR : ∀ j, j < pe n → R j = pad row n j) (hi3 : 8 ≤ 8) (hv3 : ∀ j, j < 8 → s3 j = k_sq j) (hbb : 64 * (pe n / 64) ≤ pe n) (hs4 : ∀ k, k < 8 → s4 k = hsh R (pe n / 64) k) (hs3 : ∀ k, k < 8 → s4 k = hsh (pad row n) (pe n / 64) k) (C : Cx p s m args c cX4_hash 4 RX4 D t x A) (kx0 : ∀ (i5 : Nat) (g5 : Nat → Int32) (H : Heap) (locs : List Loc) (ls : Array Slot), (i5 ≤ 32) → (g5 = hbp hs 0 row n i5) → (32 = i5) → va_P D vwCl [(a 0, .inr (4, mO a th day kp tw wk k1 k2 o1 o2 ns)), (a 1, .inl (t 1, 64, .inl k_cu)), (a 2, .inl (t 1, 8, .inl k_sq)), (a 3, .inl (t 0, 448, .inl R)), (a 4, .inl (t 1, 64, .inl w4_)), (a 5, .inl (t 1, 8, .inl s4)), (a 6, .inl (t 1, 8, .inl n4)), (a 7, .inl (t 0, 32, .inl g5))] H → va_D A [(a 0, .inr (4, mO a th day kp tw wk k1 k2 o1 o2 ns)), (a 1, .inl (t 1, 64, .inl k_cu)), (a 2, .inl (t 1, 8, .inl k_sq)), (a 3, .inl (t 0, 448, .inl R)), (a 4, .inl (t 1, 64, .inl w4_)), (a 5, .inl (t 1, 8, .inl s4)), (a 6, .inl (t 1, 8, .inl n4)), (a 7, .inl (t 0, 32, .inl g5))] → va_S A s.heap H locs → lv_has ls 4 [(3, .int (nI i5)), (2, .int (nI (pe n))), (0, .ref (a 0)), (1, .int (nI n))] → W p l e r_X4_hash s m args below meth c H locs 0 0 Q (F0 m 155 ls [])) : ∀ (fu : Nat) (i5 : Nat) (g5 : Nat → Int32) (H : Heap) (locs : List Loc) (ls : Array Slot), 32 - i5 < fu → (i5 ≤ 32) → (g5 = hbp hs 0 row n i5) → va_P D vwCl [(a 0, .inr (4, mO a th day kp tw wk k1 k2 o1 o2 ns)), (a 1, .inl (t 1, 64, .inl k_cu)), (a 2, .inl (t 1, 8, .inl k_sq)), (a 3, .inl (t 0, 448, .inl R)), (a 4, .inl (t 1, 64, .inl w4_)), (a 5, .inl (t 1, 8, .inl s4)), (a 6, .inl (t 1, 8, .inl n4)), (a 7, .inl (t 0, 32, .inl g5))] H → va_D A [(a 0, .inr (4, mO a th day kp tw wk k1 k2 o1 o2 ns)), (a 1, .inl (t 1, 64, .inl k_cu)), (a 2, .inl (t 1, 8, .inl k_sq)), (a 3, .inl (t 0, 448, .inl R)), (a 4, .inl (t 1, 64, .inl w4_)), (a 5, .inl (t 1, 8, .inl s4)), (a 6, .inl (t 1, 8, .inl n4)), (a 7, .inl (t 0, 32, .inl g5))] → va_S A s.heap H locs → lv_has ls 4 [(3, .int (nI i5)), (2, .int (nI (pe n))), (0, .ref (a 0)), (1, .int (nI n))] → W p l e r_X4_hash s m args below meth c H locs 0 0 Q (F0 m 118 ls []) := by
  obtain ⟨hx, hcb, hml, hown, hts, hK, hA, hX, hN⟩ := id C
  intro fu
  induction fu with
  | zero =>
    intro i5 g5 H locs ls hz
    exact absurd hz (Nat.not_lt_zero _)
  | succ fu ih =>
    intro i5 g5 H locs ls hz hi5 hg5 hP hD hS hl
    refine lv_iload_n hx hcb dX4_hash_118 rfl (lv_at hl 0 rfl) ?_
    refine lv_bipush (v := nI 32) hx hcb dX4_hash_119 (by decide) ?_
    refine q_ge (x := i5) (y := 32) (tgt := 155) hx hcb (by omega) (by omega) dX4_hash_121 (by decide) (fun c_8 => ?_) (fun c_8 => ?_)
    · exact kx0 i5 g5 _ _ _ hi5 hg5 (by omega) hP hD hS (lv_sub hl [0, 1, 2, 3] rfl)
    · refine lv_aload_n hx hcb dX4_hash_124 rfl (lv_at hl 2 rfl) ?_
      refine va_get (D := D) (ci := 4) (v := .ref (a 7)) (C := RX4) (T := TX4) (N := 45) hx hcb hts inX4 hown hK hP 0 rfl rfl 7 (by decide) (hts _ wf_X4_29) (fun _ h9 => h9) rfl dX4_hash_125 ?_
      refine lv_iload_n hx hcb dX4_hash_128 rfl (lv_at hl 0 rfl) ?_
      refine lv_aload_n hx hcb dX4_hash_129 rfl (lv_at hl 2 rfl) ?_
      refine va_get (D := D) (ci := 4) (v := .ref (a 5)) (C := RX4) (T := TX4) (N := 45) hx hcb hts inX4 hown hK hP 0 rfl rfl 5 (by decide) (hts _ wf_X4_23) (fun _ h9 => h9) rfl dX4_hash_130 ?_
      refine lv_iload_n hx hcb dX4_hash_133 rfl (lv_at hl 0 rfl) ?_
      refine lv_iconst (v := nI 4) hx hcb dX4_hash_134 (by decide) ?_
      refine q_idiv (x := i5) (y := 4) hx hcb (by omega) (by omega) (by omega) dX4_hash_135 ?_
      refine q_iald (j := i5 / 4) hx hcb hK hP 5 1 rfl rfl (by omega) (by decide) dX4_hash_136 ?_
      refine lv_bipush (v := nI 24) hx hcb dX4_hash_137 (by decide) ?_
      refine lv_bipush (v := nI 8) hx hcb dX4_hash_139 (by decide) ?_
      refine lv_iload_n hx hcb dX4_hash_141 rfl (lv_at hl 0 rfl) ?_
      refine lv_iconst (v := nI 4) hx hcb dX4_hash_142 (by decide) ?_
      refine q_irem (x := i5) (y := 4) hx hcb (by omega) (by omega) (by omega) dX4_hash_143 ?_
      refine q_imul (x := 8) (y := (i5 % 4)) hx hcb dX4_hash_144 ?_
      refine q_isub (x := 24) (y := (8 * (i5 % 4))) hx hcb (by omega) dX4_hash_145 ?_
      refine lv_ishr hx hcb dX4_hash_146 ?_
      refine lv_i2b (v := bx ((s4 (i5 / 4)) >>> ((nI (24 - (8 * (i5 % 4)))) &&& 31))) hx hcb dX4_hash_147 rfl ?_
      refine q_bast (j := i5) (v := bx ((s4 (i5 / 4)) >>> ((nI (24 - (8 * (i5 % 4)))) &&& 31))) hx hcb hK hP hD hS 7 0 rfl rfl (bx_bx _) (by omega) (by decide) dX4_hash_148 (fun H locs hP hD hS => ?_)
      have hP : va_P D vwCl [(a 0, .inr (4, mO a th day kp tw wk k1 k2 o1 o2 ns)), (a 1, .inl (t 1, 64, .inl k_cu)), (a 2, .inl (t 1, 8, .inl k_sq)), (a 3, .inl (t 0, 448, .inl R)), (a 4, .inl (t 1, 64, .inl w4_)), (a 5, .inl (t 1, 8, .inl s4)), (a 6, .inl (t 1, 8, .inl n4)), (a 7, .inl (t 0, 32, .inl (upd g5 i5 (bx ((s4 (i5 / 4)) >>> ((nI (24 - (8 * (i5 % 4)))) &&& 31))))))] H := hP
      have hD : va_D A [(a 0, .inr (4, mO a th day kp tw wk k1 k2 o1 o2 ns)), (a 1, .inl (t 1, 64, .inl k_cu)), (a 2, .inl (t 1, 8, .inl k_sq)), (a 3, .inl (t 0, 448, .inl R)), (a 4, .inl (t 1, 64, .inl w4_)), (a 5, .inl (t 1, 8, .inl s4)), (a 6, .inl (t 1, 8, .inl n4)), (a 7, .inl (t 0, 32, .inl (upd g5 i5 (bx ((s4 (i5 / 4)) >>> ((nI (24 - (8 * (i5 % 4)))) &&& 31))))))] := hD
      refine lv_iinc (v := nI (i5 + 1)) (lv' := [(3, .int (nI (i5 + 1))), (2, .int (nI (pe n))), (0, .ref (a 0)), (1, .int (nI n))]) hx hcb dX4_hash_149 hl (k := 0) rfl (q_inc i5 1 rfl) (by decide) rfl (fun ls hl => ?_)
      refine lv_goto (tgt := 118) hx hcb dX4_hash_152 (by decide) ?_
      exact ih (i5 + 1) (upd g5 i5 (bx ((s4 (i5 / 4)) >>> ((nI (24 - (8 * (i5 % 4)))) &&& 31)))) _ _ _ (by omega) (by omega) (by rw [us_sI _ (by omega)]; have e5 := hbp_s (a := 0) hg5 (v := bx (us (s4 (i5 / 4)) (nI (24 - 8 * (i5 % 4))))) (by rw [hs3 (i5 / 4) (by omega)]; rfl); rwa [Nat.zero_add] at e5) hP hD hS (lv_sub hl [0, 1, 2, 3] rfl)
set_option maxHeartbeats 1000000 in
set_option maxRecDepth 100000 in
theorem b_X4_hash (a : Nat → Nat) (n : Nat) (th : Int32) (day : Int32) (kp : Int64) (tw : Int64) (wk : Int32) (k1 : Int64) (k2 : Int64) (o1 : Int64) (o2 : Int64) (ns : Int32) (row : Nat → Int32) (w : Nat → Int32) (hh : Nat → Int32) (nw_ : Nat → Int32) (hs : Nat → Int32) (hn : n ≤ 375) {H : Heap} {locs : List Loc} {ls : Array Slot} (C : Cx p s m args c cX4_hash 4 RX4 D t x A) (ret : RtV p l e r_X4_hash s m args below meth c Q D A cX4_hash ((Nat → Int32) × (Nat → Int32) × (Nat → Int32) × (Nat → Int32)) (fun (u : (Nat → Int32) × (Nat → Int32) × (Nat → Int32) × (Nat → Int32)) => True) (fun (u : (Nat → Int32) × (Nat → Int32) × (Nat → Int32) × (Nat → Int32)) => none) (fun (u : (Nat → Int32) × (Nat → Int32) × (Nat → Int32) × (Nat → Int32)) => [(a 0, .inr (4, mO a th day kp tw wk k1 k2 o1 o2 ns)), (a 1, .inl (t 1, 64, .inl k_cu)), (a 2, .inl (t 1, 8, .inl k_sq)), (a 3, .inl (t 0, 448, .inl u.1)), (a 4, .inl (t 1, 64, .inl u.2.1)), (a 5, .inl (t 1, 8, .inl u.2.2.1)), (a 6, .inl (t 1, 8, .inl u.2.2.2)), (a 7, .inl (t 0, 32, .inl (hbp hs 0 row n 32)))]) 0 0) (hl : lv_has ls 4 [(0, .ref (a 0)), (1, .int (nI n))]) (hP : va_P D vwCl [(a 0, .inr (4, mO a th day kp tw wk k1 k2 o1 o2 ns)), (a 1, .inl (t 1, 64, .inl k_cu)), (a 2, .inl (t 1, 8, .inl k_sq)), (a 3, .inl (t 0, 448, .inl row)), (a 4, .inl (t 1, 64, .inl w)), (a 5, .inl (t 1, 8, .inl hh)), (a 6, .inl (t 1, 8, .inl nw_)), (a 7, .inl (t 0, 32, .inl hs))] H) (hD : va_D A [(a 0, .inr (4, mO a th day kp tw wk k1 k2 o1 o2 ns)), (a 1, .inl (t 1, 64, .inl k_cu)), (a 2, .inl (t 1, 8, .inl k_sq)), (a 3, .inl (t 0, 448, .inl row)), (a 4, .inl (t 1, 64, .inl w)), (a 5, .inl (t 1, 8, .inl hh)), (a 6, .inl (t 1, 8, .inl nw_)), (a 7, .inl (t 0, 32, .inl hs))]) (hS : va_S A s.heap H locs) : W p l e r_X4_hash s m args below meth c H locs 0 0 Q (F0 m 0 ls []) := by
  obtain ⟨hx, hcb, hml, hown, hts, hK, hA, hX, hN⟩ := id C
  refine lv_iload_n hx hcb dX4_hash_0 rfl (lv_at hl 1 rfl) ?_
  refine lv_bipush (v := nI 72) hx hcb dX4_hash_1 (by decide) ?_
  refine q_iadd (x := n) (y := 72) hx hcb dX4_hash_3 ?_
  refine lv_bipush (v := nI 64) hx hcb dX4_hash_4 (by decide) ?_
  refine q_idiv (x := (n + 72)) (y := 64) hx hcb (by omega) (by omega) (by omega) dX4_hash_6 ?_
  refine lv_bipush (v := nI 64) hx hcb dX4_hash_7 (by decide) ?_
  refine q_imul (x := ((n + 72) / 64)) (y := 64) hx hcb dX4_hash_9 ?_
  refine lv_istore_n (lv' := [(2, .int (nI (((n + 72) / 64) * 64))), (0, .ref (a 0)), (1, .int (nI n))]) hx hcb dX4_hash_10 rfl hl (by decide) rfl (fun ls hl => ?_)
  have hl : lv_has ls 4 [(2, .int (nI (pe n))), (0, .ref (a 0)), (1, .int (nI n))] := hl
  have hp1 : n + 9 ≤ pe n ∧ pe n ≤ 448 ∧ pe n % 64 = 0 := by unfold pe; omega
  refine lv_iload_n hx hcb dX4_hash_11 rfl (lv_at hl 2 rfl) ?_
  refine lv_istore_n (lv' := [(3, .int (nI n)), (2, .int (nI (pe n))), (0, .ref (a 0)), (1, .int (nI n))]) hx hcb dX4_hash_12 rfl hl (by decide) rfl (fun ls hl => ?_)
  refine lp_X4_hash_13 a n th day kp tw wk k1 k2 o1 o2 ns row w hh nw_ hs hn hp1 C (fun i1 g1 H locs ls hi1 hg1 he1 hP hD hS hl => ?_) ((pe n - n) + 1) n row _ _ _ (Nat.lt_succ_self _) (by omega) (zf_0 _ _) hP hD hS (lv_sub hl [0, 1, 2, 3] rfl)
  subst he1
  subst hg1
  refine lv_aload_n hx hcb dX4_hash_31 rfl (lv_at hl 2 rfl) ?_
  refine va_get (D := D) (ci := 4) (v := .ref (a 3)) (C := RX4) (T := TX4) (N := 45) hx hcb hts inX4 hown hK hP 0 rfl rfl 3 (by decide) (hts _ wf_X4_16) (fun _ h9 => h9) rfl dX4_hash_32 ?_
  refine lv_iload_n hx hcb dX4_hash_35 rfl (lv_at hl 3 rfl) ?_
  refine lv_bipush (v := (-128)) hx hcb dX4_hash_36 (by decide) ?_
  refine q_bast (j := n) (v := (-128)) hx hcb hK hP hD hS 3 0 rfl rfl (by decide) (by omega) (by decide) dX4_hash_38 (fun H locs hP hD hS => ?_)
  have hP : va_P D vwCl [(a 0, .inr (4, mO a th day kp tw wk k1 k2 o1 o2 ns)), (a 1, .inl (t 1, 64, .inl k_cu)), (a 2, .inl (t 1, 8, .inl k_sq)), (a 3, .inl (t 0, 448, .inl (upd (zf row n (pe n)) n (-128)))), (a 4, .inl (t 1, 64, .inl w)), (a 5, .inl (t 1, 8, .inl hh)), (a 6, .inl (t 1, 8, .inl nw_)), (a 7, .inl (t 0, 32, .inl hs))] H := hP
  have hD : va_D A [(a 0, .inr (4, mO a th day kp tw wk k1 k2 o1 o2 ns)), (a 1, .inl (t 1, 64, .inl k_cu)), (a 2, .inl (t 1, 8, .inl k_sq)), (a 3, .inl (t 0, 448, .inl (upd (zf row n (pe n)) n (-128)))), (a 4, .inl (t 1, 64, .inl w)), (a 5, .inl (t 1, 8, .inl hh)), (a 6, .inl (t 1, 8, .inl nw_)), (a 7, .inl (t 0, 32, .inl hs))] := hD
  refine lv_iconst (v := nI 0) hx hcb dX4_hash_39 (by decide) ?_
  refine lv_istore_n (lv' := [(3, .int (nI 0)), (2, .int (nI (pe n))), (0, .ref (a 0)), (1, .int (nI n))]) hx hcb dX4_hash_40 rfl hl (by decide) rfl (fun ls hl => ?_)
  refine lp_X4_hash_41 a n th day kp tw wk k1 k2 o1 o2 ns row w hh nw_ hs hn hp1 hi1 C (fun i2 g2 H locs ls hi2 hg2 he2 hP hD hS hl => ?_) ((4 - 0) + 1) 0 (upd (zf row n (pe n)) n (-128)) _ _ _ (Nat.lt_succ_self _) (Nat.zero_le _) (rpf_0 _ _) hP hD hS (lv_sub hl [0, 1, 2, 3] rfl)
  subst he2
  subst hg2
  have hR : ∀ j, j < pe n → rpf row n 4 j = pad row n j := pad_ref (by omega)
  generalize rpf row n 4 = R at hP hD hR
  refine lv_iconst (v := nI 0) hx hcb dX4_hash_72 (by decide) ?_
  refine lv_istore_n (lv' := [(3, .int (nI 0)), (2, .int (nI (pe n))), (0, .ref (a 0)), (1, .int (nI n))]) hx hcb dX4_hash_73 rfl hl (by decide) rfl (fun ls hl => ?_)
  refine lp_X4_hash_74 a n th day kp tw wk k1 k2 o1 o2 ns row w hh nw_ hs R hn hp1 hi1 hi2 hR C (fun i3 s3 H locs ls hi3 hv3 hi8 hP hD hS hl => ?_) ((8 - 0) + 1) 0 hh _ _ _ (Nat.lt_succ_self _) (Nat.zero_le _) (fun j hj => absurd hj (Nat.not_lt_zero _)) hP hD hS (lv_sub hl [0, 1, 2, 3] rfl)
  subst hi8
  refine lv_iconst (v := nI 0) hx hcb dX4_hash_98 (by decide) ?_
  refine lv_istore_n (lv' := [(3, .int (nI 0)), (2, .int (nI (pe n))), (0, .ref (a 0)), (1, .int (nI n))]) hx hcb dX4_hash_99 rfl hl (by decide) rfl (fun ls hl => ?_)
  refine lp_X4_hash_100 a n th day kp tw wk k1 k2 o1 o2 ns row w hh nw_ hs R s3 hn hp1 hi1 hi2 hR hi3 hv3 C (fun b w4_ s4 n4 H locs ls hbb hs4 hbe hP hD hS hl => ?_) ((pe n - 64 * 0) + 1) 0 w s3 nw_ _ _ _ (Nat.lt_succ_self _) (Nat.zero_le _) hv3 hP hD hS (lv_sub hl [0, 1, 2, 3] rfl)
  subst hbe
  have hs3 : ∀ k, k < 8 → s4 k = hsh (pad row n) (pe n / 64) k := fun k hk => by rw [hs4 k hk, hsh_congr (pe n / 64) (fun j hj => hR j (by omega))]
  refine lv_iconst (v := nI 0) hx hcb dX4_hash_116 (by decide) ?_
  refine lv_istore_n (lv' := [(3, .int (nI 0)), (2, .int (nI (pe n))), (0, .ref (a 0)), (1, .int (nI n))]) hx hcb dX4_hash_117 rfl hl (by decide) rfl (fun ls hl => ?_)
  refine lp_X4_hash_118 a n th day kp tw wk k1 k2 o1 o2 ns row w hh nw_ hs R s3 w4_ s4 n4 hn hp1 hi1 hi2 hR hi3 hv3 hbb hs4 hs3 C (fun i5 g5 H locs ls hi5 hg5 he5 hP hD hS hl => ?_) ((32 - 0) + 1) 0 hs _ _ _ (Nat.lt_succ_self _) (Nat.zero_le _) (hbp_0 _ _ _ _) hP hD hS (lv_sub hl [0, 1, 2, 3] rfl)
  subst he5
  subst hg5
  have hP9 := hP.sub (ws' := [(a 0, .inr (4, mO a th day kp tw wk k1 k2 o1 o2 ns)), (a 1, .inl (t 1, 64, .inl k_cu)), (a 2, .inl (t 1, 8, .inl k_sq)), (a 3, .inl (t 0, 448, .inl R)), (a 4, .inl (t 1, 64, .inl w4_)), (a 5, .inl (t 1, 8, .inl s4)), (a 6, .inl (t 1, 8, .inl n4)), (a 7, .inl (t 0, 32, .inl (hbp hs 0 row n 32)))]) [0, 1, 2, 3, 4, 5, 6, 7] rfl
  have hD9 := hD.sub (ws' := [(a 0, .inr (4, mO a th day kp tw wk k1 k2 o1 o2 ns)), (a 1, .inl (t 1, 64, .inl k_cu)), (a 2, .inl (t 1, 8, .inl k_sq)), (a 3, .inl (t 0, 448, .inl R)), (a 4, .inl (t 1, 64, .inl w4_)), (a 5, .inl (t 1, 8, .inl s4)), (a 6, .inl (t 1, 8, .inl n4)), (a 7, .inl (t 0, 32, .inl (hbp hs 0 row n 32)))]) [0, 1, 2, 3, 4, 5, 6, 7] (by decide) rfl
  exact ret (R, w4_, s4, n4) _ _ _ _ rfl dX4_hash_155 trivial hP9 hD9 hS
end
set_option maxHeartbeats 1000000 in
set_option maxRecDepth 100000 in
/-- hash(n) -/
theorem c_X4_hash (l : Launch) (D : va_G) (t : Nat → ClassId) (x : Nat → Nat) (a : Nat → Nat) (n : Nat) (th : Int32) (day : Int32) (kp : Int64) (tw : Int64) (wk : Int32) (k1 : Int64) (k2 : Int64) (o1 : Int64) (o2 : Int64) (ns : Int32) (row : Nat → Int32) (w : Nat → Int32) (hh : Nat → Int32) (nw_ : Nat → Int32) (hs : Nat → Int32) (hn : n ≤ 375) : Ct l D t x yX4_hash wsX4_hash r_X4_hash [.ref (a 0), .int (nI n)] [(a 0, .inr (4, mO a th day kp tw wk k1 k2 o1 o2 ns)), (a 1, .inl (t 1, 64, .inl k_cu)), (a 2, .inl (t 1, 8, .inl k_sq)), (a 3, .inl (t 0, 448, .inl row)), (a 4, .inl (t 1, 64, .inl w)), (a 5, .inl (t 1, 8, .inl hh)), (a 6, .inl (t 1, 8, .inl nw_)), (a 7, .inl (t 0, 32, .inl hs))] ((Nat → Int32) × (Nat → Int32) × (Nat → Int32) × (Nat → Int32)) (fun (u : (Nat → Int32) × (Nat → Int32) × (Nat → Int32) × (Nat → Int32)) => True) (fun (u : (Nat → Int32) × (Nat → Int32) × (Nat → Int32) × (Nat → Int32)) => none) (fun (u : (Nat → Int32) × (Nat → Int32) × (Nat → Int32) × (Nat → Int32)) => [(a 0, .inr (4, mO a th day kp tw wk k1 k2 o1 o2 ns)), (a 1, .inl (t 1, 64, .inl k_cu)), (a 2, .inl (t 1, 8, .inl k_sq)), (a 3, .inl (t 0, 448, .inl u.1)), (a 4, .inl (t 1, 64, .inl u.2.1)), (a 5, .inl (t 1, 8, .inl u.2.2.1)), (a 6, .inl (t 1, 8, .inl u.2.2.2)), (a 7, .inl (t 0, 32, .inl (hbp hs 0 row n 32)))]) 0 0 := ct_ofV (by decide) rfl (Nat.le_of_ble_eq_true rfl) rfl (fun p e s m below meth c A ls Q C ret hi9 hl hP hD hS => b_X4_hash a n th day kp tw wk k1 k2 o1 o2 ns row w hh nw_ hs hn C ret hl hP hD hS)
