def r_X0_cut : Room := { frames := 3, cells := 0, slots := 0, locals := 77 }
section
variable {p : Program} {l : Launch} {e : Env} {s : State} {m : MethodId} {args : Array Value} {below : List Frame} {meth : Method} {c : Code} {Q : State → Prop} {D : va_G} {t : Nat → ClassId} {x : Nat → Nat} {A : Nat → Prop}
set_option maxHeartbeats 1000000 in
set_option maxRecDepth 100000 in
theorem b_X0_cut (h : Nat → Nat) (fa : Nat) (at_ : Nat) (to_ : Nat) (fn : Nat) (len : Int32) (row : Nat → Int32) (wds : Nat → Int32) (sm : Nat → Int32) (f : Nat → Int32) (hf : fb f) (hat : at_ + 20 ≤ fn) (hto : to_ + 20 ≤ fn) (hfn : fn < 2 ^ 31) {H : Heap} {locs : List Loc} {ls : Array Slot} (C : Cx p s m args c cX0_cut 5 RX0 D t x A) (ret : RtV p l e r_X0_cut s m args below meth c Q D A cX0_cut ((Nat → Int32) × (Nat → Int32) × (Nat → Int32)) (fun (u : (Nat → Int32) × (Nat → Int32) × (Nat → Int32)) => True) (fun (u : (Nat → Int32) × (Nat → Int32) × (Nat → Int32)) => none) (fun (u : (Nat → Int32) × (Nat → Int32) × (Nat → Int32)) => [(h 0, .inr (0, hO h (nI 20))), (h 3, .inl (t 0, 256, .inl u.1)), (h 4, .inl (t 1, 64, .inl u.2.1)), (h 5, .inl (t 1, 8, .inl u.2.2)), (fa, .inl (t 0, fn, .inl (hbp f to_ (fun j => f (at_ + j)) 20 20)))]) 0 0) (hl : lv_has ls 5 [(0, .ref (h 0)), (1, .ref fa), (2, .int (nI at_)), (3, .ref fa), (4, .int (nI to_))]) (hP : va_P D vwCl [(h 0, .inr (0, hO h len)), (h 3, .inl (t 0, 256, .inl row)), (h 4, .inl (t 1, 64, .inl wds)), (h 5, .inl (t 1, 8, .inl sm)), (fa, .inl (t 0, fn, .inl f))] H) (hD : va_D A [(h 0, .inr (0, hO h len)), (h 3, .inl (t 0, 256, .inl row)), (h 4, .inl (t 1, 64, .inl wds)), (h 5, .inl (t 1, 8, .inl sm)), (fa, .inl (t 0, fn, .inl f))]) (hS : va_S A s.heap H locs) : W p l e r_X0_cut s m args below meth c H locs 0 0 Q (F0 m 0 ls []) := by
  obtain ⟨hx, hcb, hml, hown, hts, hK, hA, hX, hN⟩ := id C
  refine lv_aload_n hx hcb dX0_cut_0 rfl (lv_at hl 0 rfl) ?_
  refine ct_callV (As := []) (rest := []) (wr := [(h 3, .inl (t 0, 256, .inl row)), (h 4, .inl (t 1, 64, .inl wds)), (h 5, .inl (t 1, 8, .inl sm)), (fa, .inl (t 0, fn, .inl f))]) C (c_X0_begin l D t x h len ) (cwV 0 hts (gt_app (by simpa using ⟨wm_X0_31, wi_yX0_begin, wv_X0_begin, wz_X0⟩) (gt_code wc_X0_begin)) rfl rfl rfl (by decide +kernel) ⟨Nat.le_of_ble_eq_true rfl, Nat.le_of_ble_eq_true rfl⟩) rfl rfl (q0 := 0) rfl hP hD hS [0] [1, 2, 3, 4] rfl (by decide) rfl (by decide) (by decide) rfl hl.1 rfl (Nat.le_of_ble_eq_true rfl) dX0_cut_1 ⟨Nat.le_of_ble_eq_true rfl, Nat.le_of_ble_eq_true rfl⟩ (fun u H locs hw_1 hP hD hS => ?_)
  have hP : va_P D vwCl [(h 3, .inl (t 0, 256, .inl row)), (h 4, .inl (t 1, 64, .inl wds)), (h 5, .inl (t 1, 8, .inl sm)), (fa, .inl (t 0, fn, .inl f)), (h 0, .inr (0, hO h (nI 0)))] H := hP
  have hD : va_D A [(h 3, .inl (t 0, 256, .inl row)), (h 4, .inl (t 1, 64, .inl wds)), (h 5, .inl (t 1, 8, .inl sm)), (fa, .inl (t 0, fn, .inl f)), (h 0, .inr (0, hO h (nI 0)))] := hD
  refine W.eq (g2 := F0 m 4 ls []) rfl ?_
  refine lv_aload_n hx hcb dX0_cut_4 rfl (lv_at hl 0 rfl) ?_
  refine lv_aload_n hx hcb dX0_cut_5 rfl (lv_at hl 1 rfl) ?_
  refine lv_iload_n hx hcb dX0_cut_6 rfl (lv_at hl 2 rfl) ?_
  refine lv_bipush (v := nI 20) hx hcb dX0_cut_7 (by decide) ?_
  refine ct_callV (As := [.ref fa, .int (nI at_), .int (nI 20)]) (rest := []) (wr := [(h 4, .inl (t 1, 64, .inl wds)), (h 5, .inl (t 1, 8, .inl sm))]) C (c_X0_addBytes l D t x h fa at_ 20 0 fn row f hf (by omega) (by omega) (by omega)) (cwV 3 hts (gt_app (by simpa using ⟨wm_X0_34, wi_yX0_addBytes, wv_X0_addBytes, wz_X0⟩) (gt_code wc_X0_addBytes)) rfl rfl rfl (by decide +kernel) ⟨Nat.le_of_ble_eq_true rfl, Nat.le_of_ble_eq_true rfl⟩) rfl rfl (q0 := 4) rfl hP hD hS [4, 0, 3] [1, 2] rfl (by decide) rfl (by decide) (by decide) rfl hl.1 rfl (Nat.le_of_ble_eq_true rfl) dX0_cut_9 ⟨Nat.le_of_ble_eq_true rfl, Nat.le_of_ble_eq_true rfl⟩ (fun u H locs hw_2 hP hD hS => ?_)
  have hP : va_P D vwCl [(h 4, .inl (t 1, 64, .inl wds)), (h 5, .inl (t 1, 8, .inl sm)), (h 0, .inr (0, hO h (nI 20))), (h 3, .inl (t 0, 256, .inl (va_cpy f row at_ 0 20))), (fa, .inl (t 0, fn, .inl f))] H := hP
  have hD : va_D A [(h 4, .inl (t 1, 64, .inl wds)), (h 5, .inl (t 1, 8, .inl sm)), (h 0, .inr (0, hO h (nI 20))), (h 3, .inl (t 0, 256, .inl (va_cpy f row at_ 0 20))), (fa, .inl (t 0, fn, .inl f))] := hD
  refine W.eq (g2 := F0 m 12 ls []) rfl ?_
  refine lv_aload_n hx hcb dX0_cut_12 rfl (lv_at hl 0 rfl) ?_
  refine lv_aload_n hx hcb dX0_cut_13 rfl (lv_at hl 3 rfl) ?_
  refine lv_iload hx hcb dX0_cut_14 (lv_at hl 4 rfl) ?_
  refine lv_bipush (v := nI 20) hx hcb dX0_cut_16 (by decide) ?_
  refine ct_callV (As := [.ref fa, .int (nI to_), .int (nI 20)]) (rest := []) (wr := []) C (c_X0_finish l D t x h fa to_ 20 20 fn (va_cpy f row at_ 0 20) wds sm f (by omega) (by omega) (by omega) (by omega)) (cwV 3 hts (gt_app (by simpa using ⟨wm_X0_38, wi_yX0_finish, wv_X0_finish, wz_X0⟩) (gt_code wc_X0_finish)) rfl rfl rfl (by decide +kernel) ⟨Nat.le_of_ble_eq_true rfl, Nat.le_of_ble_eq_true rfl⟩) rfl rfl (q0 := 2) rfl hP hD hS [2, 3, 0, 1, 4] [] rfl (by decide) rfl (by decide) (by decide) rfl hl.1 rfl (Nat.le_of_ble_eq_true rfl) dX0_cut_18 ⟨Nat.le_of_ble_eq_true rfl, Nat.le_of_ble_eq_true rfl⟩ (fun u H locs hw_6 hP hD hS => ?_)
  obtain ⟨r_3, r_4, r_5⟩ := u
  have hP : va_P D vwCl [(h 0, .inr (0, hO h (nI 20))), (h 3, .inl (t 0, 256, .inl r_3)), (h 4, .inl (t 1, 64, .inl r_4)), (h 5, .inl (t 1, 8, .inl r_5)), (fa, .inl (t 0, fn, .inl (hbp f to_ (va_cpy f row at_ 0 20) 20 20)))] H := hP
  have hD : va_D A [(h 0, .inr (0, hO h (nI 20))), (h 3, .inl (t 0, 256, .inl r_3)), (h 4, .inl (t 1, 64, .inl r_4)), (h 5, .inl (t 1, 8, .inl r_5)), (fa, .inl (t 0, fn, .inl (hbp f to_ (va_cpy f row at_ 0 20) 20 20)))] := hD
  refine W.eq (g2 := F0 m 21 ls []) rfl ?_
  have hP9 := hP.sub (ws' := [(h 0, .inr (0, hO h (nI 20))), (h 3, .inl (t 0, 256, .inl r_3)), (h 4, .inl (t 1, 64, .inl r_4)), (h 5, .inl (t 1, 8, .inl r_5)), (fa, .inl (t 0, fn, .inl (hbp f to_ (va_cpy f row at_ 0 20) 20 20)))]) [0, 1, 2, 3, 4] rfl
  have hD9 := hD.sub (ws' := [(h 0, .inr (0, hO h (nI 20))), (h 3, .inl (t 0, 256, .inl r_3)), (h 4, .inl (t 1, 64, .inl r_4)), (h 5, .inl (t 1, 8, .inl r_5)), (fa, .inl (t 0, fn, .inl (hbp f to_ (va_cpy f row at_ 0 20) 20 20)))]) [0, 1, 2, 3, 4] (by decide) rfl
  rw [show hbp f to_ (va_cpy f row at_ 0 20) 20 20 = hbp f to_ (fun j => f (at_ + j)) 20 20 from hbp_congr cpy_in] at hP9 hD9
  exact ret (r_3, r_4, r_5) _ _ _ _ rfl dX0_cut_21 trivial hP9 hD9 hS
end
set_option maxHeartbeats 1000000 in
set_option maxRecDepth 100000 in
/-- cut(from, at, to, toAt), in one row -/
theorem c_X0_cut (l : Launch) (D : va_G) (t : Nat → ClassId) (x : Nat → Nat) (h : Nat → Nat) (fa : Nat) (at_ : Nat) (to_ : Nat) (fn : Nat) (len : Int32) (row : Nat → Int32) (wds : Nat → Int32) (sm : Nat → Int32) (f : Nat → Int32) (hf : fb f) (hat : at_ + 20 ≤ fn) (hto : to_ + 20 ≤ fn) (hfn : fn < 2 ^ 31) : Ct l D t x yX0_cut wsX0_cut r_X0_cut [.ref (h 0), .ref fa, .int (nI at_), .ref fa, .int (nI to_)] [(h 0, .inr (0, hO h len)), (h 3, .inl (t 0, 256, .inl row)), (h 4, .inl (t 1, 64, .inl wds)), (h 5, .inl (t 1, 8, .inl sm)), (fa, .inl (t 0, fn, .inl f))] ((Nat → Int32) × (Nat → Int32) × (Nat → Int32)) (fun (u : (Nat → Int32) × (Nat → Int32) × (Nat → Int32)) => True) (fun (u : (Nat → Int32) × (Nat → Int32) × (Nat → Int32)) => none) (fun (u : (Nat → Int32) × (Nat → Int32) × (Nat → Int32)) => [(h 0, .inr (0, hO h (nI 20))), (h 3, .inl (t 0, 256, .inl u.1)), (h 4, .inl (t 1, 64, .inl u.2.1)), (h 5, .inl (t 1, 8, .inl u.2.2)), (fa, .inl (t 0, fn, .inl (hbp f to_ (fun j => f (at_ + j)) 20 20)))]) 0 0 := ct_ofV (by decide) rfl (Nat.le_of_ble_eq_true rfl) rfl (fun p e s m below meth c A ls Q C ret hi9 hl hP hD hS => b_X0_cut h fa at_ to_ fn len row wds sm f hf hat hto hfn C ret hl hP hD hS)
def r_X0_cutToHead : Room := { frames := 3, cells := 0, slots := 0, locals := 77 }
section
variable {p : Program} {l : Launch} {e : Env} {s : State} {m : MethodId} {args : Array Value} {below : List Frame} {meth : Method} {c : Code} {Q : State → Prop} {D : va_G} {t : Nat → ClassId} {x : Nat → Nat} {A : Nat → Prop}
set_option maxHeartbeats 1000000 in
set_option maxRecDepth 100000 in
theorem b_X0_cutToHead (h : Nat → Nat) (fa : Nat) (ta : Nat) (at_ : Nat) (to_ : Nat) (fn : Nat) (tn : Nat) (mt : Int32) (len : Int32) (row : Nat → Int32) (wds : Nat → Int32) (sm : Nat → Int32) (f : Nat → Int32) (to : Nat → Int32) (hf : fb f) (hat : at_ + 20 ≤ fn) (hto : to_ + 20 ≤ tn) (hfn : fn < 2 ^ 31) (htn : tn < 2 ^ 31) {H : Heap} {locs : List Loc} {ls : Array Slot} (C : Cx p s m args c cX0_cutToHead 6 RX0 D t x A) (ret : RtV p l e r_X0_cutToHead s m args below meth c Q D A cX0_cutToHead ((Nat → Int32) × (Nat → Int32) × (Nat → Int32)) (fun (u : (Nat → Int32) × (Nat → Int32) × (Nat → Int32)) => True) (fun (u : (Nat → Int32) × (Nat → Int32) × (Nat → Int32)) => none) (fun (u : (Nat → Int32) × (Nat → Int32) × (Nat → Int32)) => [(h 0, .inr (0, hO h (nI 21))), (h 3, .inl (t 0, 256, .inl u.1)), (h 4, .inl (t 1, 64, .inl u.2.1)), (h 5, .inl (t 1, 8, .inl u.2.2)), (fa, .inl (t 0, fn, .inl f)), (ta, .inl (t 0, tn, .inl (hbp to to_ (hd (fun j => f (at_ + j)) mt) 21 20)))]) 0 0) (hl : lv_has ls 6 [(0, .ref (h 0)), (1, .ref fa), (2, .int (nI at_)), (3, .int mt), (4, .ref ta), (5, .int (nI to_))]) (hP : va_P D vwCl [(h 0, .inr (0, hO h len)), (h 3, .inl (t 0, 256, .inl row)), (h 4, .inl (t 1, 64, .inl wds)), (h 5, .inl (t 1, 8, .inl sm)), (fa, .inl (t 0, fn, .inl f)), (ta, .inl (t 0, tn, .inl to))] H) (hD : va_D A [(h 0, .inr (0, hO h len)), (h 3, .inl (t 0, 256, .inl row)), (h 4, .inl (t 1, 64, .inl wds)), (h 5, .inl (t 1, 8, .inl sm)), (fa, .inl (t 0, fn, .inl f)), (ta, .inl (t 0, tn, .inl to))]) (hS : va_S A s.heap H locs) : W p l e r_X0_cutToHead s m args below meth c H locs 0 0 Q (F0 m 0 ls []) := by
  obtain ⟨hx, hcb, hml, hown, hts, hK, hA, hX, hN⟩ := id C
  refine lv_aload_n hx hcb dX0_cutToHead_0 rfl (lv_at hl 0 rfl) ?_
  refine ct_callV (As := []) (rest := []) (wr := [(h 3, .inl (t 0, 256, .inl row)), (h 4, .inl (t 1, 64, .inl wds)), (h 5, .inl (t 1, 8, .inl sm)), (fa, .inl (t 0, fn, .inl f)), (ta, .inl (t 0, tn, .inl to))]) C (c_X0_begin l D t x h len ) (cwV 0 hts (gt_app (by simpa using ⟨wm_X0_31, wi_yX0_begin, wv_X0_begin, wz_X0⟩) (gt_code wc_X0_begin)) rfl rfl rfl (by decide +kernel) ⟨Nat.le_of_ble_eq_true rfl, Nat.le_of_ble_eq_true rfl⟩) rfl rfl (q0 := 0) rfl hP hD hS [0] [1, 2, 3, 4, 5] rfl (by decide) rfl (by decide) (by decide) rfl hl.1 rfl (Nat.le_of_ble_eq_true rfl) dX0_cutToHead_1 ⟨Nat.le_of_ble_eq_true rfl, Nat.le_of_ble_eq_true rfl⟩ (fun u H locs hw_1 hP hD hS => ?_)
  have hP : va_P D vwCl [(h 3, .inl (t 0, 256, .inl row)), (h 4, .inl (t 1, 64, .inl wds)), (h 5, .inl (t 1, 8, .inl sm)), (fa, .inl (t 0, fn, .inl f)), (ta, .inl (t 0, tn, .inl to)), (h 0, .inr (0, hO h (nI 0)))] H := hP
  have hD : va_D A [(h 3, .inl (t 0, 256, .inl row)), (h 4, .inl (t 1, 64, .inl wds)), (h 5, .inl (t 1, 8, .inl sm)), (fa, .inl (t 0, fn, .inl f)), (ta, .inl (t 0, tn, .inl to)), (h 0, .inr (0, hO h (nI 0)))] := hD
  refine W.eq (g2 := F0 m 4 ls []) rfl ?_
  refine lv_aload_n hx hcb dX0_cutToHead_4 rfl (lv_at hl 0 rfl) ?_
  refine lv_aload_n hx hcb dX0_cutToHead_5 rfl (lv_at hl 1 rfl) ?_
  refine lv_iload_n hx hcb dX0_cutToHead_6 rfl (lv_at hl 2 rfl) ?_
  refine lv_bipush (v := nI 20) hx hcb dX0_cutToHead_7 (by decide) ?_
  refine ct_callV (As := [.ref fa, .int (nI at_), .int (nI 20)]) (rest := []) (wr := [(h 4, .inl (t 1, 64, .inl wds)), (h 5, .inl (t 1, 8, .inl sm)), (ta, .inl (t 0, tn, .inl to))]) C (c_X0_addBytes l D t x h fa at_ 20 0 fn row f hf (by omega) (by omega) (by omega)) (cwV 3 hts (gt_app (by simpa using ⟨wm_X0_34, wi_yX0_addBytes, wv_X0_addBytes, wz_X0⟩) (gt_code wc_X0_addBytes)) rfl rfl rfl (by decide +kernel) ⟨Nat.le_of_ble_eq_true rfl, Nat.le_of_ble_eq_true rfl⟩) rfl rfl (q0 := 5) rfl hP hD hS [5, 0, 3] [1, 2, 4] rfl (by decide) rfl (by decide) (by decide) rfl hl.1 rfl (Nat.le_of_ble_eq_true rfl) dX0_cutToHead_9 ⟨Nat.le_of_ble_eq_true rfl, Nat.le_of_ble_eq_true rfl⟩ (fun u H locs hw_2 hP hD hS => ?_)
  have hP : va_P D vwCl [(h 4, .inl (t 1, 64, .inl wds)), (h 5, .inl (t 1, 8, .inl sm)), (ta, .inl (t 0, tn, .inl to)), (h 0, .inr (0, hO h (nI 20))), (h 3, .inl (t 0, 256, .inl (va_cpy f row at_ 0 20))), (fa, .inl (t 0, fn, .inl f))] H := hP
  have hD : va_D A [(h 4, .inl (t 1, 64, .inl wds)), (h 5, .inl (t 1, 8, .inl sm)), (ta, .inl (t 0, tn, .inl to)), (h 0, .inr (0, hO h (nI 20))), (h 3, .inl (t 0, 256, .inl (va_cpy f row at_ 0 20))), (fa, .inl (t 0, fn, .inl f))] := hD
  refine W.eq (g2 := F0 m 12 ls []) rfl ?_
  refine lv_aload_n hx hcb dX0_cutToHead_12 rfl (lv_at hl 0 rfl) ?_
  refine lv_iload_n hx hcb dX0_cutToHead_13 rfl (lv_at hl 3 rfl) ?_
  refine lv_i2l (v := mt.toInt64) hx hcb dX0_cutToHead_14 rfl ?_
  refine lv_iconst (v := nI 1) hx hcb dX0_cutToHead_15 (by decide) ?_
  refine ct_callV (As := [.long mt.toInt64, .int (nI 1)]) (rest := []) (wr := [(h 4, .inl (t 1, 64, .inl wds)), (h 5, .inl (t 1, 8, .inl sm)), (ta, .inl (t 0, tn, .inl to)), (fa, .inl (t 0, fn, .inl f))]) C (c_X0_addNumber l D t x h mt.toInt64 1 20 (va_cpy f row at_ 0 20) (by omega) (by omega)) (cwV 2 hts (gt_app (by simpa using ⟨wm_X0_41, wi_yX0_addNumber, wv_X0_addNumber, wz_X0⟩) (gt_code wc_X0_addNumber)) rfl rfl rfl (by decide +kernel) ⟨Nat.le_of_ble_eq_true rfl, Nat.le_of_ble_eq_true rfl⟩) rfl rfl (q0 := 3) rfl hP hD hS [3, 4] [0, 1, 2, 5] rfl (by decide) rfl (by decide) (by decide) rfl hl.1 rfl (Nat.le_of_ble_eq_true rfl) dX0_cutToHead_16 ⟨Nat.le_of_ble_eq_true rfl, Nat.le_of_ble_eq_true rfl⟩ (fun u H locs hw_3 hP hD hS => ?_)
  have hP : va_P D vwCl [(h 4, .inl (t 1, 64, .inl wds)), (h 5, .inl (t 1, 8, .inl sm)), (ta, .inl (t 0, tn, .inl to)), (fa, .inl (t 0, fn, .inl f)), (h 0, .inr (0, hO h (nI 21))), (h 3, .inl (t 0, 256, .inl (wnp (va_cpy f row at_ 0 20) 20 1 mt.toInt64 1)))] H := hP
  have hD : va_D A [(h 4, .inl (t 1, 64, .inl wds)), (h 5, .inl (t 1, 8, .inl sm)), (ta, .inl (t 0, tn, .inl to)), (fa, .inl (t 0, fn, .inl f)), (h 0, .inr (0, hO h (nI 21))), (h 3, .inl (t 0, 256, .inl (wnp (va_cpy f row at_ 0 20) 20 1 mt.toInt64 1)))] := hD
  refine W.eq (g2 := F0 m 19 ls []) rfl ?_
  refine lv_aload_n hx hcb dX0_cutToHead_19 rfl (lv_at hl 0 rfl) ?_
  refine lv_aload hx hcb dX0_cutToHead_20 (lv_at hl 4 rfl) ?_
  refine lv_iload hx hcb dX0_cutToHead_22 (lv_at hl 5 rfl) ?_
  refine lv_bipush (v := nI 20) hx hcb dX0_cutToHead_24 (by decide) ?_
  refine ct_callV (As := [.ref ta, .int (nI to_), .int (nI 20)]) (rest := []) (wr := [(fa, .inl (t 0, fn, .inl f))]) C (c_X0_finish l D t x h ta to_ 20 21 tn (wnp (va_cpy f row at_ 0 20) 20 1 mt.toInt64 1) wds sm to (by omega) (by omega) (by omega) (by omega)) (cwV 3 hts (gt_app (by simpa using ⟨wm_X0_38, wi_yX0_finish, wv_X0_finish, wz_X0⟩) (gt_code wc_X0_finish)) rfl rfl rfl (by decide +kernel) ⟨Nat.le_of_ble_eq_true rfl, Nat.le_of_ble_eq_true rfl⟩) rfl rfl (q0 := 4) rfl hP hD hS [4, 5, 0, 1, 2] [3] rfl (by decide) rfl (by decide) (by decide) rfl hl.1 rfl (Nat.le_of_ble_eq_true rfl) dX0_cutToHead_26 ⟨Nat.le_of_ble_eq_true rfl, Nat.le_of_ble_eq_true rfl⟩ (fun u H locs hw_7 hP hD hS => ?_)
  obtain ⟨r_4, r_5, r_6⟩ := u
  have hP : va_P D vwCl [(fa, .inl (t 0, fn, .inl f)), (h 0, .inr (0, hO h (nI 21))), (h 3, .inl (t 0, 256, .inl r_4)), (h 4, .inl (t 1, 64, .inl r_5)), (h 5, .inl (t 1, 8, .inl r_6)), (ta, .inl (t 0, tn, .inl (hbp to to_ (wnp (va_cpy f row at_ 0 20) 20 1 mt.toInt64 1) 21 20)))] H := hP
  have hD : va_D A [(fa, .inl (t 0, fn, .inl f)), (h 0, .inr (0, hO h (nI 21))), (h 3, .inl (t 0, 256, .inl r_4)), (h 4, .inl (t 1, 64, .inl r_5)), (h 5, .inl (t 1, 8, .inl r_6)), (ta, .inl (t 0, tn, .inl (hbp to to_ (wnp (va_cpy f row at_ 0 20) 20 1 mt.toInt64 1) 21 20)))] := hD
  refine W.eq (g2 := F0 m 29 ls []) rfl ?_
  have hP9 := hP.sub (ws' := [(h 0, .inr (0, hO h (nI 21))), (h 3, .inl (t 0, 256, .inl r_4)), (h 4, .inl (t 1, 64, .inl r_5)), (h 5, .inl (t 1, 8, .inl r_6)), (fa, .inl (t 0, fn, .inl f)), (ta, .inl (t 0, tn, .inl (hbp to to_ (wnp (va_cpy f row at_ 0 20) 20 1 mt.toInt64 1) 21 20)))]) [1, 2, 3, 4, 0, 5] rfl
  have hD9 := hD.sub (ws' := [(h 0, .inr (0, hO h (nI 21))), (h 3, .inl (t 0, 256, .inl r_4)), (h 4, .inl (t 1, 64, .inl r_5)), (h 5, .inl (t 1, 8, .inl r_6)), (fa, .inl (t 0, fn, .inl f)), (ta, .inl (t 0, tn, .inl (hbp to to_ (wnp (va_cpy f row at_ 0 20) 20 1 mt.toInt64 1) 21 20)))]) [1, 2, 3, 4, 0, 5] (by decide) rfl
  rw [show hbp to to_ (wnp (va_cpy f row at_ 0 20) 20 1 (mt.toInt64) 1) 21 20 = hbp to to_ (hd (fun j => f (at_ + j)) mt) 21 20 from hbp_congr hd_in] at hP9 hD9
  exact ret (r_4, r_5, r_6) _ _ _ _ rfl dX0_cutToHead_29 trivial hP9 hD9 hS
end
set_option maxHeartbeats 1000000 in
set_option maxRecDepth 100000 in
/-- cutToHead(from, at, meter, to, toAt) -/
theorem c_X0_cutToHead (l : Launch) (D : va_G) (t : Nat → ClassId) (x : Nat → Nat) (h : Nat → Nat) (fa : Nat) (ta : Nat) (at_ : Nat) (to_ : Nat) (fn : Nat) (tn : Nat) (mt : Int32) (len : Int32) (row : Nat → Int32) (wds : Nat → Int32) (sm : Nat → Int32) (f : Nat → Int32) (to : Nat → Int32) (hf : fb f) (hat : at_ + 20 ≤ fn) (hto : to_ + 20 ≤ tn) (hfn : fn < 2 ^ 31) (htn : tn < 2 ^ 31) : Ct l D t x yX0_cutToHead wsX0_cutToHead r_X0_cutToHead [.ref (h 0), .ref fa, .int (nI at_), .int mt, .ref ta, .int (nI to_)] [(h 0, .inr (0, hO h len)), (h 3, .inl (t 0, 256, .inl row)), (h 4, .inl (t 1, 64, .inl wds)), (h 5, .inl (t 1, 8, .inl sm)), (fa, .inl (t 0, fn, .inl f)), (ta, .inl (t 0, tn, .inl to))] ((Nat → Int32) × (Nat → Int32) × (Nat → Int32)) (fun (u : (Nat → Int32) × (Nat → Int32) × (Nat → Int32)) => True) (fun (u : (Nat → Int32) × (Nat → Int32) × (Nat → Int32)) => none) (fun (u : (Nat → Int32) × (Nat → Int32) × (Nat → Int32)) => [(h 0, .inr (0, hO h (nI 21))), (h 3, .inl (t 0, 256, .inl u.1)), (h 4, .inl (t 1, 64, .inl u.2.1)), (h 5, .inl (t 1, 8, .inl u.2.2)), (fa, .inl (t 0, fn, .inl f)), (ta, .inl (t 0, tn, .inl (hbp to to_ (hd (fun j => f (at_ + j)) mt) 21 20)))]) 0 0 := ct_ofV (by decide) rfl (Nat.le_of_ble_eq_true rfl) rfl (fun p e s m below meth c A ls Q C ret hi9 hl hP hD hS => b_X0_cutToHead h fa ta at_ to_ fn tn mt len row wds sm f to hf hat hto hfn htn C ret hl hP hD hS)
def r_X0_cutToHeadS : Room := { frames := 3, cells := 0, slots := 0, locals := 77 }
section
variable {p : Program} {l : Launch} {e : Env} {s : State} {m : MethodId} {args : Array Value} {below : List Frame} {meth : Method} {c : Code} {Q : State → Prop} {D : va_G} {t : Nat → ClassId} {x : Nat → Nat} {A : Nat → Prop}
set_option maxHeartbeats 1000000 in
set_option maxRecDepth 100000 in
theorem b_X0_cutToHeadS (h : Nat → Nat) (fa : Nat) (at_ : Nat) (to_ : Nat) (fn : Nat) (mt : Int32) (len : Int32) (row : Nat → Int32) (wds : Nat → Int32) (sm : Nat → Int32) (f : Nat → Int32) (hf : fb f) (hat : at_ + 20 ≤ fn) (hto : to_ + 20 ≤ fn) (hfn : fn < 2 ^ 31) {H : Heap} {locs : List Loc} {ls : Array Slot} (C : Cx p s m args c cX0_cutToHead 6 RX0 D t x A) (ret : RtV p l e r_X0_cutToHeadS s m args below meth c Q D A cX0_cutToHead ((Nat → Int32) × (Nat → Int32) × (Nat → Int32)) (fun (u : (Nat → Int32) × (Nat → Int32) × (Nat → Int32)) => True) (fun (u : (Nat → Int32) × (Nat → Int32) × (Nat → Int32)) => none) (fun (u : (Nat → Int32) × (Nat → Int32) × (Nat → Int32)) => [(h 0, .inr (0, hO h (nI 21))), (h 3, .inl (t 0, 256, .inl u.1)), (h 4, .inl (t 1, 64, .inl u.2.1)), (h 5, .inl (t 1, 8, .inl u.2.2)), (fa, .inl (t 0, fn, .inl (hbp f to_ (hd (fun j => f (at_ + j)) mt) 21 20)))]) 0 0) (hl : lv_has ls 6 [(0, .ref (h 0)), (1, .ref fa), (2, .int (nI at_)), (3, .int mt), (4, .ref fa), (5, .int (nI to_))]) (hP : va_P D vwCl [(h 0, .inr (0, hO h len)), (h 3, .inl (t 0, 256, .inl row)), (h 4, .inl (t 1, 64, .inl wds)), (h 5, .inl (t 1, 8, .inl sm)), (fa, .inl (t 0, fn, .inl f))] H) (hD : va_D A [(h 0, .inr (0, hO h len)), (h 3, .inl (t 0, 256, .inl row)), (h 4, .inl (t 1, 64, .inl wds)), (h 5, .inl (t 1, 8, .inl sm)), (fa, .inl (t 0, fn, .inl f))]) (hS : va_S A s.heap H locs) : W p l e r_X0_cutToHeadS s m args below meth c H locs 0 0 Q (F0 m 0 ls []) := by
  obtain ⟨hx, hcb, hml, hown, hts, hK, hA, hX, hN⟩ := id C
  refine lv_aload_n hx hcb dX0_cutToHead_0 rfl (lv_at hl 0 rfl) ?_
  refine ct_callV (As := []) (rest := []) (wr := [(h 3, .inl (t 0, 256, .inl row)), (h 4, .inl (t 1, 64, .inl wds)), (h 5, .inl (t 1, 8, .inl sm)), (fa, .inl (t 0, fn, .inl f))]) C (c_X0_begin l D t x h len ) (cwV 0 hts (gt_app (by simpa using ⟨wm_X0_31, wi_yX0_begin, wv_X0_begin, wz_X0⟩) (gt_code wc_X0_begin)) rfl rfl rfl (by decide +kernel) ⟨Nat.le_of_ble_eq_true rfl, Nat.le_of_ble_eq_true rfl⟩) rfl rfl (q0 := 0) rfl hP hD hS [0] [1, 2, 3, 4] rfl (by decide) rfl (by decide) (by decide) rfl hl.1 rfl (Nat.le_of_ble_eq_true rfl) dX0_cutToHead_1 ⟨Nat.le_of_ble_eq_true rfl, Nat.le_of_ble_eq_true rfl⟩ (fun u H locs hw_1 hP hD hS => ?_)
  have hP : va_P D vwCl [(h 3, .inl (t 0, 256, .inl row)), (h 4, .inl (t 1, 64, .inl wds)), (h 5, .inl (t 1, 8, .inl sm)), (fa, .inl (t 0, fn, .inl f)), (h 0, .inr (0, hO h (nI 0)))] H := hP
  have hD : va_D A [(h 3, .inl (t 0, 256, .inl row)), (h 4, .inl (t 1, 64, .inl wds)), (h 5, .inl (t 1, 8, .inl sm)), (fa, .inl (t 0, fn, .inl f)), (h 0, .inr (0, hO h (nI 0)))] := hD
  refine W.eq (g2 := F0 m 4 ls []) rfl ?_
  refine lv_aload_n hx hcb dX0_cutToHead_4 rfl (lv_at hl 0 rfl) ?_
  refine lv_aload_n hx hcb dX0_cutToHead_5 rfl (lv_at hl 1 rfl) ?_
  refine lv_iload_n hx hcb dX0_cutToHead_6 rfl (lv_at hl 2 rfl) ?_
  refine lv_bipush (v := nI 20) hx hcb dX0_cutToHead_7 (by decide) ?_
  refine ct_callV (As := [.ref fa, .int (nI at_), .int (nI 20)]) (rest := []) (wr := [(h 4, .inl (t 1, 64, .inl wds)), (h 5, .inl (t 1, 8, .inl sm))]) C (c_X0_addBytes l D t x h fa at_ 20 0 fn row f hf (by omega) (by omega) (by omega)) (cwV 3 hts (gt_app (by simpa using ⟨wm_X0_34, wi_yX0_addBytes, wv_X0_addBytes, wz_X0⟩) (gt_code wc_X0_addBytes)) rfl rfl rfl (by decide +kernel) ⟨Nat.le_of_ble_eq_true rfl, Nat.le_of_ble_eq_true rfl⟩) rfl rfl (q0 := 4) rfl hP hD hS [4, 0, 3] [1, 2] rfl (by decide) rfl (by decide) (by decide) rfl hl.1 rfl (Nat.le_of_ble_eq_true rfl) dX0_cutToHead_9 ⟨Nat.le_of_ble_eq_true rfl, Nat.le_of_ble_eq_true rfl⟩ (fun u H locs hw_2 hP hD hS => ?_)
  have hP : va_P D vwCl [(h 4, .inl (t 1, 64, .inl wds)), (h 5, .inl (t 1, 8, .inl sm)), (h 0, .inr (0, hO h (nI 20))), (h 3, .inl (t 0, 256, .inl (va_cpy f row at_ 0 20))), (fa, .inl (t 0, fn, .inl f))] H := hP
  have hD : va_D A [(h 4, .inl (t 1, 64, .inl wds)), (h 5, .inl (t 1, 8, .inl sm)), (h 0, .inr (0, hO h (nI 20))), (h 3, .inl (t 0, 256, .inl (va_cpy f row at_ 0 20))), (fa, .inl (t 0, fn, .inl f))] := hD
  refine W.eq (g2 := F0 m 12 ls []) rfl ?_
  refine lv_aload_n hx hcb dX0_cutToHead_12 rfl (lv_at hl 0 rfl) ?_
  refine lv_iload_n hx hcb dX0_cutToHead_13 rfl (lv_at hl 3 rfl) ?_
  refine lv_i2l (v := mt.toInt64) hx hcb dX0_cutToHead_14 rfl ?_
  refine lv_iconst (v := nI 1) hx hcb dX0_cutToHead_15 (by decide) ?_
  refine ct_callV (As := [.long mt.toInt64, .int (nI 1)]) (rest := []) (wr := [(h 4, .inl (t 1, 64, .inl wds)), (h 5, .inl (t 1, 8, .inl sm)), (fa, .inl (t 0, fn, .inl f))]) C (c_X0_addNumber l D t x h mt.toInt64 1 20 (va_cpy f row at_ 0 20) (by omega) (by omega)) (cwV 2 hts (gt_app (by simpa using ⟨wm_X0_41, wi_yX0_addNumber, wv_X0_addNumber, wz_X0⟩) (gt_code wc_X0_addNumber)) rfl rfl rfl (by decide +kernel) ⟨Nat.le_of_ble_eq_true rfl, Nat.le_of_ble_eq_true rfl⟩) rfl rfl (q0 := 2) rfl hP hD hS [2, 3] [0, 1, 4] rfl (by decide) rfl (by decide) (by decide) rfl hl.1 rfl (Nat.le_of_ble_eq_true rfl) dX0_cutToHead_16 ⟨Nat.le_of_ble_eq_true rfl, Nat.le_of_ble_eq_true rfl⟩ (fun u H locs hw_3 hP hD hS => ?_)
  have hP : va_P D vwCl [(h 4, .inl (t 1, 64, .inl wds)), (h 5, .inl (t 1, 8, .inl sm)), (fa, .inl (t 0, fn, .inl f)), (h 0, .inr (0, hO h (nI 21))), (h 3, .inl (t 0, 256, .inl (wnp (va_cpy f row at_ 0 20) 20 1 mt.toInt64 1)))] H := hP
  have hD : va_D A [(h 4, .inl (t 1, 64, .inl wds)), (h 5, .inl (t 1, 8, .inl sm)), (fa, .inl (t 0, fn, .inl f)), (h 0, .inr (0, hO h (nI 21))), (h 3, .inl (t 0, 256, .inl (wnp (va_cpy f row at_ 0 20) 20 1 mt.toInt64 1)))] := hD
  refine W.eq (g2 := F0 m 19 ls []) rfl ?_
  refine lv_aload_n hx hcb dX0_cutToHead_19 rfl (lv_at hl 0 rfl) ?_
  refine lv_aload hx hcb dX0_cutToHead_20 (lv_at hl 4 rfl) ?_
  refine lv_iload hx hcb dX0_cutToHead_22 (lv_at hl 5 rfl) ?_
  refine lv_bipush (v := nI 20) hx hcb dX0_cutToHead_24 (by decide) ?_
  refine ct_callV (As := [.ref fa, .int (nI to_), .int (nI 20)]) (rest := []) (wr := []) C (c_X0_finish l D t x h fa to_ 20 21 fn (wnp (va_cpy f row at_ 0 20) 20 1 mt.toInt64 1) wds sm f (by omega) (by omega) (by omega) (by omega)) (cwV 3 hts (gt_app (by simpa using ⟨wm_X0_38, wi_yX0_finish, wv_X0_finish, wz_X0⟩) (gt_code wc_X0_finish)) rfl rfl rfl (by decide +kernel) ⟨Nat.le_of_ble_eq_true rfl, Nat.le_of_ble_eq_true rfl⟩) rfl rfl (q0 := 3) rfl hP hD hS [3, 4, 0, 1, 2] [] rfl (by decide) rfl (by decide) (by decide) rfl hl.1 rfl (Nat.le_of_ble_eq_true rfl) dX0_cutToHead_26 ⟨Nat.le_of_ble_eq_true rfl, Nat.le_of_ble_eq_true rfl⟩ (fun u H locs hw_7 hP hD hS => ?_)
  obtain ⟨r_4, r_5, r_6⟩ := u
  have hP : va_P D vwCl [(h 0, .inr (0, hO h (nI 21))), (h 3, .inl (t 0, 256, .inl r_4)), (h 4, .inl (t 1, 64, .inl r_5)), (h 5, .inl (t 1, 8, .inl r_6)), (fa, .inl (t 0, fn, .inl (hbp f to_ (wnp (va_cpy f row at_ 0 20) 20 1 mt.toInt64 1) 21 20)))] H := hP
  have hD : va_D A [(h 0, .inr (0, hO h (nI 21))), (h 3, .inl (t 0, 256, .inl r_4)), (h 4, .inl (t 1, 64, .inl r_5)), (h 5, .inl (t 1, 8, .inl r_6)), (fa, .inl (t 0, fn, .inl (hbp f to_ (wnp (va_cpy f row at_ 0 20) 20 1 mt.toInt64 1) 21 20)))] := hD
  refine W.eq (g2 := F0 m 29 ls []) rfl ?_
  have hP9 := hP.sub (ws' := [(h 0, .inr (0, hO h (nI 21))), (h 3, .inl (t 0, 256, .inl r_4)), (h 4, .inl (t 1, 64, .inl r_5)), (h 5, .inl (t 1, 8, .inl r_6)), (fa, .inl (t 0, fn, .inl (hbp f to_ (wnp (va_cpy f row at_ 0 20) 20 1 mt.toInt64 1) 21 20)))]) [0, 1, 2, 3, 4] rfl
  have hD9 := hD.sub (ws' := [(h 0, .inr (0, hO h (nI 21))), (h 3, .inl (t 0, 256, .inl r_4)), (h 4, .inl (t 1, 64, .inl r_5)), (h 5, .inl (t 1, 8, .inl r_6)), (fa, .inl (t 0, fn, .inl (hbp f to_ (wnp (va_cpy f row at_ 0 20) 20 1 mt.toInt64 1) 21 20)))]) [0, 1, 2, 3, 4] (by decide) rfl
  rw [show hbp f to_ (wnp (va_cpy f row at_ 0 20) 20 1 (mt.toInt64) 1) 21 20 = hbp f to_ (hd (fun j => f (at_ + j)) mt) 21 20 from hbp_congr hd_in] at hP9 hD9
  exact ret (r_4, r_5, r_6) _ _ _ _ rfl dX0_cutToHead_29 trivial hP9 hD9 hS
end
set_option maxHeartbeats 1000000 in
set_option maxRecDepth 100000 in
/-- cutToHead(from, at, meter, to, toAt), in one row -/
theorem c_X0_cutToHeadS (l : Launch) (D : va_G) (t : Nat → ClassId) (x : Nat → Nat) (h : Nat → Nat) (fa : Nat) (at_ : Nat) (to_ : Nat) (fn : Nat) (mt : Int32) (len : Int32) (row : Nat → Int32) (wds : Nat → Int32) (sm : Nat → Int32) (f : Nat → Int32) (hf : fb f) (hat : at_ + 20 ≤ fn) (hto : to_ + 20 ≤ fn) (hfn : fn < 2 ^ 31) : Ct l D t x yX0_cutToHead wsX0_cutToHead r_X0_cutToHeadS [.ref (h 0), .ref fa, .int (nI at_), .int mt, .ref fa, .int (nI to_)] [(h 0, .inr (0, hO h len)), (h 3, .inl (t 0, 256, .inl row)), (h 4, .inl (t 1, 64, .inl wds)), (h 5, .inl (t 1, 8, .inl sm)), (fa, .inl (t 0, fn, .inl f))] ((Nat → Int32) × (Nat → Int32) × (Nat → Int32)) (fun (u : (Nat → Int32) × (Nat → Int32) × (Nat → Int32)) => True) (fun (u : (Nat → Int32) × (Nat → Int32) × (Nat → Int32)) => none) (fun (u : (Nat → Int32) × (Nat → Int32) × (Nat → Int32)) => [(h 0, .inr (0, hO h (nI 21))), (h 3, .inl (t 0, 256, .inl u.1)), (h 4, .inl (t 1, 64, .inl u.2.1)), (h 5, .inl (t 1, 8, .inl u.2.2)), (fa, .inl (t 0, fn, .inl (hbp f to_ (hd (fun j => f (at_ + j)) mt) 21 20)))]) 0 0 := ct_ofV (by decide) rfl (Nat.le_of_ble_eq_true rfl) rfl (fun p e s m below meth c A ls Q C ret hi9 hl hP hD hS => b_X0_cutToHeadS h fa at_ to_ fn mt len row wds sm f hf hat hto hfn C ret hl hP hD hS)
def r_X0_beginWithKey : Room := { frames := 0, cells := 0, slots := 0, locals := 0 }
section
variable {p : Program} {l : Launch} {e : Env} {s : State} {m : MethodId} {args : Array Value} {below : List Frame} {meth : Method} {c : Code} {Q : State → Prop} {D : va_G} {t : Nat → ClassId} {x : Nat → Nat} {A : Nat → Prop}
set_option maxHeartbeats 1000000 in
set_option maxRecDepth 100000 in
theorem lp_X0_beginWithKey_2 (h : Nat → Nat) (ka : Nat) (pd : Int32) (len : Int32) (row : Nat → Int32) (key : Nat → Int32)  (C : Cx p s m args c cX0_beginWithKey 4 RX0 D t x A) (kx0 : ∀ (i : Nat) (g : Nat → Int32) (H : Heap) (locs : List Loc) (ls : Array Slot), (i ≤ 64) → (g = kpf row key pd i) → (64 = i) → va_P D vwCl [(h 0, .inr (0, hO h len)), (h 3, .inl (t 0, 256, .inl g)), (ka, .inl (t 0, 16, .inl key))] H → va_D A [(h 0, .inr (0, hO h len)), (h 3, .inl (t 0, 256, .inl g)), (ka, .inl (t 0, 16, .inl key))] → va_S A s.heap H locs → lv_has ls 4 [(3, .int (nI i)), (0, .ref (h 0)), (1, .ref ka), (2, .int pd)] → W p l e r_X0_beginWithKey s m args below meth c H locs 0 0 Q (F0 m 36 ls [])) : ∀ (fu : Nat) (i : Nat) (g : Nat → Int32) (H : Heap) (locs : List Loc) (ls : Array Slot), 64 - i < fu → (i ≤ 64) → (g = kpf row key pd i) → va_P D vwCl [(h 0, .inr (0, hO h len)), (h 3, .inl (t 0, 256, .inl g)), (ka, .inl (t 0, 16, .inl key))] H → va_D A [(h 0, .inr (0, hO h len)), (h 3, .inl (t 0, 256, .inl g)), (ka, .inl (t 0, 16, .inl key))] → va_S A s.heap H locs → lv_has ls 4 [(3, .int (nI i)), (0, .ref (h 0)), (1, .ref ka), (2, .int pd)] → W p l e r_X0_beginWithKey s m args below meth c H locs 0 0 Q (F0 m 2 ls []) := by
  obtain ⟨hx, hcb, hml, hown, hts, hK, hA, hX, hN⟩ := id C
  intro fu
  induction fu with
  | zero =>
    intro i g H locs ls hz
    exact absurd hz (Nat.not_lt_zero _)
  | succ fu ih =>
    intro i g H locs ls hz hi hg hP hD hS hl
    refine lv_iload_n hx hcb dX0_beginWithKey_2 rfl (lv_at hl 0 rfl) ?_
    refine lv_bipush (v := nI 64) hx hcb dX0_beginWithKey_3 (by decide) ?_
    refine q_ge (x := i) (y := 64) (tgt := 36) hx hcb (by omega) (by omega) dX0_beginWithKey_5 (by decide) (fun c_1 => ?_) (fun c_1 => ?_)
    · exact kx0 i g _ _ _ hi hg (by omega) hP hD hS (lv_sub hl [0, 1, 2, 3] rfl)
    · refine lv_aload_n hx hcb dX0_beginWithKey_8 rfl (lv_at hl 1 rfl) ?_
      refine va_get (D := D) (ci := 0) (v := .ref (h 3)) (C := RX0) (T := TX0) (N := 6) hx hcb hts inX0 hown hK hP 0 rfl rfl 2 (by decide) (hts _ wf_X0_18) (fun _ h9 => h9) rfl dX0_beginWithKey_9 ?_
      refine lv_iload_n hx hcb dX0_beginWithKey_12 rfl (lv_at hl 0 rfl) ?_
      refine lv_iload_n hx hcb dX0_beginWithKey_13 rfl (lv_at hl 0 rfl) ?_
      refine lv_bipush (v := nI 16) hx hcb dX0_beginWithKey_14 (by decide) ?_
      refine q_ge (x := i) (y := 16) (tgt := 25) hx hcb (by omega) (by omega) dX0_beginWithKey_16 (by decide) (fun c_2 => ?_) (fun c_2 => ?_)
      · refine lv_iconst (v := nI 0) hx hcb dX0_beginWithKey_25 (by decide) ?_
        refine lv_iload_n hx hcb dX0_beginWithKey_26 rfl (lv_at hl 3 rfl) ?_
        refine lv_ixor hx hcb dX0_beginWithKey_27 ?_
        refine lv_i2b (v := bx ((nI 0) ^^^ pd)) hx hcb dX0_beginWithKey_28 rfl ?_
        refine q_bast (j := i) (v := bx ((nI 0) ^^^ pd)) hx hcb hK hP hD hS 1 0 rfl rfl (bx_bx _) (by omega) (by decide) dX0_beginWithKey_29 (fun H locs hP hD hS => ?_)
        have hP : va_P D vwCl [(h 0, .inr (0, hO h len)), (h 3, .inl (t 0, 256, .inl (upd g i (bx ((nI 0) ^^^ pd))))), (ka, .inl (t 0, 16, .inl key))] H := hP
        have hD : va_D A [(h 0, .inr (0, hO h len)), (h 3, .inl (t 0, 256, .inl (upd g i (bx ((nI 0) ^^^ pd))))), (ka, .inl (t 0, 16, .inl key))] := hD
        refine lv_iinc (v := nI (i + 1)) (lv' := [(3, .int (nI (i + 1))), (0, .ref (h 0)), (1, .ref ka), (2, .int pd)]) hx hcb dX0_beginWithKey_30 hl (k := 0) rfl (q_inc i 1 rfl) (by decide) rfl (fun ls hl => ?_)
        refine lv_goto (tgt := 2) hx hcb dX0_beginWithKey_33 (by decide) ?_
        exact ih (i + 1) (upd g i (bx ((nI 0) ^^^ pd))) _ _ _ (by omega) (by omega) (by first | exact kpf_s hg (by rw [kx, if_pos (by omega)]) | exact kpf_s hg (by rw [kx, if_neg (by omega)])) hP hD hS (lv_sub hl [0, 1, 2, 3] rfl)
      · refine lv_aload_n hx hcb dX0_beginWithKey_19 rfl (lv_at hl 2 rfl) ?_
        refine lv_iload_n hx hcb dX0_beginWithKey_20 rfl (lv_at hl 0 rfl) ?_
        refine q_bald (j := i) hx hcb hK hP 2 0 rfl rfl (by omega) (by decide) dX0_beginWithKey_21 ?_
        refine lv_goto (tgt := 26) hx hcb dX0_beginWithKey_22 (by decide) ?_
        refine lv_iload_n hx hcb dX0_beginWithKey_26 rfl (lv_at hl 3 rfl) ?_
        refine lv_ixor hx hcb dX0_beginWithKey_27 ?_
        refine lv_i2b (v := bx ((key i) ^^^ pd)) hx hcb dX0_beginWithKey_28 rfl ?_
        refine q_bast (j := i) (v := bx ((key i) ^^^ pd)) hx hcb hK hP hD hS 1 0 rfl rfl (bx_bx _) (by omega) (by decide) dX0_beginWithKey_29 (fun H locs hP hD hS => ?_)
        have hP : va_P D vwCl [(h 0, .inr (0, hO h len)), (h 3, .inl (t 0, 256, .inl (upd g i (bx ((key i) ^^^ pd))))), (ka, .inl (t 0, 16, .inl key))] H := hP
        have hD : va_D A [(h 0, .inr (0, hO h len)), (h 3, .inl (t 0, 256, .inl (upd g i (bx ((key i) ^^^ pd))))), (ka, .inl (t 0, 16, .inl key))] := hD
        refine lv_iinc (v := nI (i + 1)) (lv' := [(3, .int (nI (i + 1))), (0, .ref (h 0)), (1, .ref ka), (2, .int pd)]) hx hcb dX0_beginWithKey_30 hl (k := 0) rfl (q_inc i 1 rfl) (by decide) rfl (fun ls hl => ?_)
        refine lv_goto (tgt := 2) hx hcb dX0_beginWithKey_33 (by decide) ?_
        exact ih (i + 1) (upd g i (bx ((key i) ^^^ pd))) _ _ _ (by omega) (by omega) (by first | exact kpf_s hg (by rw [kx, if_pos (by omega)]) | exact kpf_s hg (by rw [kx, if_neg (by omega)])) hP hD hS (lv_sub hl [0, 1, 2, 3] rfl)
set_option maxHeartbeats 1000000 in
set_option maxRecDepth 100000 in
theorem b_X0_beginWithKey (h : Nat → Nat) (ka : Nat) (pd : Int32) (len : Int32) (row : Nat → Int32) (key : Nat → Int32)  {H : Heap} {locs : List Loc} {ls : Array Slot} (C : Cx p s m args c cX0_beginWithKey 4 RX0 D t x A) (ret : RtV p l e r_X0_beginWithKey s m args below meth c Q D A cX0_beginWithKey (Unit) (fun (_ : Unit) => True) (fun (_ : Unit) => none) (fun (_ : Unit) => [(h 0, .inr (0, hO h (nI 64))), (h 3, .inl (t 0, 256, .inl (kpf row key pd 64))), (ka, .inl (t 0, 16, .inl key))]) 0 0) (hl : lv_has ls 4 [(0, .ref (h 0)), (1, .ref ka), (2, .int pd)]) (hP : va_P D vwCl [(h 0, .inr (0, hO h len)), (h 3, .inl (t 0, 256, .inl row)), (ka, .inl (t 0, 16, .inl key))] H) (hD : va_D A [(h 0, .inr (0, hO h len)), (h 3, .inl (t 0, 256, .inl row)), (ka, .inl (t 0, 16, .inl key))]) (hS : va_S A s.heap H locs) : W p l e r_X0_beginWithKey s m args below meth c H locs 0 0 Q (F0 m 0 ls []) := by
  obtain ⟨hx, hcb, hml, hown, hts, hK, hA, hX, hN⟩ := id C
  refine lv_iconst (v := nI 0) hx hcb dX0_beginWithKey_0 (by decide) ?_
  refine lv_istore_n (lv' := [(3, .int (nI 0)), (0, .ref (h 0)), (1, .ref ka), (2, .int pd)]) hx hcb dX0_beginWithKey_1 rfl hl (by decide) rfl (fun ls hl => ?_)
  refine lp_X0_beginWithKey_2 h ka pd len row key  C (fun i g H locs ls hi hg hie hP hD hS hl => ?_) ((64 - 0) + 1) 0 row _ _ _ (Nat.lt_succ_self _) (Nat.zero_le _) (kpf_0 _ _ _) hP hD hS (lv_sub hl [0, 1, 2, 3] rfl)
  subst hie
  subst hg
  refine lv_aload_n hx hcb dX0_beginWithKey_36 rfl (lv_at hl 1 rfl) ?_
  refine lv_bipush (v := nI 64) hx hcb dX0_beginWithKey_37 (by decide) ?_
  refine va_put (D := D) (ci := 0) (v := .int (nI 64)) (ty := .int) (C := RX0) (T := TX0) (N := 6) hx hcb hts inX0 tyX0 tyX0_ok nX0 hown hK hP hD hS 0 rfl rfl 3 (by decide) (hts _ wf_X0_49) (fun _ h9 => h9) rfl (by decide +kernel) rfl rfl (Nat.le_of_ble_eq_true rfl) dX0_beginWithKey_39 (fun H locs hP hD hS => ?_)
  have hP : va_P D vwCl [(h 0, .inr (0, hO h (nI 64))), (h 3, .inl (t 0, 256, .inl (kpf row key pd 64))), (ka, .inl (t 0, 16, .inl key))] H := hP
  have hD : va_D A [(h 0, .inr (0, hO h (nI 64))), (h 3, .inl (t 0, 256, .inl (kpf row key pd 64))), (ka, .inl (t 0, 16, .inl key))] := hD
  have hP9 := hP.sub (ws' := [(h 0, .inr (0, hO h (nI 64))), (h 3, .inl (t 0, 256, .inl (kpf row key pd 64))), (ka, .inl (t 0, 16, .inl key))]) [0, 1, 2] rfl
  have hD9 := hD.sub (ws' := [(h 0, .inr (0, hO h (nI 64))), (h 3, .inl (t 0, 256, .inl (kpf row key pd 64))), (ka, .inl (t 0, 16, .inl key))]) [0, 1, 2] (by decide) rfl
  exact ret () _ _ _ _ rfl dX0_beginWithKey_42 trivial hP9 hD9 hS
end
set_option maxHeartbeats 1000000 in
set_option maxRecDepth 100000 in
/-- beginWithKey(key, pad) -/
theorem c_X0_beginWithKey (l : Launch) (D : va_G) (t : Nat → ClassId) (x : Nat → Nat) (h : Nat → Nat) (ka : Nat) (pd : Int32) (len : Int32) (row : Nat → Int32) (key : Nat → Int32)  : Ct l D t x yX0_beginWithKey wsX0_beginWithKey r_X0_beginWithKey [.ref (h 0), .ref ka, .int pd] [(h 0, .inr (0, hO h len)), (h 3, .inl (t 0, 256, .inl row)), (ka, .inl (t 0, 16, .inl key))] (Unit) (fun (_ : Unit) => True) (fun (_ : Unit) => none) (fun (_ : Unit) => [(h 0, .inr (0, hO h (nI 64))), (h 3, .inl (t 0, 256, .inl (kpf row key pd 64))), (ka, .inl (t 0, 16, .inl key))]) 0 0 := ct_ofV (by decide) rfl (Nat.le_of_ble_eq_true rfl) rfl (fun p e s m below meth c A ls Q C ret hi9 hl hP hD hS => b_X0_beginWithKey h ka pd len row key  C ret hl hP hD hS)
def r_X0_makeCode : Room := { frames := 3, cells := 0, slots := 0, locals := 77 }
section
variable {p : Program} {l : Launch} {e : Env} {s : State} {m : MethodId} {args : Array Value} {below : List Frame} {meth : Method} {c : Code} {Q : State → Prop} {D : va_G} {t : Nat → ClassId} {x : Nat → Nat} {A : Nat → Prop}
set_option maxHeartbeats 1000000 in
set_option maxRecDepth 100000 in
theorem b_X0_makeCode (h : Nat → Nat) (ka : Nat) (xa : Nat) (k : Nat) (xn : Nat) (len : Int32) (row : Nat → Int32) (wds : Nat → Int32) (sm : Nat → Int32) (cd : Nat → Int32) (key : Nat → Int32) (tx : Nat → Int32) (hcd : fb cd) (htx : fb tx) (hk : k ≤ 183) (hxn : k ≤ xn) (hxm : xn < 2 ^ 31) {H : Heap} {locs : List Loc} {ls : Array Slot} (C : Cx p s m args c cX0_makeCode 4 RX0 D t x A) (ret : RtV p l e r_X0_makeCode s m args below meth c Q D A cX0_makeCode ((Nat → Int32) × (Nat → Int32) × (Nat → Int32)) (fun (u : (Nat → Int32) × (Nat → Int32) × (Nat → Int32)) => True) (fun (u : (Nat → Int32) × (Nat → Int32) × (Nat → Int32)) => none) (fun (u : (Nat → Int32) × (Nat → Int32) × (Nat → Int32)) => [(h 0, .inr (0, hO h (nI 96))), (h 3, .inl (t 0, 256, .inl u.1)), (h 4, .inl (t 1, 64, .inl u.2.1)), (h 5, .inl (t 1, 8, .inl u.2.2)), (h 1, .inl (t 0, 32, .inl (cdm cd key tx k))), (ka, .inl (t 0, 16, .inl key)), (xa, .inl (t 0, xn, .inl tx))]) 0 0) (hl : lv_has ls 4 [(0, .ref (h 0)), (1, .ref ka), (2, .ref xa), (3, .int (nI k))]) (hP : va_P D vwCl [(h 0, .inr (0, hO h len)), (h 3, .inl (t 0, 256, .inl row)), (h 4, .inl (t 1, 64, .inl wds)), (h 5, .inl (t 1, 8, .inl sm)), (h 1, .inl (t 0, 32, .inl cd)), (ka, .inl (t 0, 16, .inl key)), (xa, .inl (t 0, xn, .inl tx))] H) (hD : va_D A [(h 0, .inr (0, hO h len)), (h 3, .inl (t 0, 256, .inl row)), (h 4, .inl (t 1, 64, .inl wds)), (h 5, .inl (t 1, 8, .inl sm)), (h 1, .inl (t 0, 32, .inl cd)), (ka, .inl (t 0, 16, .inl key)), (xa, .inl (t 0, xn, .inl tx))]) (hS : va_S A s.heap H locs) : W p l e r_X0_makeCode s m args below meth c H locs 0 0 Q (F0 m 0 ls []) := by
  obtain ⟨hx, hcb, hml, hown, hts, hK, hA, hX, hN⟩ := id C
  refine lv_aload_n hx hcb dX0_makeCode_0 rfl (lv_at hl 0 rfl) ?_
  refine lv_aload_n hx hcb dX0_makeCode_1 rfl (lv_at hl 1 rfl) ?_
  refine lv_bipush (v := nI 54) hx hcb dX0_makeCode_2 (by decide) ?_
  refine ct_callV (As := [.ref ka, .int (nI 54)]) (rest := []) (wr := [(h 4, .inl (t 1, 64, .inl wds)), (h 5, .inl (t 1, 8, .inl sm)), (h 1, .inl (t 0, 32, .inl cd)), (xa, .inl (t 0, xn, .inl tx))]) C (c_X0_beginWithKey l D t x h ka (nI 54) len row key ) (cwV 2 hts (gt_app (by simpa using ⟨wm_X0_45, wi_yX0_beginWithKey, wv_X0_beginWithKey, wz_X0⟩) (gt_code wc_X0_beginWithKey)) rfl rfl rfl (by decide +kernel) ⟨Nat.le_of_ble_eq_true rfl, Nat.le_of_ble_eq_true rfl⟩) rfl rfl (q0 := 0) rfl hP hD hS [0, 1, 5] [2, 3, 4, 6] rfl (by decide) rfl (by decide) (by decide) rfl hl.1 rfl (Nat.le_of_ble_eq_true rfl) dX0_makeCode_4 ⟨Nat.le_of_ble_eq_true rfl, Nat.le_of_ble_eq_true rfl⟩ (fun u H locs hw_1 hP hD hS => ?_)
  have hP : va_P D vwCl [(h 4, .inl (t 1, 64, .inl wds)), (h 5, .inl (t 1, 8, .inl sm)), (h 1, .inl (t 0, 32, .inl cd)), (xa, .inl (t 0, xn, .inl tx)), (h 0, .inr (0, hO h (nI 64))), (h 3, .inl (t 0, 256, .inl (kpf row key (nI 54) 64))), (ka, .inl (t 0, 16, .inl key))] H := hP
  have hD : va_D A [(h 4, .inl (t 1, 64, .inl wds)), (h 5, .inl (t 1, 8, .inl sm)), (h 1, .inl (t 0, 32, .inl cd)), (xa, .inl (t 0, xn, .inl tx)), (h 0, .inr (0, hO h (nI 64))), (h 3, .inl (t 0, 256, .inl (kpf row key (nI 54) 64))), (ka, .inl (t 0, 16, .inl key))] := hD
  refine W.eq (g2 := F0 m 7 ls []) rfl ?_
  refine lv_aload_n hx hcb dX0_makeCode_7 rfl (lv_at hl 0 rfl) ?_
  refine lv_aload_n hx hcb dX0_makeCode_8 rfl (lv_at hl 2 rfl) ?_
  refine lv_iconst (v := nI 0) hx hcb dX0_makeCode_9 (by decide) ?_
  refine lv_iload_n hx hcb dX0_makeCode_10 rfl (lv_at hl 3 rfl) ?_
  refine ct_callV (As := [.ref xa, .int (nI 0), .int (nI k)]) (rest := []) (wr := [(h 4, .inl (t 1, 64, .inl wds)), (h 5, .inl (t 1, 8, .inl sm)), (h 1, .inl (t 0, 32, .inl cd)), (ka, .inl (t 0, 16, .inl key))]) C (c_X0_addBytes l D t x h xa 0 k 64 xn (kpf row key (nI 54) 64) tx htx (by omega) (by omega) (by omega)) (cwV 3 hts (gt_app (by simpa using ⟨wm_X0_34, wi_yX0_addBytes, wv_X0_addBytes, wz_X0⟩) (gt_code wc_X0_addBytes)) rfl rfl rfl (by decide +kernel) ⟨Nat.le_of_ble_eq_true rfl, Nat.le_of_ble_eq_true rfl⟩) rfl rfl (q0 := 4) rfl hP hD hS [4, 5, 3] [0, 1, 2, 6] rfl (by decide) rfl (by decide) (by decide) rfl hl.1 rfl (Nat.le_of_ble_eq_true rfl) dX0_makeCode_11 ⟨Nat.le_of_ble_eq_true rfl, Nat.le_of_ble_eq_true rfl⟩ (fun u H locs hw_2 hP hD hS => ?_)
  have hP : va_P D vwCl [(h 4, .inl (t 1, 64, .inl wds)), (h 5, .inl (t 1, 8, .inl sm)), (h 1, .inl (t 0, 32, .inl cd)), (ka, .inl (t 0, 16, .inl key)), (h 0, .inr (0, hO h (nI (64 + k)))), (h 3, .inl (t 0, 256, .inl (va_cpy tx (kpf row key (nI 54) 64) 0 64 k))), (xa, .inl (t 0, xn, .inl tx))] H := hP
  have hD : va_D A [(h 4, .inl (t 1, 64, .inl wds)), (h 5, .inl (t 1, 8, .inl sm)), (h 1, .inl (t 0, 32, .inl cd)), (ka, .inl (t 0, 16, .inl key)), (h 0, .inr (0, hO h (nI (64 + k)))), (h 3, .inl (t 0, 256, .inl (va_cpy tx (kpf row key (nI 54) 64) 0 64 k))), (xa, .inl (t 0, xn, .inl tx))] := hD
  refine W.eq (g2 := F0 m 14 ls []) rfl ?_
  refine lv_aload_n hx hcb dX0_makeCode_14 rfl (lv_at hl 0 rfl) ?_
  refine lv_aload_n hx hcb dX0_makeCode_15 rfl (lv_at hl 0 rfl) ?_
  refine va_get (D := D) (ci := 0) (v := .ref (h 1)) (C := RX0) (T := TX0) (N := 6) hx hcb hts inX0 hown hK hP 4 rfl rfl 0 (by decide) (hts _ wf_X0_9) (fun _ h9 => h9) rfl dX0_makeCode_16 ?_
  refine lv_iconst (v := nI 0) hx hcb dX0_makeCode_19 (by decide) ?_
  refine lv_bipush (v := nI 32) hx hcb dX0_makeCode_20 (by decide) ?_
  refine ct_callV (As := [.ref (h 1), .int (nI 0), .int (nI 32)]) (rest := []) (wr := [(ka, .inl (t 0, 16, .inl key)), (xa, .inl (t 0, xn, .inl tx))]) C (c_X0_finish l D t x h (h 1) 0 32 (64 + k) 32 (va_cpy tx (kpf row key (nI 54) 64) 0 64 k) wds sm cd (by omega) (by omega) (by omega) (by omega)) (cwV 3 hts (gt_app (by simpa using ⟨wm_X0_38, wi_yX0_finish, wv_X0_finish, wz_X0⟩) (gt_code wc_X0_finish)) rfl rfl rfl (by decide +kernel) ⟨Nat.le_of_ble_eq_true rfl, Nat.le_of_ble_eq_true rfl⟩) rfl rfl (q0 := 4) rfl hP hD hS [4, 5, 0, 1, 2] [3, 6] rfl (by decide) rfl (by decide) (by decide) rfl hl.1 rfl (Nat.le_of_ble_eq_true rfl) dX0_makeCode_22 ⟨Nat.le_of_ble_eq_true rfl, Nat.le_of_ble_eq_true rfl⟩ (fun u H locs hw_6 hP hD hS => ?_)
  obtain ⟨r_3, r_4, r_5⟩ := u
  have hP : va_P D vwCl [(ka, .inl (t 0, 16, .inl key)), (xa, .inl (t 0, xn, .inl tx)), (h 0, .inr (0, hO h (nI (64 + k)))), (h 3, .inl (t 0, 256, .inl r_3)), (h 4, .inl (t 1, 64, .inl r_4)), (h 5, .inl (t 1, 8, .inl r_5)), (h 1, .inl (t 0, 32, .inl (hbp cd 0 (va_cpy tx (kpf row key (nI 54) 64) 0 64 k) (64 + k) 32)))] H := hP
  have hD : va_D A [(ka, .inl (t 0, 16, .inl key)), (xa, .inl (t 0, xn, .inl tx)), (h 0, .inr (0, hO h (nI (64 + k)))), (h 3, .inl (t 0, 256, .inl r_3)), (h 4, .inl (t 1, 64, .inl r_4)), (h 5, .inl (t 1, 8, .inl r_5)), (h 1, .inl (t 0, 32, .inl (hbp cd 0 (va_cpy tx (kpf row key (nI 54) 64) 0 64 k) (64 + k) 32)))] := hD
  refine W.eq (g2 := F0 m 25 ls []) rfl ?_
  refine lv_aload_n hx hcb dX0_makeCode_25 rfl (lv_at hl 0 rfl) ?_
  refine lv_aload_n hx hcb dX0_makeCode_26 rfl (lv_at hl 1 rfl) ?_
  refine lv_bipush (v := nI 92) hx hcb dX0_makeCode_27 (by decide) ?_
  refine ct_callV (As := [.ref ka, .int (nI 92)]) (rest := []) (wr := [(xa, .inl (t 0, xn, .inl tx)), (h 4, .inl (t 1, 64, .inl r_4)), (h 5, .inl (t 1, 8, .inl r_5)), (h 1, .inl (t 0, 32, .inl (hbp cd 0 (va_cpy tx (kpf row key (nI 54) 64) 0 64 k) (64 + k) 32)))]) C (c_X0_beginWithKey l D t x h ka (nI 92) (nI (64 + k)) r_3 key ) (cwV 2 hts (gt_app (by simpa using ⟨wm_X0_45, wi_yX0_beginWithKey, wv_X0_beginWithKey, wz_X0⟩) (gt_code wc_X0_beginWithKey)) rfl rfl rfl (by decide +kernel) ⟨Nat.le_of_ble_eq_true rfl, Nat.le_of_ble_eq_true rfl⟩) rfl rfl (q0 := 2) rfl hP hD hS [2, 3, 0] [1, 4, 5, 6] rfl (by decide) rfl (by decide) (by decide) rfl hl.1 rfl (Nat.le_of_ble_eq_true rfl) dX0_makeCode_29 ⟨Nat.le_of_ble_eq_true rfl, Nat.le_of_ble_eq_true rfl⟩ (fun u H locs hw_7 hP hD hS => ?_)
  have hP : va_P D vwCl [(xa, .inl (t 0, xn, .inl tx)), (h 4, .inl (t 1, 64, .inl r_4)), (h 5, .inl (t 1, 8, .inl r_5)), (h 1, .inl (t 0, 32, .inl (hbp cd 0 (va_cpy tx (kpf row key (nI 54) 64) 0 64 k) (64 + k) 32))), (h 0, .inr (0, hO h (nI 64))), (h 3, .inl (t 0, 256, .inl (kpf r_3 key (nI 92) 64))), (ka, .inl (t 0, 16, .inl key))] H := hP
  have hD : va_D A [(xa, .inl (t 0, xn, .inl tx)), (h 4, .inl (t 1, 64, .inl r_4)), (h 5, .inl (t 1, 8, .inl r_5)), (h 1, .inl (t 0, 32, .inl (hbp cd 0 (va_cpy tx (kpf row key (nI 54) 64) 0 64 k) (64 + k) 32))), (h 0, .inr (0, hO h (nI 64))), (h 3, .inl (t 0, 256, .inl (kpf r_3 key (nI 92) 64))), (ka, .inl (t 0, 16, .inl key))] := hD
  refine W.eq (g2 := F0 m 32 ls []) rfl ?_
  refine lv_aload_n hx hcb dX0_makeCode_32 rfl (lv_at hl 0 rfl) ?_
  refine lv_aload_n hx hcb dX0_makeCode_33 rfl (lv_at hl 0 rfl) ?_
  refine va_get (D := D) (ci := 0) (v := .ref (h 1)) (C := RX0) (T := TX0) (N := 6) hx hcb hts inX0 hown hK hP 4 rfl rfl 0 (by decide) (hts _ wf_X0_9) (fun _ h9 => h9) rfl dX0_makeCode_34 ?_
  refine lv_iconst (v := nI 0) hx hcb dX0_makeCode_37 (by decide) ?_
  refine lv_bipush (v := nI 32) hx hcb dX0_makeCode_38 (by decide) ?_
  refine ct_callV (As := [.ref (h 1), .int (nI 0), .int (nI 32)]) (rest := []) (wr := [(xa, .inl (t 0, xn, .inl tx)), (h 4, .inl (t 1, 64, .inl r_4)), (h 5, .inl (t 1, 8, .inl r_5)), (ka, .inl (t 0, 16, .inl key))]) C (c_X0_addBytes l D t x h (h 1) 0 32 64 32 (kpf r_3 key (nI 92) 64) (hbp cd 0 (va_cpy tx (kpf row key (nI 54) 64) 0 64 k) (64 + k) 32) (fb_hbp hcd) (by omega) (by omega) (by omega)) (cwV 3 hts (gt_app (by simpa using ⟨wm_X0_34, wi_yX0_addBytes, wv_X0_addBytes, wz_X0⟩) (gt_code wc_X0_addBytes)) rfl rfl rfl (by decide +kernel) ⟨Nat.le_of_ble_eq_true rfl, Nat.le_of_ble_eq_true rfl⟩) rfl rfl (q0 := 4) rfl hP hD hS [4, 5, 3] [0, 1, 2, 6] rfl (by decide) rfl (by decide) (by decide) rfl hl.1 rfl (Nat.le_of_ble_eq_true rfl) dX0_makeCode_40 ⟨Nat.le_of_ble_eq_true rfl, Nat.le_of_ble_eq_true rfl⟩ (fun u H locs hw_8 hP hD hS => ?_)
  have hP : va_P D vwCl [(xa, .inl (t 0, xn, .inl tx)), (h 4, .inl (t 1, 64, .inl r_4)), (h 5, .inl (t 1, 8, .inl r_5)), (ka, .inl (t 0, 16, .inl key)), (h 0, .inr (0, hO h (nI 96))), (h 3, .inl (t 0, 256, .inl (va_cpy (hbp cd 0 (va_cpy tx (kpf row key (nI 54) 64) 0 64 k) (64 + k) 32) (kpf r_3 key (nI 92) 64) 0 64 32))), (h 1, .inl (t 0, 32, .inl (hbp cd 0 (va_cpy tx (kpf row key (nI 54) 64) 0 64 k) (64 + k) 32)))] H := hP
  have hD : va_D A [(xa, .inl (t 0, xn, .inl tx)), (h 4, .inl (t 1, 64, .inl r_4)), (h 5, .inl (t 1, 8, .inl r_5)), (ka, .inl (t 0, 16, .inl key)), (h 0, .inr (0, hO h (nI 96))), (h 3, .inl (t 0, 256, .inl (va_cpy (hbp cd 0 (va_cpy tx (kpf row key (nI 54) 64) 0 64 k) (64 + k) 32) (kpf r_3 key (nI 92) 64) 0 64 32))), (h 1, .inl (t 0, 32, .inl (hbp cd 0 (va_cpy tx (kpf row key (nI 54) 64) 0 64 k) (64 + k) 32)))] := hD
  refine W.eq (g2 := F0 m 43 ls []) rfl ?_
  refine lv_aload_n hx hcb dX0_makeCode_43 rfl (lv_at hl 0 rfl) ?_
  refine lv_aload_n hx hcb dX0_makeCode_44 rfl (lv_at hl 0 rfl) ?_
  refine va_get (D := D) (ci := 0) (v := .ref (h 1)) (C := RX0) (T := TX0) (N := 6) hx hcb hts inX0 hown hK hP 4 rfl rfl 0 (by decide) (hts _ wf_X0_9) (fun _ h9 => h9) rfl dX0_makeCode_45 ?_
  refine lv_iconst (v := nI 0) hx hcb dX0_makeCode_48 (by decide) ?_
  refine lv_bipush (v := nI 32) hx hcb dX0_makeCode_49 (by decide) ?_
  refine ct_callV (As := [.ref (h 1), .int (nI 0), .int (nI 32)]) (rest := []) (wr := [(xa, .inl (t 0, xn, .inl tx)), (ka, .inl (t 0, 16, .inl key))]) C (c_X0_finish l D t x h (h 1) 0 32 96 32 (va_cpy (hbp cd 0 (va_cpy tx (kpf row key (nI 54) 64) 0 64 k) (64 + k) 32) (kpf r_3 key (nI 92) 64) 0 64 32) r_4 r_5 (hbp cd 0 (va_cpy tx (kpf row key (nI 54) 64) 0 64 k) (64 + k) 32) (by omega) (by omega) (by omega) (by omega)) (cwV 3 hts (gt_app (by simpa using ⟨wm_X0_38, wi_yX0_finish, wv_X0_finish, wz_X0⟩) (gt_code wc_X0_finish)) rfl rfl rfl (by decide +kernel) ⟨Nat.le_of_ble_eq_true rfl, Nat.le_of_ble_eq_true rfl⟩) rfl rfl (q0 := 4) rfl hP hD hS [4, 5, 1, 2, 6] [0, 3] rfl (by decide) rfl (by decide) (by decide) rfl hl.1 rfl (Nat.le_of_ble_eq_true rfl) dX0_makeCode_51 ⟨Nat.le_of_ble_eq_true rfl, Nat.le_of_ble_eq_true rfl⟩ (fun u H locs hw_12 hP hD hS => ?_)
  obtain ⟨r_9, r_10, r_11⟩ := u
  have hP : va_P D vwCl [(xa, .inl (t 0, xn, .inl tx)), (ka, .inl (t 0, 16, .inl key)), (h 0, .inr (0, hO h (nI 96))), (h 3, .inl (t 0, 256, .inl r_9)), (h 4, .inl (t 1, 64, .inl r_10)), (h 5, .inl (t 1, 8, .inl r_11)), (h 1, .inl (t 0, 32, .inl (hbp (hbp cd 0 (va_cpy tx (kpf row key (nI 54) 64) 0 64 k) (64 + k) 32) 0 (va_cpy (hbp cd 0 (va_cpy tx (kpf row key (nI 54) 64) 0 64 k) (64 + k) 32) (kpf r_3 key (nI 92) 64) 0 64 32) 96 32)))] H := hP
  have hD : va_D A [(xa, .inl (t 0, xn, .inl tx)), (ka, .inl (t 0, 16, .inl key)), (h 0, .inr (0, hO h (nI 96))), (h 3, .inl (t 0, 256, .inl r_9)), (h 4, .inl (t 1, 64, .inl r_10)), (h 5, .inl (t 1, 8, .inl r_11)), (h 1, .inl (t 0, 32, .inl (hbp (hbp cd 0 (va_cpy tx (kpf row key (nI 54) 64) 0 64 k) (64 + k) 32) 0 (va_cpy (hbp cd 0 (va_cpy tx (kpf row key (nI 54) 64) 0 64 k) (64 + k) 32) (kpf r_3 key (nI 92) 64) 0 64 32) 96 32)))] := hD
  refine W.eq (g2 := F0 m 54 ls []) rfl ?_
  have hP9 := hP.sub (ws' := [(h 0, .inr (0, hO h (nI 96))), (h 3, .inl (t 0, 256, .inl r_9)), (h 4, .inl (t 1, 64, .inl r_10)), (h 5, .inl (t 1, 8, .inl r_11)), (h 1, .inl (t 0, 32, .inl (hbp (hbp cd 0 (va_cpy tx (kpf row key (nI 54) 64) 0 64 k) (64 + k) 32) 0 (va_cpy (hbp cd 0 (va_cpy tx (kpf row key (nI 54) 64) 0 64 k) (64 + k) 32) (kpf r_3 key (nI 92) 64) 0 64 32) 96 32))), (ka, .inl (t 0, 16, .inl key)), (xa, .inl (t 0, xn, .inl tx))]) [2, 3, 4, 5, 6, 1, 0] rfl
  have hD9 := hD.sub (ws' := [(h 0, .inr (0, hO h (nI 96))), (h 3, .inl (t 0, 256, .inl r_9)), (h 4, .inl (t 1, 64, .inl r_10)), (h 5, .inl (t 1, 8, .inl r_11)), (h 1, .inl (t 0, 32, .inl (hbp (hbp cd 0 (va_cpy tx (kpf row key (nI 54) 64) 0 64 k) (64 + k) 32) 0 (va_cpy (hbp cd 0 (va_cpy tx (kpf row key (nI 54) 64) 0 64 k) (64 + k) 32) (kpf r_3 key (nI 92) 64) 0 64 32) 96 32))), (ka, .inl (t 0, 16, .inl key)), (xa, .inl (t 0, xn, .inl tx))]) [2, 3, 4, 5, 6, 1, 0] (by decide) rfl
  rw [cdm_of] at hP9 hD9
  exact ret (r_9, r_10, r_11) _ _ _ _ rfl dX0_makeCode_54 trivial hP9 hD9 hS
end
set_option maxHeartbeats 1000000 in
set_option maxRecDepth 100000 in
/-- makeCode(key, text, bytes) -/
theorem c_X0_makeCode (l : Launch) (D : va_G) (t : Nat → ClassId) (x : Nat → Nat) (h : Nat → Nat) (ka : Nat) (xa : Nat) (k : Nat) (xn : Nat) (len : Int32) (row : Nat → Int32) (wds : Nat → Int32) (sm : Nat → Int32) (cd : Nat → Int32) (key : Nat → Int32) (tx : Nat → Int32) (hcd : fb cd) (htx : fb tx) (hk : k ≤ 183) (hxn : k ≤ xn) (hxm : xn < 2 ^ 31) : Ct l D t x yX0_makeCode wsX0_makeCode r_X0_makeCode [.ref (h 0), .ref ka, .ref xa, .int (nI k)] [(h 0, .inr (0, hO h len)), (h 3, .inl (t 0, 256, .inl row)), (h 4, .inl (t 1, 64, .inl wds)), (h 5, .inl (t 1, 8, .inl sm)), (h 1, .inl (t 0, 32, .inl cd)), (ka, .inl (t 0, 16, .inl key)), (xa, .inl (t 0, xn, .inl tx))] ((Nat → Int32) × (Nat → Int32) × (Nat → Int32)) (fun (u : (Nat → Int32) × (Nat → Int32) × (Nat → Int32)) => True) (fun (u : (Nat → Int32) × (Nat → Int32) × (Nat → Int32)) => none) (fun (u : (Nat → Int32) × (Nat → Int32) × (Nat → Int32)) => [(h 0, .inr (0, hO h (nI 96))), (h 3, .inl (t 0, 256, .inl u.1)), (h 4, .inl (t 1, 64, .inl u.2.1)), (h 5, .inl (t 1, 8, .inl u.2.2)), (h 1, .inl (t 0, 32, .inl (cdm cd key tx k))), (ka, .inl (t 0, 16, .inl key)), (xa, .inl (t 0, xn, .inl tx))]) 0 0 := ct_ofV (by decide) rfl (Nat.le_of_ble_eq_true rfl) rfl (fun p e s m below meth c A ls Q C ret hi9 hl hP hD hS => b_X0_makeCode h ka xa k xn len row wds sm cd key tx hcd htx hk hxn hxm C ret hl hP hD hS)
def r_X3_sameBytes : Room := { frames := 0, cells := 0, slots := 0, locals := 0 }
section
variable {p : Program} {l : Launch} {e : Env} {s : State} {m : MethodId} {args : Array Value} {below : List Frame} {meth : Method} {c : Code} {Q : State → Prop} {D : va_G} {t : Nat → ClassId} {x : Nat → Nat} {A : Nat → Prop}
set_option maxHeartbeats 1000000 in
set_option maxRecDepth 100000 in
theorem lp_X3_sameBytes_3 (oa : Nat) (p1 : Nat) (ra : Nat) (p2 : Nat) (k : Nat) (on : Nat) (rn : Nat) (f : Nat → Int32) (g : Nat → Int32) (h1 : p1 + k ≤ on) (h2 : p2 + k ≤ rn) (h3 : on < 2 ^ 31) (h4 : rn < 2 ^ 31) (C : Cx p s m args c cX3_sameBytes 6 RX3 D t x A) (kx0 : ∀ (i : Nat) (H : Heap) (locs : List Loc) (ls : Array Slot), (i ≤ k) → (sb f p1 g p2 i = true) → (k = i) → va_P D vwCl [(oa, .inl (t 0, on, .inl f)), (ra, .inl (t 0, rn, .inl g))] H → va_D A [(oa, .inl (t 0, on, .inl f)), (ra, .inl (t 0, rn, .inl g))] → va_S A s.heap H locs → lv_has ls 6 [(5, .int (nI i)), (0, .ref oa), (1, .int (nI p1)), (2, .ref ra), (3, .int (nI p2)), (4, .int (nI k))] → W p l e r_X3_sameBytes s m args below meth c H locs 0 0 Q (F0 m 33 ls [])) (kx1 : ∀ (i : Nat) (H : Heap) (locs : List Loc) (ls : Array Slot), (i ≤ k) → (sb f p1 g p2 i = true) → (sb f p1 g p2 k = false) → va_P D vwCl [(oa, .inl (t 0, on, .inl f)), (ra, .inl (t 0, rn, .inl g))] H → va_D A [(oa, .inl (t 0, on, .inl f)), (ra, .inl (t 0, rn, .inl g))] → va_S A s.heap H locs → lv_has ls 6 [(5, .int (nI i)), (0, .ref oa), (1, .int (nI p1)), (2, .ref ra), (3, .int (nI p2)), (4, .int (nI k))] → W p l e r_X3_sameBytes s m args below meth c H locs 0 0 Q (F0 m 25 ls [])) : ∀ (fu : Nat) (i : Nat) (H : Heap) (locs : List Loc) (ls : Array Slot), k - i < fu → (i ≤ k) → (sb f p1 g p2 i = true) → va_P D vwCl [(oa, .inl (t 0, on, .inl f)), (ra, .inl (t 0, rn, .inl g))] H → va_D A [(oa, .inl (t 0, on, .inl f)), (ra, .inl (t 0, rn, .inl g))] → va_S A s.heap H locs → lv_has ls 6 [(5, .int (nI i)), (0, .ref oa), (1, .int (nI p1)), (2, .ref ra), (3, .int (nI p2)), (4, .int (nI k))] → W p l e r_X3_sameBytes s m args below meth c H locs 0 0 Q (F0 m 3 ls []) := by
  obtain ⟨hx, hcb, hml, hown, hts, hK, hA, hX, hN⟩ := id C
  intro fu
  induction fu with
  | zero =>
    intro i H locs ls hz
    exact absurd hz (Nat.not_lt_zero _)
  | succ fu ih =>
    intro i H locs ls hz hi hsb hP hD hS hl
    refine lv_iload hx hcb dX3_sameBytes_3 (lv_at hl 0 rfl) ?_
    refine lv_iload hx hcb dX3_sameBytes_5 (lv_at hl 5 rfl) ?_
    refine q_ge (x := i) (y := k) (tgt := 33) hx hcb (by omega) (by omega) dX3_sameBytes_7 (by decide) (fun c_1 => ?_) (fun c_1 => ?_)
    · exact kx0 i _ _ _ hi hsb (by omega) hP hD hS (lv_sub hl [0, 1, 2, 3, 4, 5] rfl)
    · refine lv_aload_n hx hcb dX3_sameBytes_10 rfl (lv_at hl 1 rfl) ?_
      refine lv_iload_n hx hcb dX3_sameBytes_11 rfl (lv_at hl 2 rfl) ?_
      refine lv_iload hx hcb dX3_sameBytes_12 (lv_at hl 0 rfl) ?_
      refine q_iadd (x := p1) (y := i) hx hcb dX3_sameBytes_14 ?_
      refine q_bald (j := p1 + i) hx hcb hK hP 0 0 rfl rfl (by omega) (by omega) dX3_sameBytes_15 ?_
      refine lv_aload_n hx hcb dX3_sameBytes_16 rfl (lv_at hl 3 rfl) ?_
      refine lv_iload_n hx hcb dX3_sameBytes_17 rfl (lv_at hl 4 rfl) ?_
      refine lv_iload hx hcb dX3_sameBytes_18 (lv_at hl 0 rfl) ?_
      refine q_iadd (x := p2) (y := i) hx hcb dX3_sameBytes_20 ?_
      refine q_bald (j := p2 + i) hx hcb hK hP 1 0 rfl rfl (by omega) (by omega) dX3_sameBytes_21 ?_
      refine lv_icmp_eq (tgt := 27) hx hcb dX3_sameBytes_22 (by decide) (fun c_2 => ?_) (fun c_2 => ?_)
      · refine lv_iinc (v := nI (i + 1)) (lv' := [(5, .int (nI (i + 1))), (0, .ref oa), (1, .int (nI p1)), (2, .ref ra), (3, .int (nI p2)), (4, .int (nI k))]) hx hcb dX3_sameBytes_27 hl (k := 0) rfl (q_inc i 1 rfl) (by decide) rfl (fun ls hl => ?_)
        refine lv_goto (tgt := 3) hx hcb dX3_sameBytes_30 (by decide) ?_
        exact ih (i + 1) _ _ _ (by omega) (by omega) (sb_s hsb c_2) hP hD hS (lv_sub hl [0, 1, 2, 3, 4, 5] rfl)
      · exact kx1 i _ _ _ hi hsb (sb_f (by omega) c_2) hP hD hS (lv_sub hl [0, 1, 2, 3, 4, 5] rfl)
set_option maxHeartbeats 1000000 in
set_option maxRecDepth 100000 in
theorem b_X3_sameBytes (oa : Nat) (p1 : Nat) (ra : Nat) (p2 : Nat) (k : Nat) (on : Nat) (rn : Nat) (f : Nat → Int32) (g : Nat → Int32) (h1 : p1 + k ≤ on) (h2 : p2 + k ≤ rn) (h3 : on < 2 ^ 31) (h4 : rn < 2 ^ 31) {H : Heap} {locs : List Loc} {ls : Array Slot} (C : Cx p s m args c cX3_sameBytes 6 RX3 D t x A) (ret : RtZ p l e r_X3_sameBytes s m args below meth c Q D A cX3_sameBytes (Unit) (fun (_ : Unit) => True) (fun (_ : Unit) => some (.int (bI (sb f p1 g p2 k)))) (fun (_ : Unit) => [(oa, .inl (t 0, on, .inl f)), (ra, .inl (t 0, rn, .inl g))]) 0 0) (hl : lv_has ls 6 [(0, .ref oa), (1, .int (nI p1)), (2, .ref ra), (3, .int (nI p2)), (4, .int (nI k))]) (hP : va_P D vwCl [(oa, .inl (t 0, on, .inl f)), (ra, .inl (t 0, rn, .inl g))] H) (hD : va_D A [(oa, .inl (t 0, on, .inl f)), (ra, .inl (t 0, rn, .inl g))]) (hS : va_S A s.heap H locs) : W p l e r_X3_sameBytes s m args below meth c H locs 0 0 Q (F0 m 0 ls []) := by
  obtain ⟨hx, hcb, hml, hown, hts, hK, hA, hX, hN⟩ := id C
  refine lv_iconst (v := nI 0) hx hcb dX3_sameBytes_0 (by decide) ?_
  refine lv_istore (lv' := [(5, .int (nI 0)), (0, .ref oa), (1, .int (nI p1)), (2, .ref ra), (3, .int (nI p2)), (4, .int (nI k))]) hx hcb dX3_sameBytes_1 hl (by decide) rfl (fun ls hl => ?_)
  refine lp_X3_sameBytes_3 oa p1 ra p2 k on rn f g h1 h2 h3 h4 C (fun i H locs ls hi hsb hie hP hD hS hl => ?_) (fun i H locs ls hi hsb hsf hP hD hS hl => ?_) ((k - 0) + 1) 0 _ _ _ (Nat.lt_succ_self _) (Nat.zero_le _) rfl hP hD hS (lv_sub hl [0, 1, 2, 3, 4, 5] rfl)
  · subst hie
    refine lv_iconst (v := nI 1) hx hcb dX3_sameBytes_33 (by decide) ?_
    have hP9 := hP.sub (ws' := [(oa, .inl (t 0, on, .inl f)), (ra, .inl (t 0, rn, .inl g))]) [0, 1] rfl
    have hD9 := hD.sub (ws' := [(oa, .inl (t 0, on, .inl f)), (ra, .inl (t 0, rn, .inl g))]) [0, 1] (by decide) rfl
    exact ret () _ true _ _ _ _ rfl (by rw [hsb]) dX3_sameBytes_34 trivial hP9 hD9 hS
  · refine lv_iconst (v := nI 0) hx hcb dX3_sameBytes_25 (by decide) ?_
    have hP9 := hP.sub (ws' := [(oa, .inl (t 0, on, .inl f)), (ra, .inl (t 0, rn, .inl g))]) [0, 1] rfl
    have hD9 := hD.sub (ws' := [(oa, .inl (t 0, on, .inl f)), (ra, .inl (t 0, rn, .inl g))]) [0, 1] (by decide) rfl
    exact ret () _ false _ _ _ _ rfl (by rw [hsf]) dX3_sameBytes_26 trivial hP9 hD9 hS
end
set_option maxHeartbeats 1000000 in
set_option maxRecDepth 100000 in
/-- sameBytes(one, oneAt, other, otherAt, bytes) -/
theorem c_X3_sameBytes (l : Launch) (D : va_G) (t : Nat → ClassId) (x : Nat → Nat) (oa : Nat) (p1 : Nat) (ra : Nat) (p2 : Nat) (k : Nat) (on : Nat) (rn : Nat) (f : Nat → Int32) (g : Nat → Int32) (h1 : p1 + k ≤ on) (h2 : p2 + k ≤ rn) (h3 : on < 2 ^ 31) (h4 : rn < 2 ^ 31) : Ct l D t x yX3_sameBytes wsX3_sameBytes r_X3_sameBytes [.ref oa, .int (nI p1), .ref ra, .int (nI p2), .int (nI k)] [(oa, .inl (t 0, on, .inl f)), (ra, .inl (t 0, rn, .inl g))] (Unit) (fun (_ : Unit) => True) (fun (_ : Unit) => some (.int (bI (sb f p1 g p2 k)))) (fun (_ : Unit) => [(oa, .inl (t 0, on, .inl f)), (ra, .inl (t 0, rn, .inl g))]) 0 0 := ct_ofZ (by decide) rfl (Nat.le_of_ble_eq_true rfl) rfl (fun p e s m below meth c A ls Q C ret hl hP hD hS => b_X3_sameBytes oa p1 ra p2 k on rn f g h1 h2 h3 h4 C ret hl hP hD hS)
