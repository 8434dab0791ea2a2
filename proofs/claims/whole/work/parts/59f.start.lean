/-! the start: classes, array classes, statics -/
theorem ty_of {args : Array Value} {s : State} {ty : FieldType} (h : (Cond.arrayClass ty).before args s = true) : ∃ cA : ClassId, ArrOfT s cA ty ∧ s.vm.findClass ("[" ++ ty.toString) = some cA := by
  obtain ⟨cA, kA, comp, hf, hk, hkind⟩ := Cond.arrayClass_spec h
  exact ⟨cA, fun n z => ⟨(fun k h => by cases h), kA, hk, comp, hkind⟩, hf⟩
theorem ty_ob {args : Array Value} {s : State} {C : String} (h : (Cond.arrayOver (.object C)).before args s = true) : ∃ cA : ClassId, ArrOfT s cA (.object C) ∧ va_RA s cA (.object C) := by
  obtain ⟨comp, cA, kA, hcomp, hidx, hkA, hkind, hname⟩ := Cond.arrayOver_spec h
  exact ⟨cA, fun n z => ⟨(fun k h => by cases h), kA, hkA, comp, hkind⟩, kA, comp, hkA, hkind, hcomp, hname⟩
theorem law_classes {args : Array Value} {s : State} (hts : ∀ w ∈ GT, w.before args s = true) : ∃ D : va_G, ∀ (k : Nat) (q : vw_C), vwCl[k]? = some q → u_Kn s q.1 q.2.1 q.2.2 (D.1 k) (D.2 k) := by
  obtain ⟨c0, i0, h0⟩ := u_known (C := RX0) (T := TX0) (N := 6) (n := 6) hts inX0 (hts _ wt_X0)
  obtain ⟨c1, i1, h1⟩ := u_known (C := RX1) (T := TX1) (N := 11) (n := 11) hts inX1 (hts _ wt_X1)
  obtain ⟨c2, i2, h2⟩ := u_known (C := RX2) (T := TX2) (N := 14) (n := 14) hts inX2 (hts _ wt_X2)
  obtain ⟨c3, i3, h3⟩ := u_known (C := RX3) (T := TX3) (N := 12) (n := 12) hts inX3 (hts _ wt_X3)
  obtain ⟨c4, i4, h4⟩ := u_known (C := RX4) (T := TX4) (N := 45) (n := 45) hts inX4 (hts _ wt_X4)
  refine ⟨(fun k => if k = 0 then c0 else if k = 1 then c1 else if k = 2 then c2 else if k = 3 then c3 else c4, fun k => if k = 0 then i0 else if k = 1 then i1 else if k = 2 then i2 else if k = 3 then i3 else i4), ?_⟩
  intro k q hq
  match k, hq with
  | 0, hq => cases hq; exact h0
  | 1, hq => cases hq; exact h1
  | 2, hq => cases hq; exact h2
  | 3, hq => cases hq; exact h3
  | 4, hq => cases hq; exact h4
  | k + 5, hq => simp [vwCl] at hq
theorem law_types {args : Array Value} {s : State} (hts : ∀ w ∈ GT, w.before args s = true) (hS : (Cond.arrayOver (.object "ScrollTown$Scroll")).before args s = true) (hM : (Cond.arrayOver (.object "ScrollTown$Meter")).before args s = true) : ∃ t : Nat → ClassId, ∀ (k : Nat) (q : ClassId × FieldType), (tyl t)[k]? = some q → ArrOfT s q.1 q.2 ∧ va_RA s q.1 q.2 := by
  obtain ⟨c0, h0⟩ := ty_of (hts _ wa_byte)
  obtain ⟨c1, h1⟩ := ty_of (hts _ wa_int)
  obtain ⟨c2, h2⟩ := ty_of (hts _ wa_long)
  obtain ⟨c3, h3⟩ := ty_of (hts _ wa_boolean)
  obtain ⟨c4, h4⟩ := ty_ob hS
  obtain ⟨c5, h5⟩ := ty_ob hM
  refine ⟨fun k => if k = 0 then c0 else if k = 1 then c1 else if k = 2 then c2 else if k = 3 then c3 else if k = 4 then c4 else c5, ?_⟩
  intro k q hq
  match k, hq with
  | 0, hq => cases hq; exact h0
  | 1, hq => cases hq; exact h1
  | 2, hq => cases hq; exact h2
  | 3, hq => cases hq; exact h3
  | 4, hq => cases hq; exact h4
  | 5, hq => cases hq; exact h5
  | k + 6, hq => simp [tyl] at hq
theorem sq_in : ∀ j, j < 8 → Cond.eq (.elem (.static "ScrollTown$Hash" "SQUARE_ROOTS" "[I") (.int (Int32.ofNat j))) (.int (k_sq j)) ∈ flatC (Jvm.Cond.and given_1 narrow_1) := by decide +kernel
theorem cu_in : ∀ j, j < 64 → Cond.eq (.elem (.static "ScrollTown$Hash" "CUBE_ROOTS" "[I") (.int (Int32.ofNat j))) (.int (k_cu j)) ∈ flatC (Jvm.Cond.and given_1 narrow_1) := by decide +kernel
theorem law_statics {b : Nat} {s : State} (hts : ∀ w ∈ GT, w.before #[Value.ref b] s = true) (hgv : (Jvm.Cond.and given_1 narrow_1).before #[Value.ref b] s = true) (ls0 : (Cond.laysStatic "ScrollTown$Hash" "SQUARE_ROOTS" "[I").before #[Value.ref b] s = true) (ls1 : (Cond.laysStatic "ScrollTown$Hash" "CUBE_ROOTS" "[I").before #[Value.ref b] s = true) : ∃ x : Nat → Nat, xt x (fun q : Nat => s.heap.size ≤ q) s s.heap := by
  have hq := flat_of_before _ hgv
  have hA : ∀ a : Nat, a < s.heap.size → ¬ (fun q : Nat => s.heap.size ≤ q) a := fun a h => Nat.not_le.mpr h
  obtain ⟨t0, e0, T0⟩ := va_Tof (tm := .static "ScrollTown$Hash" "SQUARE_ROOTS" "[I") (ty := .int) (N := 8) (f := fun j => .int (k_sq j)) (by decide) (hq (.arrayOf (.static "ScrollTown$Hash" "SQUARE_ROOTS" "[I") .int) (by decide +kernel)) (va_eqt (hq (.eq (.length (.static "ScrollTown$Hash" "SQUARE_ROOTS" "[I")) (.int 8)) (by decide +kernel))) (fun j hj => va_eqt (hq _ (sq_in j hj))) hA
  obtain ⟨t1, e1, T1⟩ := va_Tof (tm := .static "ScrollTown$Hash" "CUBE_ROOTS" "[I") (ty := .int) (N := 64) (f := fun j => .int (k_cu j)) (by decide) (hq (.arrayOf (.static "ScrollTown$Hash" "CUBE_ROOTS" "[I") .int) (by decide +kernel)) (va_eqt (hq (.eq (.length (.static "ScrollTown$Hash" "CUBE_ROOTS" "[I")) (.int 64)) (by decide +kernel))) (fun j hj => va_eqt (hq _ (cu_in j hj))) hA
  exact ⟨fun k => if k = 0 then t0 else t1, ⟨va_Zref ls0 (hts _ wz_X0) e0 hA, T0⟩, ⟨va_Zref ls1 (hts _ wz_X0) e1 hA, T1⟩⟩
set_option maxHeartbeats 1000000 in
set_option maxRecDepth 100000 in
/-- THE LAW, from its entry -/
theorem whole_start {p : Program} {e : Env} {s : State} {m : MethodId} {below : List Frame} {meth : Method} {c : Code} (l : Launch) {b L : Nat} {xs : Nat → Int32} (hL : L ≤ 4096) (C0 : lw_At p s m meth c b L xs) : W p l e room_1 s m #[Value.ref b] below meth c s.heap [] 0 0 (lw_Z below #[Value.ref b] s) (entryFrame m ([Value.ref b] : List Value).toArray 4) := by
  obtain ⟨hx, hcb, hr, hml, hown, hts0, hX, hbl, hlocks, hgv⟩ := id C0
  have hts : ∀ w ∈ GT, w.before #[Value.ref b] s = true := fun w hw => hts0 w (List.mem_filter.mp hw).1
  have hA : ∀ q : Nat, s.heap.size ≤ q → (fun q : Nat => s.heap.size ≤ q) q := fun _ h => h
  have hSc : (Cond.arrayOver (.object "ScrollTown$Scroll")).before #[Value.ref b] s = true := (hts0 _ (List.mem_append_right _ (List.mem_of_getElem? (i := 49) rfl)))
  have hMe : (Cond.arrayOver (.object "ScrollTown$Meter")).before #[Value.ref b] s = true := (hts0 _ (List.mem_append_right _ (List.mem_of_getElem? (i := 51) rfl)))
  obtain ⟨D, hKc⟩ := law_classes hts
  obtain ⟨t, hKt⟩ := law_types hts hSc hMe
  obtain ⟨x, hXt⟩ := law_statics hts hgv (hts0 _ (List.mem_append_right _ (List.mem_of_getElem? (i := 23) rfl))) (hts0 _ (List.mem_append_right _ (List.mem_of_getElem? (i := 271) rfl)))
  have hN : nw s := ⟨va_Nw.of rfl (hts0 _ (List.mem_append_right _ (List.mem_of_getElem? (i := 248) rfl))), va_Nw.of rfl (hts0 _ (List.mem_append_right _ (List.mem_of_getElem? (i := 286) rfl))), va_Nw.of rfl (hts0 _ (List.mem_append_right _ (List.mem_of_getElem? (i := 330) rfl))), va_Nw.of rfl (hts0 _ (List.mem_append_right _ (List.mem_of_getElem? (i := 367) rfl))), va_Nw.of rfl (hts0 _ (List.mem_append_right _ (List.mem_of_getElem? (i := 391) rfl))), va_AO.of hSc, va_AO.of hMe⟩
  have C : Cx p s m #[Value.ref b] c code 4 RL D t x (fun q : Nat => s.heap.size ≤ q) := ⟨hx, hcb, hml, hown, hts, ⟨hKc, hKt⟩, hA, hXt, hN⟩
  have hK : va_K D vwCl (tyl t) s := ⟨hKc, hKt⟩
  have hS : va_S (fun q : Nat => s.heap.size ≤ q) s.heap s.heap [] := va_S.rf
  have hP : va_P D vwCl [] s.heap := fun k q h => by simp at h
  have hD : va_D (fun q : Nat => s.heap.size ≤ q) [] := ⟨fun i j p q h => by simp at h, fun k q h => by simp at h⟩
  have hl := lv_entry ([.ref b]) (n := 4) (Nat.le_of_ble_eq_true rfl)
  rw [lg_entry_eq]
  generalize (lg_sl ([.ref b]) ++ List.replicate (4 - (lg_sl ([.ref b])).length) Slot.unset).toArray = ls at hl ⊢
  have hl : lv_has ls 4 [(0, .ref b)] := hl
  refine va_new (ci := 3) (fs := dfX3) (C := RX3) (T := TX3) (N := 12) hx hcb hts inX3 tyX3 tyX3_ok hown (hts _ wl_L_7) (hts _ wt_X3) (hts _ wz_X3) hK hP hD hS hA rfl dfX3_ok (Nat.le_of_ble_eq_true rfl) (Nat.le_of_ble_eq_true rfl) dL_law_0 (fun q H hP hD hS => ?_)
  refine lv_dup hx hcb dL_law_3 rfl ?_
  have hP : va_P D vwCl [(q, .inr (3, dfX3))] H := hP
  have hD : va_D (fun q : Nat => s.heap.size ≤ q) [(q, .inr (3, dfX3))] := hD
  refine W.widen (k := 1) (n := 12) (by omega) (by omega) ?_
  refine ct_callIW (As := []) (rest := [.ref q]) C (c_X3_init l D t x q) (cwI 0 hts (gt_code wc_X3_init) rfl rfl rfl (hts _ wz_X3) (hts _ wm_L_9) (hts _ wi_yX3_init) rfl (by decide +kernel) ⟨Nat.le_of_ble_eq_true rfl, Nat.le_of_ble_eq_true rfl⟩) hP hD hS rfl hl.1 rfl (Nat.le_of_ble_eq_true rfl) dL_law_4 ⟨Nat.le_of_ble_eq_true rfl, Nat.le_of_ble_eq_true rfl⟩ (fun u H locs hu hP hD hS => ?_)
  obtain ⟨T, h, mq, ma⟩ := u
  obtain ⟨e0, hma⟩ := hu
  dsimp only at e0 hma
  have hP1 : va_P D vwCl (cW t T h mq ma j0C r0) H := go_c0.2 H hP
  have hD1 : va_D (fun q : Nat => s.heap.size ≤ q) (cW t T h mq ma j0C r0) := (go_c0 (D := D)).D hD
  have hS1 := hS
  subst q
  have hP := hP1
  have hD := hD1
  have hS := hS1
  refine W.eq (g2 := F0 m 7 ls [.ref (T 0)]) rfl ?_
  refine W.widen (k := 77) (n := 3898) (by omega) (by omega) ?_
  refine lv_astore_n (lv' := [(1, .ref (T 0)), (0, .ref b)]) hx hcb dL_law_7 rfl hl (by decide) rfl (fun ls hl => ?_)
  refine va_new (ci := 4) (fs := dfX4) (C := RX4) (T := TX4) (N := 45) hx hcb hts inX4 tyX4 tyX4_ok hown (hts _ wl_L_10) (hts _ wt_X4) (hts _ wz_X4) hK hP hD hS hA rfl dfX4_ok (Nat.le_of_ble_eq_true rfl) (Nat.le_of_ble_eq_true rfl) dL_law_8 (fun q H hP hD hS => ?_)
  refine lv_dup hx hcb dL_law_11 rfl ?_
  refine W.widen (k := 78) (n := 3943) (by omega) (by omega) ?_
  refine ct_callIW (As := []) (rest := [.ref q]) C (ct_frL (wr := cW t T h mq ma j0C r0) (c_X4_init l D t x q)) (cwI 0 hts (gt_code wc_X4_init) rfl rfl rfl (hts _ wz_X4) (hts _ wm_L_12) (hts _ wi_yX4_init) rfl (by decide +kernel) ⟨Nat.le_of_ble_eq_true rfl, Nat.le_of_ble_eq_true rfl⟩) hP hD hS rfl hl.1 rfl (Nat.le_of_ble_eq_true rfl) dL_law_12 ⟨Nat.le_of_ble_eq_true rfl, Nat.le_of_ble_eq_true rfl⟩ (fun a H locs hu hP hD hS => ?_)
  have hu : a 0 = q := hu
  have hP1 : va_P D vwCl (cW t T h mq ma j0C r0 ++ rW t a j0R r0) H := hP
  have hD1 : va_D (fun q : Nat => s.heap.size ≤ q) (cW t T h mq ma j0C r0 ++ rW t a j0R r0) := hD
  have hS1 := hS
  subst q
  have hP := hP1
  have hD := hD1
  have hS := hS1
  refine W.eq (g2 := F0 m 15 ls [.ref (a 0)]) rfl ?_
  refine W.widen (k := 113) (n := 8307) (by omega) (by omega) ?_
  refine lv_astore_n (lv' := [(2, .ref (a 0)), (1, .ref (T 0)), (0, .ref b)]) hx hcb dL_law_15 rfl hl (by decide) rfl (fun ls hl => ?_)
  refine lv_iconst (v := nI 0) hx hcb dL_law_16 (by decide) ?_
  refine lv_istore_n (lv' := [(3, .int (nI 0)), (2, .ref (a 0)), (1, .ref (T 0)), (0, .ref b)]) hx hcb dL_law_17 rfl hl (by decide) rfl (fun ls hl => ?_)
  exact law_loop hL C0 C hma (L + 1) 0 r0 j0C j0R 113 8307 H locs ls (by omega) (Nat.zero_le _) (Nat.zero_le _) rfl rfl ok_0 okC_0 okR_0 hP hD hS (lv_sub hl [3, 2, 1, 0] rfl)
