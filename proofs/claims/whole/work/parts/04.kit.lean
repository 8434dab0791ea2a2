/-! THE FORM OF A CONTRACT HERE (Ct), its start, its ends, its calls; the kit's rows turned to numbers (nI) -/
def bI (b : Bool) : Int32 := if b then 1 else 0
theorem bI_0 {b : Bool} : bI b = 0 ↔ b = false := by cases b <;> decide
theorem bI_1 {b : Bool} : bI b = 1 ↔ b = true := by cases b <;> decide
theorem bI_nar (b : Bool) : narrow .boolean (.int (bI b)) = .int (bI b) := by cases b <;> rfl
def bx (x : Int32) : Int32 := x.toInt8.toInt32
theorem bx_bx (x : Int32) : bx (bx x) = bx x := by unfold bx; rw [Int8.toInt8_toInt32]
def fb (f : Nat → Int32) : Prop := ∀ j, bx (f j) = f j
theorem fb_fit {f : Nat → Int32} (h : fb f) (j : Nat) : fits .byte (.int (f j)) = true := by rw [← h j]; exact pk_fb (f j)
/-- the array classes -/
abbrev tyl (t : Nat → ClassId) : List (ClassId × FieldType) := [(t 0, .byte), (t 1, .int), (t 2, .long), (t 3, .boolean), (t 4, .object "ScrollTown$Scroll"), (t 5, .object "ScrollTown$Meter")]
/-- the two tables of SHA-256 -/
def k_sqL : List Int32 := [0x6a09e667, 0xbb67ae85, 0x3c6ef372, 0xa54ff53a, 0x510e527f, 0x9b05688c, 0x1f83d9ab, 0x5be0cd19]
def k_cuL : List Int32 := [0x428a2f98, 0x71374491, 0xb5c0fbcf, 0xe9b5dba5, 0x3956c25b, 0x59f111f1, 0x923f82a4, 0xab1c5ed5,
  0xd807aa98, 0x12835b01, 0x243185be, 0x550c7dc3, 0x72be5d74, 0x80deb1fe, 0x9bdc06a7, 0xc19bf174,
  0xe49b69c1, 0xefbe4786, 0x0fc19dc6, 0x240ca1cc, 0x2de92c6f, 0x4a7484aa, 0x5cb0a9dc, 0x76f988da,
  0x983e5152, 0xa831c66d, 0xb00327c8, 0xbf597fc7, 0xc6e00bf3, 0xd5a79147, 0x06ca6351, 0x14292967,
  0x27b70a85, 0x2e1b2138, 0x4d2c6dfc, 0x53380d13, 0x650a7354, 0x766a0abb, 0x81c2c92e, 0x92722c85,
  0xa2bfe8a1, 0xa81a664b, 0xc24b8b70, 0xc76c51a3, 0xd192e819, 0xd6990624, 0xf40e3585, 0x106aa070,
  0x19a4c116, 0x1e376c08, 0x2748774c, 0x34b0bcb5, 0x391c0cb3, 0x4ed8aa4a, 0x5b9cca4f, 0x682e6ff3,
  0x748f82ee, 0x78a5636f, 0x84c87814, 0x8cc70208, 0x90befffa, 0xa4506ceb, 0xbef9a3f7, 0xc67178f2]
def k_sq (j : Nat) : Int32 := k_sqL.getD j 0
def k_cu (j : Nat) : Int32 := k_cuL.getD j 0
/-- the statics, at x 0 and x 1 -/
def xt (x : Nat → Nat) (A : Nat → Prop) (U : State) (H : Heap) : Prop :=
  (va_Z "ScrollTown$Hash" "SQUARE_ROOTS" "[I" (.ref (x 0)) A U H ∧ va_T .int (x 0) 8 (fun j => .int (k_sq j)) A U H) ∧ (va_Z "ScrollTown$Hash" "CUBE_ROOTS" "[I" (.ref (x 1)) A U H ∧ va_T .int (x 1) 64 (fun j => .int (k_cu j)) A U H)
theorem xt.moved {x : Nat → Nat} {A : Nat → Prop} {u U : State} {H : Heap} (hvm : u.vm.Alike U.vm) (h : xt x A u H) : xt x A U H := ⟨⟨h.1.1.moved hvm, h.1.2.moved hvm⟩, ⟨h.2.1.moved hvm, h.2.2.moved hvm⟩⟩
theorem xt.kept {x : Nat → Nat} {A : Nat → Prop} {U : State} {H H1 : Heap} (h : xt x A U H) (hq : ∀ a : Nat, a < H.size → ¬ A a → H1[a]? = H[a]?) : xt x A U H1 := ⟨⟨h.1.1.kept hq, h.1.2.kept hq⟩, ⟨h.2.1.kept hq, h.2.2.kept hq⟩⟩
theorem xt.narrow {x : Nat → Nat} {A B : Nat → Prop} {U : State} {H : Heap} (h : xt x A U H) (hAB : ∀ q, B q → A q) : xt x B U H := ⟨⟨h.1.1.narrow hAB, h.1.2.narrow hAB⟩, ⟨h.2.1.narrow hAB, h.2.2.narrow hAB⟩⟩
/-- what the walks carry of the tables beside the good words: the nest mates' links, the array classes over Scroll and Meter -/
def nw (U : State) : Prop := va_Nw (.methodLinkNest RX0 53 yX3_writeNumber RX3) U ∧ va_Nw (.methodLinkNest RX2 69 yX3_writeNumber RX3) U ∧ va_Nw (.methodLinkNest RX1 74 yX3_sameBytes RX3) U ∧ va_Nw (.methodLinkNest RX2 44 yX3_isWithin RX3) U ∧ va_Nw (.methodLinkNest RX1 86 yX3_isWithin RX3) U ∧ va_AO "ScrollTown$Scroll" U ∧ va_AO "ScrollTown$Meter" U
theorem nw.same {u U : State} (h : u.vm = U.vm) (q : nw u) : nw U := ⟨va_Nw.same rfl h q.1, va_Nw.same rfl h q.2.1, va_Nw.same rfl h q.2.2.1, va_Nw.same rfl h q.2.2.2.1, va_Nw.same rfl h q.2.2.2.2.1, va_AO.moved (h ▸ Vm.Alike.refl u.vm) q.2.2.2.2.2.1, va_AO.moved (h ▸ Vm.Alike.refl u.vm) q.2.2.2.2.2.2⟩
theorem nw.warm {s U : State} (hW : s.WarmedH U.vm) (q : nw s) : nw U := ⟨va_Nw.warmM hW q.1, va_Nw.warmM hW q.2.1, va_Nw.warmM hW q.2.2.1, va_Nw.warmM hW q.2.2.2.1, va_Nw.warmM hW q.2.2.2.2.1, va_AO.moved hW.alike q.2.2.2.2.2.1, va_AO.moved hW.alike q.2.2.2.2.2.2⟩
def CtP (D : va_G) (t : Nat → ClassId) (x : Nat → Nat) (as : List Value) (wc : va_W) (sz : Nat) : Array Value → State → Prop :=
  va_Pc as (fun U => U.heap.size = sz ∧ va_P D vwCl wc U.heap ∧ va_K D vwCl (tyl t) U ∧ va_D (fun _ => True) wc ∧ xt x (va_A wc sz) U U.heap ∧ nw U)
def CtQ (D : va_G) (S : Type) (pst : S → Prop) (res : S → Option Value) (w1 : S → va_W) (A : Nat → Prop) : Array Value → State → Outcome → State → Prop :=
  fun _ st oc tt => (∃ u : S, oc = .returned (res u) ∧ pst u ∧ va_P D vwCl (w1 u) tt.heap ∧ va_D A (w1 u)) ∧ va_F A st tt
/-- THE CONTRACT: with the arguments as, over the cells wc, the method comes to the cells w1 u and answers res u, for some u with pst u -/
def Ct (l : Launch) (D : va_G) (t : Nat → ClassId) (x : Nat → Nat) (y : MethodName) (ws : List Cond) (rm : Room) (as : List Value) (wc : va_W) (S : Type) (pst : S → Prop) (res : S → Option Value) (w1 : S → va_W) (mc ms : Nat) : Prop :=
  ∀ sz : Nat, Met l y ws rm (CtP D t x as wc sz) (CtQ D S pst res w1 (va_A wc sz)) mc ms (va_A wc sz)
/-- what a walk has at hand -/
def Cx (p : Program) (s : State) (m : MethodId) (args : Array Value) (c : Code) (cc : ByteArray) (nL : Nat) (own : String) (D : va_G) (t : Nat → ClassId) (x : Nat → Nat) (A : Nat → Prop) : Prop :=
  p.tables.exec = Jvm.exec ∧ c.code = cc ∧ c.maxLocals = nL ∧ s.vm.findClass own = some m.cls ∧ (∀ w ∈ GT, w.before args s = true) ∧ va_K D vwCl (tyl t) s ∧ (∀ q : Nat, s.heap.size ≤ q → A q) ∧ xt x A s s.heap ∧ nw s
theorem ct_blind {D : va_G} {t : Nat → ClassId} {x : Nat → Nat} {as : List Value} {wc : va_W} {sz : Nat} : FrameBlind (CtP D t x as wc sz) := fun a U g mk q =>
  ⟨q.1, q.2.1, q.2.2.1, va_K.moved (u := U) (U := U.calling g mk a) (Vm.Alike.refl U.vm) q.2.2.2.1, q.2.2.2.2.1, xt.moved (u := U) (U := U.calling g mk a) (Vm.Alike.refl U.vm) q.2.2.2.2.2.1, nw.same (u := U) (U := U.calling g mk a) rfl q.2.2.2.2.2.2⟩
theorem cut_at {ww wc : va_W} {isC : List Nat} (hC : isC.map (fun i => ww[i]?) = wc.map some) (k : Nat) (q : Nat × va_E) (hq : wc[k]? = some q) : ∃ i, isC[k]? = some i ∧ ww[i]? = some q := by
  have h1 : (isC.map (fun i => ww[i]?))[k]? = some (some q) := by rw [hC, List.getElem?_map, hq]; rfl
  rw [List.getElem?_map] at h1
  cases hi : isC[k]? with
  | none => rw [hi] at h1; cases h1
  | some i => rw [hi] at h1; exact ⟨i, rfl, Option.some.inj h1⟩
theorem cut_P {D : va_G} {cl : List vw_C} {ww wc : va_W} {H : Heap} (h : va_P D cl ww H) {isC : List Nat} (hC : isC.map (fun i => ww[i]?) = wc.map some) : va_P D cl wc H := fun k q hq => by
  obtain ⟨i, -, hi⟩ := cut_at hC k q hq
  exact h i q hi
section QC
variable {p : Program} {l : Launch} {e : Env} {R : Room} {s : State} {m : MethodId} {args : Array Value} {below : List Frame} {meth : Method} {c : Code} {H : Heap} {locs : List Loc} {cells slots : Nat} {Q : State → Prop}
variable {cc : ByteArray} {pc nL : Nat} {ls : Array Slot} {rest st0 : List Value} {D : va_G} {t : Nat → ClassId} {x : Nat → Nat} {A : Nat → Prop} {own : String}
variable {y : MethodName} {ws ws' : List Cond} {rm : Room} {as As : List Value} {wc wr ww : va_W} {S : Type} {pst : S → Prop} {res : S → Option Value} {w1 : S → va_W} {mc ms : Nat} {bytes : ByteArray} {maxL n index : Nat} {ret : Option FieldType}
theorem ct_pre (C : Cx p s m args c cc nL own D t x A) (hP : va_P D vwCl ww H) (hD : va_D A ww) (hS : va_S A s.heap H locs) (isC : List Nat) (hC : isC.map (fun i => ww[i]?) = wc.map some) (hn : va_nd isC = true) (U : State) (hU : U.heap = H) (hW : s.WarmedH U.vm) : CtP D t x as wc H.size as.toArray U := by
  obtain ⟨hx, hb, hml, hown, hts, hK, hA, hX, hN⟩ := C
  have hF := va_free (wc := wc) hD hS hA isC hC
  have hX1 : xt x A s H := hX.kept (fun a h1 h2 => hS.2.1 a h1 h2)
  refine ⟨rfl, by rw [hU], by rw [hU]; exact cut_P hP hC, va_K.moved hW.alike hK, (hD.sub isC hn hC).weaken (fun _ _ _ _ => trivial), ?_, nw.warm hW hN⟩
  rw [hU]
  exact (hX1.narrow hF).moved hW.alike
theorem ct_core {a : Array Value} (hr : va_Run p l e R s m args below meth c H locs cells slots mc ms (F0 m pc ls st0) rest (CtQ D S pst res w1 (va_A wc H.size) a) (va_A wc H.size)) (hP : va_P D vwCl ww H) (hD : va_D A ww) (hS : va_S A s.heap H locs) (hA : ∀ q : Nat, s.heap.size ≤ q → A q) (isC isR : List Nat) (hC : isC.map (fun i => ww[i]?) = wc.map some) (hR : isR.map (fun i => ww[i]?) = wr.map some) (hn : va_nd isR = true) (hdis : ∀ i ∈ isR, i ∉ isC)
    (kk : ∀ (u : S) (H1 : Heap) (locs1 : List Loc), pst u → va_P D vwCl (wr ++ w1 u) H1 → va_D A (wr ++ w1 u) → va_S A s.heap H1 locs1 → W p l e R s m args below meth c H1 locs1 (cells + mc) (slots + ms) Q (F0 m (pc + 3) ls ((res u).toList ++ rest))) : W p l e R s m args below meth c H locs cells slots Q (F0 m pc ls st0) := by
  have hF := va_free (wc := wc) hD hS hA isC hC
  intro T hT X
  obtain ⟨v, st₀, t', T', L, h0, X', hL, e1, e2, ⟨⟨u, hv, hp, hP1, hD1⟩, hz, hk⟩, st⟩ := hr T hT X
  have hv' : v = res u := by cases hv; rfl
  subst hv'
  rw [h0] at hz hk
  rw [← e1] at hz hP1
  have hk' : ∀ q : Nat, q < H.size → ¬ va_A wc H.size q → T'.heap[q]? = H[q]? := fun q h1 h2 => by rw [e1]; exact hk q h1 h2
  obtain ⟨hP2, hD2⟩ := va_join (H1 := T'.heap) hP hD isC isR hC hR hn hdis hk' hF hP1 hD1
  obtain ⟨t2, a1, b1⟩ := kk u T'.heap (locs ++ L) hp hP2 hD2
    ⟨Nat.le_trans hS.1 hz, fun q h1 h2 => by rw [hk' q (Nat.lt_of_lt_of_le h1 hS.1) (fun z => h2 (hF q z))]; exact hS.2.1 q h1 h2, fun q hq => by
      rcases List.mem_append.mp hq with h | h
      · exact hS.2.2 q h
      · exact hF _ (hL q h)⟩ T' rfl X'
  exact ⟨t2, st t2 a1, b1⟩
theorem ct_callS (C : Cx p s m args c cc nL own D t x A) (hM : Ct l D t x y ws rm as wc S pst res w1 mc ms) (cw : CallB R s args own index y bytes maxL ret ws rm mc ms n ∧ (Cond.static y).before args s = true) (hP : va_P D vwCl ww H) (hD : va_D A ww) (hS : va_S A s.heap H locs) (isC isR : List Nat) (hC : isC.map (fun i => ww[i]?) = wc.map some) (hnC : va_nd isC = true) (hR : isR.map (fun i => ww[i]?) = wr.map some) (hn : va_nd isR = true) (hdis : ∀ i ∈ isR, i ∉ isC) (hln : as.length = n) (hls : ls.size = nL) (hst : st0 = as.reverse ++ rest) (hW : (rest.map fun v => v.category).sum ≤ 8) (hdg : decode cc pc = .ok (.invokestatic index, 3)) (hf : cells + mc ≤ R.cells ∧ slots + ms ≤ R.slots)
    (kk : ∀ (u : S) (H1 : Heap) (locs1 : List Loc), pst u → va_P D vwCl (wr ++ w1 u) H1 → va_D A (wr ++ w1 u) → va_S A s.heap H1 locs1 → W p l e R s m args below meth c H1 locs1 (cells + mc) (slots + ms) Q (F0 m (pc + 3) ls ((res u).toList ++ rest))) : W p l e R s m args below meth c H locs cells slots Q (F0 m pc ls st0) := by
  obtain ⟨hx, hb, hml, hown, hts, hK, hA, hX, hN⟩ := id C
  exact ct_core (va_runS (As := as) (rest := rest) ⟨hx, hb, hml, hown, hts⟩ (hM H.size) cw ⟨ct_blind, fun U hU hW => ct_pre C hP hD hS isC hC hnC U hU hW⟩ rfl hln hls hst (lv_room hW) hdg hf) hP hD hS hA isC isR hC hR hn hdis kk
theorem ct_callSN {host : String} (C : Cx p s m args c cc nL own D t x A) (hM : Ct l D t x y ws rm as wc S pst res w1 mc ms) (cw : va_CN R s args own index y host bytes maxL ret ws rm mc ms n ∧ (Cond.static y).before args s = true ∧ True) (hP : va_P D vwCl ww H) (hD : va_D A ww) (hS : va_S A s.heap H locs) (isC isR : List Nat) (hC : isC.map (fun i => ww[i]?) = wc.map some) (hnC : va_nd isC = true) (hR : isR.map (fun i => ww[i]?) = wr.map some) (hn : va_nd isR = true) (hdis : ∀ i ∈ isR, i ∉ isC) (hln : as.length = n) (hls : ls.size = nL) (hst : st0 = as.reverse ++ rest) (hW : (rest.map fun v => v.category).sum ≤ 8) (hdg : decode cc pc = .ok (.invokestatic index, 3)) (hf : cells + mc ≤ R.cells ∧ slots + ms ≤ R.slots)
    (kk : ∀ (u : S) (H1 : Heap) (locs1 : List Loc), pst u → va_P D vwCl (wr ++ w1 u) H1 → va_D A (wr ++ w1 u) → va_S A s.heap H1 locs1 → W p l e R s m args below meth c H1 locs1 (cells + mc) (slots + ms) Q (F0 m (pc + 3) ls ((res u).toList ++ rest))) : W p l e R s m args below meth c H locs cells slots Q (F0 m pc ls st0) := by
  obtain ⟨hx, hb, hml, hown, hts, hK, hA, hX, hN⟩ := id C
  exact ct_core (va_runSN (As := as) (rest := rest) ⟨hx, hb, hml, hown, hts⟩ (hM H.size) cw ⟨ct_blind, fun U hU hW => ct_pre C hP hD hS isC hC hnC U hU hW⟩ rfl hln hls hst (lv_room hW) hdg hf) hP hD hS hA isC isR hC hR hn hdis kk
theorem ct_callV {b q0 ci : Nat} {qc : vw_C} {fs : List Value} {K : String} (C : Cx p s m args c cc nL own D t x A) (hM : Ct l D t x y ws rm (.ref b :: As) wc S pst res w1 mc ms) (cw : CallW R s args own K index y bytes maxL ret ws rm mc ms n) (hK1 : qc.1 = K) (hcl : vwCl[ci]? = some qc) (hself : ww[q0]? = some (b, .inr (ci, fs))) (hP : va_P D vwCl ww H) (hD : va_D A ww) (hS : va_S A s.heap H locs) (isC isR : List Nat) (hC : isC.map (fun i => ww[i]?) = wc.map some) (hnC : va_nd isC = true) (hR : isR.map (fun i => ww[i]?) = wr.map some) (hn : va_nd isR = true) (hdis : ∀ i ∈ isR, i ∉ isC) (hln : As.length = n) (hls : ls.size = nL) (hst : st0 = As.reverse ++ .ref b :: rest) (hW : (rest.map fun v => v.category).sum ≤ 8) (hdg : decode cc pc = .ok (.invokevirtual index, 3)) (hf : cells + mc ≤ R.cells ∧ slots + ms ≤ R.slots)
    (kk : ∀ (u : S) (H1 : Heap) (locs1 : List Loc), pst u → va_P D vwCl (wr ++ w1 u) H1 → va_D A (wr ++ w1 u) → va_S A s.heap H1 locs1 → W p l e R s m args below meth c H1 locs1 (cells + mc) (slots + ms) Q (F0 m (pc + 3) ls ((res u).toList ++ rest))) : W p l e R s m args below meth c H locs cells slots Q (F0 m pc ls st0) := by
  obtain ⟨hx, hb, hml, hown, hts, hK, hA, hX, hN⟩ := id C
  subst hK1
  exact ct_core (va_runV (As := As) (rest := rest) ⟨hx, hb, hml, hown, hts⟩ (hM H.size) cw ⟨ct_blind, va_recv hK hP hcl hself, fun U hU hW => ct_pre C hP hD hS isC hC hnC U hU hW⟩ rfl hln hls hst (lv_room hW) hdg hf) hP hD hS hA isC isR hC hR hn hdis kk
theorem ct_callI {b : Nat} (C : Cx p s m args c cc nL own D t x A) (hM : Ct l D t x y ws rm (.ref b :: As) wc S pst res w1 mc ms) (cw : CallB R s args own index y bytes maxL none ws rm mc ms n ∧ y.name = "<init>" ∧ (Cond.instanceMethod y).before args s = true) (hP : va_P D vwCl ww H) (hD : va_D A ww) (hS : va_S A s.heap H locs) (isC isR : List Nat) (hC : isC.map (fun i => ww[i]?) = wc.map some) (hnC : va_nd isC = true) (hR : isR.map (fun i => ww[i]?) = wr.map some) (hn : va_nd isR = true) (hdis : ∀ i ∈ isR, i ∉ isC) (hln : As.length = n) (hls : ls.size = nL) (hst : st0 = As.reverse ++ .ref b :: rest) (hW : (rest.map fun v => v.category).sum ≤ 8) (hdg : decode cc pc = .ok (.invokespecial index, 3)) (hf : cells + mc ≤ R.cells ∧ slots + ms ≤ R.slots)
    (kk : ∀ (u : S) (H1 : Heap) (locs1 : List Loc), pst u → va_P D vwCl (wr ++ w1 u) H1 → va_D A (wr ++ w1 u) → va_S A s.heap H1 locs1 → W p l e R s m args below meth c H1 locs1 (cells + mc) (slots + ms) Q (F0 m (pc + 3) ls ((res u).toList ++ rest))) : W p l e R s m args below meth c H locs cells slots Q (F0 m pc ls st0) := by
  obtain ⟨hx, hb, hml, hown, hts, hK, hA, hX, hN⟩ := id C
  exact ct_core (va_runI (As := As) (rest := rest) ⟨hx, hb, hml, hown, hts⟩ (hM H.size) cw ⟨ct_blind, fun U hU hW => ct_pre C hP hD hS isC hC hnC U hU hW⟩ rfl hln hls hst (lv_room hW) hdg hf) hP hD hS hA isC isR hC hR hn hdis kk
/-- the ends -/
def RtI (p : Program) (l : Launch) (e : Env) (R : Room) (s : State) (m : MethodId) (args : Array Value) (below : List Frame) (meth : Method) (c : Code) (Q : State → Prop) (D : va_G) (A : Nat → Prop) (cc : ByteArray) (S : Type) (pst : S → Prop) (res : S → Option Value) (w1 : S → va_W) (mc ms : Nat) : Prop :=
  ∀ (u : S) (v : Int32) (H : Heap) (locs : List Loc) (pc : Nat) (ls : Array Slot), res u = some (.int v) → decode cc pc = .ok (.ireturn, 1) → pst u → va_P D vwCl (w1 u) H → va_D A (w1 u) → va_S A s.heap H locs → W p l e R s m args below meth c H locs mc ms Q (F0 m pc ls [.int v])
def RtZ (p : Program) (l : Launch) (e : Env) (R : Room) (s : State) (m : MethodId) (args : Array Value) (below : List Frame) (meth : Method) (c : Code) (Q : State → Prop) (D : va_G) (A : Nat → Prop) (cc : ByteArray) (S : Type) (pst : S → Prop) (res : S → Option Value) (w1 : S → va_W) (mc ms : Nat) : Prop :=
  ∀ (u : S) (v : Int32) (b : Bool) (H : Heap) (locs : List Loc) (pc : Nat) (ls : Array Slot), v = bI b → res u = some (.int (bI b)) → decode cc pc = .ok (.ireturn, 1) → pst u → va_P D vwCl (w1 u) H → va_D A (w1 u) → va_S A s.heap H locs → W p l e R s m args below meth c H locs mc ms Q (F0 m pc ls [.int v])
def RtJ (p : Program) (l : Launch) (e : Env) (R : Room) (s : State) (m : MethodId) (args : Array Value) (below : List Frame) (meth : Method) (c : Code) (Q : State → Prop) (D : va_G) (A : Nat → Prop) (cc : ByteArray) (S : Type) (pst : S → Prop) (res : S → Option Value) (w1 : S → va_W) (mc ms : Nat) : Prop :=
  ∀ (u : S) (v : Int64) (H : Heap) (locs : List Loc) (pc : Nat) (ls : Array Slot), res u = some (.long v) → decode cc pc = .ok (.lreturn, 1) → pst u → va_P D vwCl (w1 u) H → va_D A (w1 u) → va_S A s.heap H locs → W p l e R s m args below meth c H locs mc ms Q (F0 m pc ls [.long v])
def RtV (p : Program) (l : Launch) (e : Env) (R : Room) (s : State) (m : MethodId) (args : Array Value) (below : List Frame) (meth : Method) (c : Code) (Q : State → Prop) (D : va_G) (A : Nat → Prop) (cc : ByteArray) (S : Type) (pst : S → Prop) (res : S → Option Value) (w1 : S → va_W) (mc ms : Nat) : Prop :=
  ∀ (u : S) (H : Heap) (locs : List Loc) (pc : Nat) (ls : Array Slot), res u = none → decode cc pc = .ok (.return_, 1) → pst u → va_P D vwCl (w1 u) H → va_D A (w1 u) → va_S A s.heap H locs → W p l e R s m args below meth c H locs mc ms Q (F0 m pc ls [])
def RtA (p : Program) (l : Launch) (e : Env) (R : Room) (s : State) (m : MethodId) (args : Array Value) (below : List Frame) (meth : Method) (c : Code) (Q : State → Prop) (D : va_G) (A : Nat → Prop) (cc : ByteArray) (S : Type) (pst : S → Prop) (res : S → Option Value) (w1 : S → va_W) (mc ms : Nat) : Prop :=
  ∀ (u : S) (v : Value) (H : Heap) (locs : List Loc) (pc : Nat) (ls : Array Slot), res u = some v → (v = .null ∨ ∃ a, v = .ref a) → decode cc pc = .ok (.areturn, 1) → pst u → va_P D vwCl (w1 u) H → va_D A (w1 u) → va_S A s.heap H locs → W p l e R s m args below meth c H locs mc ms Q (F0 m pc ls [v])
theorem ct_ofI (hy : plainName y.cls = true) (hw : ws = Cond.code y cc maxL (some .int) :: GT) (hlen : (lg_sl as).length ≤ maxL) (hown : y.cls = own)
    (body : ∀ (p : Program) (e : Env) (s : State) (m : MethodId) (below : List Frame) (meth : Method) (c : Code) (A : Nat → Prop) (ls : Array Slot) (Q : State → Prop), Cx p s m as.toArray c cc maxL own D t x A → RtI p l e rm s m as.toArray below meth c Q D A cc S pst res w1 mc ms → lv_has ls maxL (lv_args 0 as) → va_P D vwCl wc s.heap → va_D A wc → va_S A s.heap s.heap [] → W p l e rm s m as.toArray below meth c s.heap [] 0 0 Q (F0 m 0 ls [])) : Ct l D t x y ws rm as wc S pst res w1 mc ms := by
  intro sz
  refine Met.ofW (cc := cc) (maxL := maxL) (ret := some .int) hy hw ?_
  intro p e s m args below meth c s₁ B hml hv
  obtain ⟨rfl, hsz, hP, hK, hD0, hX, hN⟩ := hv
  subst hsz
  have hl := lv_entry as (n := maxL) hlen
  have hr := B.returns
  have hlocks := B.notSynchronized
  rw [lg_entry_eq]
  refine body p e s m below meth c (va_A wc s.heap.size) _ _ ⟨B.exec, B.bytes, hml, by rw [← hown]; exact findClass_of_methodNamed B.named, fun w h => atoms_spec (ws := ws) B.pre w (by rw [hw]; exact List.mem_cons_of_mem _ h), hK, fun q h => Or.inr h, hX, hN⟩ ?_ hl hP hD0.self va_S.rf
  intro u v H locs pc ls hres hd hp hP hD hS
  exact W.iret B.exec B.bytes hr (fun t' ht hW => ⟨⟨u, by rw [hres], hp, by rw [ht]; exact hP, hD⟩, hS.F ht⟩) hS.2.2 hd
theorem ct_ofZ (hy : plainName y.cls = true) (hw : ws = Cond.code y cc maxL (some .boolean) :: GT) (hlen : (lg_sl as).length ≤ maxL) (hown : y.cls = own)
    (body : ∀ (p : Program) (e : Env) (s : State) (m : MethodId) (below : List Frame) (meth : Method) (c : Code) (A : Nat → Prop) (ls : Array Slot) (Q : State → Prop), Cx p s m as.toArray c cc maxL own D t x A → RtZ p l e rm s m as.toArray below meth c Q D A cc S pst res w1 mc ms → lv_has ls maxL (lv_args 0 as) → va_P D vwCl wc s.heap → va_D A wc → va_S A s.heap s.heap [] → W p l e rm s m as.toArray below meth c s.heap [] 0 0 Q (F0 m 0 ls [])) : Ct l D t x y ws rm as wc S pst res w1 mc ms := by
  intro sz
  refine Met.ofW (cc := cc) (maxL := maxL) (ret := some .boolean) hy hw ?_
  intro p e s m args below meth c s₁ B hml hv
  obtain ⟨rfl, hsz, hP, hK, hD0, hX, hN⟩ := hv
  subst hsz
  have hl := lv_entry as (n := maxL) hlen
  have hr := B.returns
  have hlocks := B.notSynchronized
  rw [lg_entry_eq]
  refine body p e s m below meth c (va_A wc s.heap.size) _ _ ⟨B.exec, B.bytes, hml, by rw [← hown]; exact findClass_of_methodNamed B.named, fun w h => atoms_spec (ws := ws) B.pre w (by rw [hw]; exact List.mem_cons_of_mem _ h), hK, fun q h => Or.inr h, hX, hN⟩ ?_ hl hP hD0.self va_S.rf
  intro u v b H locs pc ls hv hres hd hp hP hD hS
  subst hv
  exact W.zret (ty := .boolean) B.exec B.bytes hr (bI_nar b) (fun t' ht hW => ⟨⟨u, by rw [hres], hp, by rw [ht]; exact hP, hD⟩, hS.F ht⟩) hS.2.2 hd
theorem ct_ofJ (hy : plainName y.cls = true) (hw : ws = Cond.code y cc maxL (some .long) :: GT) (hlen : (lg_sl as).length ≤ maxL) (hown : y.cls = own)
    (body : ∀ (p : Program) (e : Env) (s : State) (m : MethodId) (below : List Frame) (meth : Method) (c : Code) (A : Nat → Prop) (ls : Array Slot) (Q : State → Prop), Cx p s m as.toArray c cc maxL own D t x A → RtJ p l e rm s m as.toArray below meth c Q D A cc S pst res w1 mc ms → lv_has ls maxL (lv_args 0 as) → va_P D vwCl wc s.heap → va_D A wc → va_S A s.heap s.heap [] → W p l e rm s m as.toArray below meth c s.heap [] 0 0 Q (F0 m 0 ls [])) : Ct l D t x y ws rm as wc S pst res w1 mc ms := by
  intro sz
  refine Met.ofW (cc := cc) (maxL := maxL) (ret := some .long) hy hw ?_
  intro p e s m args below meth c s₁ B hml hv
  obtain ⟨rfl, hsz, hP, hK, hD0, hX, hN⟩ := hv
  subst hsz
  have hl := lv_entry as (n := maxL) hlen
  have hr := B.returns
  have hlocks := B.notSynchronized
  rw [lg_entry_eq]
  refine body p e s m below meth c (va_A wc s.heap.size) _ _ ⟨B.exec, B.bytes, hml, by rw [← hown]; exact findClass_of_methodNamed B.named, fun w h => atoms_spec (ws := ws) B.pre w (by rw [hw]; exact List.mem_cons_of_mem _ h), hK, fun q h => Or.inr h, hX, hN⟩ ?_ hl hP hD0.self va_S.rf
  intro u v H locs pc ls hres hd hp hP hD hS
  exact W.lret B.exec B.bytes hr (fun t' ht hW => ⟨⟨u, by rw [hres], hp, by rw [ht]; exact hP, hD⟩, hS.F ht⟩) hS.2.2 hd
theorem ct_ofV (hy : plainName y.cls = true) (hw : ws = Cond.code y cc maxL none :: GT) (hlen : (lg_sl as).length ≤ maxL) (hown : y.cls = own)
    (body : ∀ (p : Program) (e : Env) (s : State) (m : MethodId) (below : List Frame) (meth : Method) (c : Code) (A : Nat → Prop) (ls : Array Slot) (Q : State → Prop), Cx p s m as.toArray c cc maxL own D t x A → RtV p l e rm s m as.toArray below meth c Q D A cc S pst res w1 mc ms → meth.name = y.name → lv_has ls maxL (lv_args 0 as) → va_P D vwCl wc s.heap → va_D A wc → va_S A s.heap s.heap [] → W p l e rm s m as.toArray below meth c s.heap [] 0 0 Q (F0 m 0 ls [])) : Ct l D t x y ws rm as wc S pst res w1 mc ms := by
  intro sz
  refine Met.ofW (cc := cc) (maxL := maxL) (ret := none) hy hw ?_
  intro p e s m args below meth c s₁ B hml hv
  obtain ⟨rfl, hsz, hP, hK, hD0, hX, hN⟩ := hv
  subst hsz
  have hl := lv_entry as (n := maxL) hlen
  have hr := B.returns
  have hlocks := B.notSynchronized
  rw [lg_entry_eq]
  refine body p e s m below meth c (va_A wc s.heap.size) _ _ ⟨B.exec, B.bytes, hml, by rw [← hown]; exact findClass_of_methodNamed B.named, fun w h => atoms_spec (ws := ws) B.pre w (by rw [hw]; exact List.mem_cons_of_mem _ h), hK, fun q h => Or.inr h, hX, hN⟩ ?_ (name_of_methodNamed B.named B.method).1 hl hP hD0.self va_S.rf
  intro u H locs pc ls hres hd hp hP hD hS
  exact W.vret B.exec B.bytes hr (fun t' ht hW => ⟨⟨u, by rw [hres], hp, by rw [ht]; exact hP, hD⟩, hS.F ht⟩) hS.2.2 hd
theorem ct_ofA {K : String} (hy : plainName y.cls = true) (hw : ws = Cond.code y cc maxL (some (.object K)) :: GT) (hlen : (lg_sl as).length ≤ maxL) (hown : y.cls = own)
    (body : ∀ (p : Program) (e : Env) (s : State) (m : MethodId) (below : List Frame) (meth : Method) (c : Code) (A : Nat → Prop) (ls : Array Slot) (Q : State → Prop), Cx p s m as.toArray c cc maxL own D t x A → RtA p l e rm s m as.toArray below meth c Q D A cc S pst res w1 mc ms → lv_has ls maxL (lv_args 0 as) → va_P D vwCl wc s.heap → va_D A wc → va_S A s.heap s.heap [] → W p l e rm s m as.toArray below meth c s.heap [] 0 0 Q (F0 m 0 ls [])) : Ct l D t x y ws rm as wc S pst res w1 mc ms := by
  intro sz
  refine Met.ofW (cc := cc) (maxL := maxL) (ret := some (.object K)) hy hw ?_
  intro p e s m args below meth c s₁ B hml hv
  obtain ⟨rfl, hsz, hP, hK, hD0, hX, hN⟩ := hv
  subst hsz
  have hl := lv_entry as (n := maxL) hlen
  have hr := B.returns
  have hlocks := B.notSynchronized
  rw [lg_entry_eq]
  refine body p e s m below meth c (va_A wc s.heap.size) _ _ ⟨B.exec, B.bytes, hml, by rw [← hown]; exact findClass_of_methodNamed B.named, fun w h => atoms_spec (ws := ws) B.pre w (by rw [hw]; exact List.mem_cons_of_mem _ h), hK, fun q h => Or.inr h, hX, hN⟩ ?_ hl hP hD0.self va_S.rf
  intro u v H locs pc ls hres hv hd hp hP hD hS
  exact W.aret B.exec B.bytes hr (Or.inl ⟨K, rfl⟩) hv (fun t' ht hW => ⟨⟨u, by rw [hres], hp, by rw [ht]; exact hP, hD⟩, hS.F ht⟩) hS.2.2 hd
end QC
/-- the fields of the objects: a hash at h, a scroll at g, a meter at q, the town at T (its hash at h), the reference at a -/
def hO (h : Nat → Nat) (len : Int32) : List Value := [.ref (h 1), .ref (h 2), .ref (h 3), .int len, .ref (h 4), .ref (h 5)]
def sO (g : Nat → Nat) (nr ow n ct st en gn ov bl cl : Int32) : List Value := [.int nr, .int ow, .int n, .int ct, .int st, .int en, .ref (g 1), .ref (g 2), .ref (g 3), .ref (g 4), .int gn, .int ov, .int bl, .int cl]
def eO (q : Nat → Nat) (nr ks ls wr : Int32) : List Value := [.int nr, .ref (q 1), .ref (q 2), .int ks, .ref (q 3), .ref (q 4), .int ls, .ref (q 5), .ref (q 6), .ref (q 7), .int wr]
def tO (T h : Nat → Nat) (wk day bt : Int32) (fl tw : Int64) : List Value := [.ref (h 0), .ref (T 1), .ref (T 2), .ref (T 3), .ref (T 4), .ref (T 5), .ref (T 6), .int wk, .int day, .int bt, .long fl, .long tw]
def mO (a : Nat → Nat) (th day : Int32) (kp tw : Int64) (wk : Int32) (k1 k2 o1 o2 : Int64) (ns : Int32) : List Value := [.int th, .ref (a 1), .ref (a 2), .ref (a 3), .ref (a 4), .ref (a 5), .ref (a 6), .ref (a 7), .ref (a 8), .ref (a 9), .ref (a 10), .ref (a 11), .int day, .ref (a 12), .long kp, .long tw, .int wk, .long k1, .long k2, .long o1, .long o2, .int ns,
  .ref (a 13), .ref (a 14), .ref (a 15), .ref (a 16), .ref (a 17), .ref (a 18), .ref (a 19), .ref (a 20), .ref (a 21), .ref (a 22), .ref (a 23), .ref (a 24), .ref (a 25), .ref (a 26), .ref (a 27), .ref (a 28), .ref (a 29), .ref (a 30), .ref (a 31), .ref (a 32), .ref (a 33), .ref (a 34), .ref (a 35)]
