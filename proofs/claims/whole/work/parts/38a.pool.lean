/-! worlds with a tail: cells said one by one, and a pool behind them -/
theorem D_iff {A : Nat → Prop} {ws : va_W} : va_D A ws ↔ (ws.map Prod.fst).Nodup ∧ ∀ q ∈ ws, A q.1 := by
  constructor
  · intro h
    refine ⟨?_, fun q hq => ?_⟩
    · rw [List.nodup_iff_pairwise_ne, List.pairwise_iff_getElem]
      intro i j hi hj hij e
      rw [List.length_map] at hi hj
      rw [List.getElem_map, List.getElem_map] at e
      have := h.1 i j _ _ (List.getElem?_eq_getElem hi) (List.getElem?_eq_getElem hj) e
      omega
    · obtain ⟨k, hk⟩ := List.mem_iff_getElem?.mp hq
      exact h.2 k q hk
  · intro h
    refine ⟨fun i j p q hi hj e => ?_, fun k q hk => h.2 q (List.mem_of_getElem? hk)⟩
    have hn := List.pairwise_iff_getElem.mp (List.nodup_iff_pairwise_ne.mp h.1)
    obtain ⟨hi1, hi2⟩ := List.getElem?_eq_some_iff.mp hi
    obtain ⟨hj1, hj2⟩ := List.getElem?_eq_some_iff.mp hj
    rcases Nat.lt_trichotomy i j with q1 | q1 | q1
    · exact absurd (by rw [List.getElem_map, List.getElem_map, hi2, hj2]; exact e) (hn i j (by rw [List.length_map]; exact hi1) (by rw [List.length_map]; exact hj1) q1)
    · exact q1
    · exact absurd (by rw [List.getElem_map, List.getElem_map, hi2, hj2]; exact e.symm) (hn j i (by rw [List.length_map]; exact hj1) (by rw [List.length_map]; exact hi1) q1)
theorem P_iff {D : va_G} {cl : List vw_C} {ws : va_W} {H : Heap} : va_P D cl ws H ↔ ∀ q ∈ ws, va_at D cl q H := by
  constructor
  · intro h q hq
    obtain ⟨k, hk⟩ := List.mem_iff_getElem?.mp hq
    exact h k q hk
  · exact fun h k q hk => h q (List.mem_of_getElem? hk)
theorem P_perm {D : va_G} {cl : List vw_C} {w w' : va_W} {H : Heap} (hp : w.Perm w') (h : va_P D cl w H) : va_P D cl w' H := P_iff.mpr fun q hq => P_iff.mp h q (hp.mem_iff.mpr hq)
theorem D_perm {A : Nat → Prop} {w w' : va_W} (hp : w.Perm w') (h : va_D A w) : va_D A w' := by
  have h' := D_iff.mp h
  exact D_iff.mpr ⟨(hp.map Prod.fst).nodup_iff.mp h'.1, fun q hq => h'.2 q (hp.mem_iff.mpr hq)⟩
/-- the pool of b things, and the pool without the thing s -/
def pool (F : Nat → va_W) (b : Nat) : va_W := (List.range b).flatMap F
def prest (F : Nat → va_W) (b s : Nat) : va_W := ((List.range b).erase s).flatMap F
theorem pool_perm (F : Nat → va_W) {b s : Nat} (h : s < b) : (pool F b).Perm (F s ++ prest F b s) := by
  have := (List.perm_cons_erase (List.mem_range.mpr h)).flatMap_right F
  rw [List.flatMap_cons] at this
  exact this
theorem prest_congr {F F' : Nat → va_W} {b s : Nat} (h : ∀ k, k ≠ s → F' k = F k) : prest F' b s = prest F b s := by
  unfold prest
  rw [List.flatMap_def, List.flatMap_def]
  congr 1
  apply List.map_congr_left
  intro k hk
  exact h k ((List.nodup_range.mem_erase_iff).mp hk).1
theorem pl_open (X P2 : va_W) (F : Nat → va_W) {b s : Nat} (h : s < b) : (X ++ (pool F b ++ P2)).Perm ((X ++ F s) ++ (prest F b s ++ P2)) := by
  rw [List.append_assoc, ← List.append_assoc (F s)]
  exact ((pool_perm F h).append_right P2).append_left X
theorem pl_shut (X P2 : va_W) {F F' : Nat → va_W} {b s : Nat} (h : s < b) (hF : ∀ k, k ≠ s → F' k = F k) : ((X ++ F' s) ++ (prest F b s ++ P2)).Perm (X ++ (pool F' b ++ P2)) := by
  rw [← prest_congr hF]
  exact (pl_open X P2 F' h).symm
theorem pool_s (F : Nat → va_W) (b : Nat) : pool F (b + 1) = pool F b ++ F b := by
  unfold pool
  rw [List.range_succ, List.flatMap_append]
  simp
theorem nd_iff : ∀ (l : List Nat), va_nd l = true ↔ l.Nodup
  | [] => by simp [va_nd]
  | a :: l => by simp [va_nd, nd_iff l]
theorem tl_R {X pl wr : va_W} {isR : List Nat} {n : Nat} (hn : X.length = n) (hR : isR.map (fun i => (X ++ pl)[i]?) = wr.map some) : (isR ++ (List.range pl.length).map (fun k => n + k)).map (fun i => (X ++ pl)[i]?) = (wr ++ pl).map some := by
  rw [List.map_append, hR, List.map_append]
  congr 1
  apply List.ext_getElem
  · simp
  · intro i h1 h2
    simp only [List.getElem_map, List.getElem_range]
    rw [List.getElem?_append_right (by omega), show n + i - X.length = i by omega]
    exact List.getElem?_eq_getElem _
theorem tl_n {isR : List Nat} {n k : Nat} (h : va_nd isR = true) (hb : isR.all (fun i => decide (i < n)) = true) : va_nd (isR ++ (List.range k).map (fun k => n + k)) = true := by
  rw [nd_iff] at h ⊢
  rw [List.all_eq_true] at hb
  refine List.nodup_append.mpr ⟨h, ?_, ?_⟩
  · rw [List.nodup_iff_pairwise_ne, List.pairwise_map]
    exact (List.nodup_iff_pairwise_ne.mp List.nodup_range).imp (fun h => by omega)
  · intro a ha b hb' e
    obtain ⟨c, -, rfl⟩ := List.mem_map.mp hb'
    have := of_decide_eq_true (hb a ha)
    omega
theorem tl_d {isC isR : List Nat} {n k : Nat} (h : ∀ i ∈ isR, i ∉ isC) (hb : isC.all (fun i => decide (i < n)) = true) : ∀ i ∈ isR ++ (List.range k).map (fun k => n + k), i ∉ isC := by
  intro i hi
  rcases List.mem_append.mp hi with q | q
  · exact h i q
  · obtain ⟨c, -, rfl⟩ := List.mem_map.mp q
    intro hc
    rw [List.all_eq_true] at hb
    have := of_decide_eq_true (hb _ hc)
    omega
section
variable {p : Program} {l : Launch} {e : Env} {R : Room} {s : State} {m : MethodId} {args : Array Value} {below : List Frame} {meth : Method} {c : Code} {H : Heap} {locs : List Loc} {cells slots : Nat} {Q : State → Prop}
variable {cc : ByteArray} {pc nL : Nat} {ls : Array Slot} {rest st0 : List Value} {D : va_G} {t : Nat → ClassId} {x : Nat → Nat} {A : Nat → Prop} {own : String}
variable {y : MethodName} {ws ws' : List Cond} {rm : Room} {as As : List Value} {wc wr X pl : va_W} {S : Type} {pst : S → Prop} {res : S → Option Value} {w1 : S → va_W} {mc ms : Nat} {bytes : ByteArray} {maxL n index : Nat} {ret : Option FieldType}
theorem ct_callST {isC isR : List Nat} (N : Nat) (hN : X.length = N) (hb : (isC ++ isR).all (fun i => decide (i < N)) = true) (C : Cx p s m args c cc nL own D t x A) (hM : Ct l D t x y ws rm as wc S pst res w1 mc ms) (cw : CallB R s args own index y bytes maxL ret ws rm mc ms n ∧ (Cond.static y).before args s = true) (hP : va_P D vwCl (X ++ pl) H) (hD : va_D A (X ++ pl)) (hS : va_S A s.heap H locs) (hC : isC.map (fun i => (X ++ pl)[i]?) = wc.map some) (hnC : va_nd isC = true) (hR : isR.map (fun i => (X ++ pl)[i]?) = wr.map some) (hn : va_nd isR = true) (hdis : ∀ i ∈ isR, i ∉ isC) (hln : as.length = n) (hls : ls.size = nL) (hst : st0 = as.reverse ++ rest) (hW : (rest.map fun v => v.category).sum ≤ 8) (hdg : decode cc pc = .ok (.invokestatic index, 3)) (hf : cells + mc ≤ R.cells ∧ slots + ms ≤ R.slots)
    (kk : ∀ (u : S) (H1 : Heap) (locs1 : List Loc), pst u → va_P D vwCl ((wr ++ w1 u) ++ pl) H1 → va_D A ((wr ++ w1 u) ++ pl) → va_S A s.heap H1 locs1 → W p l e R s m args below meth c H1 locs1 (cells + mc) (slots + ms) Q (F0 m (pc + 3) ls ((res u).toList ++ rest))) : W p l e R s m args below meth c H locs cells slots Q (F0 m pc ls st0) := by
  rw [List.all_append, Bool.and_eq_true_iff] at hb
  exact ct_callS C hM cw hP hD hS isC _ hC hnC (tl_R hN hR) (tl_n hn hb.2) (tl_d hdis hb.1) hln hls hst hW hdg hf (fun u H1 locs1 hp hP hD hS => kk u H1 locs1 hp hP.swap hD.swap hS)
theorem ct_callVT {b q0 ci : Nat} {qc : vw_C} {fs : List Value} {K : String} {isC isR : List Nat} (N : Nat) (hN : X.length = N) (hb : (isC ++ isR).all (fun i => decide (i < N)) = true) (C : Cx p s m args c cc nL own D t x A) (hM : Ct l D t x y ws rm (.ref b :: As) wc S pst res w1 mc ms) (cw : CallW R s args own K index y bytes maxL ret ws rm mc ms n) (hK1 : qc.1 = K) (hcl : vwCl[ci]? = some qc) (hself : (X ++ pl)[q0]? = some (b, .inr (ci, fs))) (hP : va_P D vwCl (X ++ pl) H) (hD : va_D A (X ++ pl)) (hS : va_S A s.heap H locs) (hC : isC.map (fun i => (X ++ pl)[i]?) = wc.map some) (hnC : va_nd isC = true) (hR : isR.map (fun i => (X ++ pl)[i]?) = wr.map some) (hn : va_nd isR = true) (hdis : ∀ i ∈ isR, i ∉ isC) (hln : As.length = n) (hls : ls.size = nL) (hst : st0 = As.reverse ++ .ref b :: rest) (hW : (rest.map fun v => v.category).sum ≤ 8) (hdg : decode cc pc = .ok (.invokevirtual index, 3)) (hf : cells + mc ≤ R.cells ∧ slots + ms ≤ R.slots)
    (kk : ∀ (u : S) (H1 : Heap) (locs1 : List Loc), pst u → va_P D vwCl ((wr ++ w1 u) ++ pl) H1 → va_D A ((wr ++ w1 u) ++ pl) → va_S A s.heap H1 locs1 → W p l e R s m args below meth c H1 locs1 (cells + mc) (slots + ms) Q (F0 m (pc + 3) ls ((res u).toList ++ rest))) : W p l e R s m args below meth c H locs cells slots Q (F0 m pc ls st0) := by
  rw [List.all_append, Bool.and_eq_true_iff] at hb
  exact ct_callV C hM cw hK1 hcl hself hP hD hS isC _ hC hnC (tl_R hN hR) (tl_n hn hb.2) (tl_d hdis hb.1) hln hls hst hW hdg hf (fun u H1 locs1 hp hP hD hS => kk u H1 locs1 hp hP.swap hD.swap hS)
theorem ct_callIT {b : Nat} {isC isR : List Nat} (N : Nat) (hN : X.length = N) (hb : (isC ++ isR).all (fun i => decide (i < N)) = true) (C : Cx p s m args c cc nL own D t x A) (hM : Ct l D t x y ws rm (.ref b :: As) wc S pst res w1 mc ms) (cw : CallB R s args own index y bytes maxL none ws rm mc ms n ∧ y.name = "<init>" ∧ (Cond.instanceMethod y).before args s = true) (hP : va_P D vwCl (X ++ pl) H) (hD : va_D A (X ++ pl)) (hS : va_S A s.heap H locs) (hC : isC.map (fun i => (X ++ pl)[i]?) = wc.map some) (hnC : va_nd isC = true) (hR : isR.map (fun i => (X ++ pl)[i]?) = wr.map some) (hn : va_nd isR = true) (hdis : ∀ i ∈ isR, i ∉ isC) (hln : As.length = n) (hls : ls.size = nL) (hst : st0 = As.reverse ++ .ref b :: rest) (hW : (rest.map fun v => v.category).sum ≤ 8) (hdg : decode cc pc = .ok (.invokespecial index, 3)) (hf : cells + mc ≤ R.cells ∧ slots + ms ≤ R.slots)
    (kk : ∀ (u : S) (H1 : Heap) (locs1 : List Loc), pst u → va_P D vwCl ((wr ++ w1 u) ++ pl) H1 → va_D A ((wr ++ w1 u) ++ pl) → va_S A s.heap H1 locs1 → W p l e R s m args below meth c H1 locs1 (cells + mc) (slots + ms) Q (F0 m (pc + 3) ls ((res u).toList ++ rest))) : W p l e R s m args below meth c H locs cells slots Q (F0 m pc ls st0) := by
  rw [List.all_append, Bool.and_eq_true_iff] at hb
  exact ct_callI C hM cw hP hD hS isC _ hC hnC (tl_R hN hR) (tl_n hn hb.2) (tl_d hdis hb.1) hln hls hst hW hdg hf (fun u H1 locs1 hp hP hD hS => kk u H1 locs1 hp hP.swap hD.swap hS)
end
/-- the scroll s of the town, as its cells -/
def scW (t : Nat → ClassId) (sg : Nat → Nat → Nat) (ow cs : Nat → Nat) (ct st en : Nat → Int32) (cf lt rd se : Nat → Nat → Int32) (go ov : Nat → Int32) (bl cl : Nat → Bool) (s : Nat) : va_W :=
  [(sg s 0, .inr (2, sO (sg s) (nI s) (nI (ow s)) (nI (cs s)) (ct s) (st s) (en s) (go s) (ov s) (bI (bl s)) (bI (cl s)))), (sg s 1, .inl (t 0, cs s * 20, .inl (cf s))), (sg s 2, .inl (t 0, 204, .inl (lt s))), (sg s 3, .inl (t 1, 8, .inl (rd s))), (sg s 4, .inl (t 1, 8, .inl (se s)))]
/-- the meter m of the town, as its cells -/
def meW (t : Nat → ClassId) (mq : Nat → Nat → Nat) (ks lsn : Nat → Nat) (wr : Nat → Int32) (ky kz : Nat → Nat → Int32) (bk ol : Nat → Nat → Bool) (ix : Nat → Nat → Nat) (la mi : Nat → Nat → Int32) (m : Nat) : va_W :=
  [(mq m 0, .inr (1, eO (mq m) (nI m) (nI (ks m)) (nI (lsn m)) (wr m))), (mq m 1, .inl (t 0, 16, .inl (ky m))), (mq m 2, .inl (t 0, 16, .inl (kz m))), (mq m 3, .inl (t 3, 16, .inl (fun j => bI (bk m j)))), (mq m 4, .inl (t 3, 16, .inl (fun j => bI (ol m j)))), (mq m 5, .inl (t 1, 16, .inl (fun j => nI (ix m j)))), (mq m 6, .inl (t 0, 320, .inl (la m))), (mq m 7, .inl (t 1, 16, .inl (mi m)))]
theorem pl_shutE (X P2 : va_W) {F F' : Nat → va_W} {Y : va_W} {b s : Nat} (h : s < b) (hE : F' s = Y) (hF : ∀ k, k ≠ s → F' k = F k) : ((X ++ Y) ++ (prest F b s ++ P2)).Perm (X ++ (pool F' b ++ P2)) := hE ▸ pl_shut X P2 h hF
theorem pl_open2 (X P1 : va_W) (F : Nat → va_W) {b s : Nat} (h : s < b) : (X ++ (P1 ++ pool F b)).Perm ((X ++ F s) ++ (P1 ++ prest F b s)) := by
  have h1 := ((pool_perm F h).append_left P1)
  have h2 : (P1 ++ (F s ++ prest F b s)).Perm (F s ++ (P1 ++ prest F b s)) := by
    rw [← List.append_assoc, ← List.append_assoc]
    exact List.perm_append_comm.append_right _
  have h3 := (h1.trans h2).append_left X
  rw [← List.append_assoc X] at h3
  rw [← List.append_assoc X] at h3 ⊢
  rw [← List.append_assoc (X ++ F s)] at h3 ⊢
  simpa [List.append_assoc] using h3
theorem pl_shutE2 (X P1 : va_W) {F F' : Nat → va_W} {Y : va_W} {b s : Nat} (h : s < b) (hE : F' s = Y) (hF : ∀ k, k ≠ s → F' k = F k) : ((X ++ Y) ++ (P1 ++ prest F b s)).Perm (X ++ (P1 ++ pool F' b)) := by
  subst hE
  rw [← prest_congr hF]
  exact (pl_open2 X P1 F' h).symm
section
variable {p : Program} {l : Launch} {e : Env} {R : Room} {s : State} {m : MethodId} {args : Array Value} {below : List Frame} {meth : Method} {c : Code} {H : Heap} {locs : List Loc} {cells slots : Nat} {Q : State → Prop}
variable {cc : ByteArray} {pc nL : Nat} {ls : Array Slot} {rest st0 : List Value} {D : va_G} {t : Nat → ClassId} {x : Nat → Nat} {A : Nat → Prop} {own : String}
variable {y : MethodName} {ws ws' : List Cond} {rm : Room} {as As : List Value} {cx wr X pl : va_W} {S : Type} {pst : S → Prop} {res : S → Option Value} {w1 : S → va_W} {mc ms : Nat} {bytes : ByteArray} {maxL n index : Nat} {ret : Option FieldType}
theorem tl_d2 {isC isR : List Nat} {n k : Nat} (h : ∀ i ∈ isR, i ∉ isC) (hb : isR.all (fun i => decide (i < n)) = true) : ∀ i ∈ isR, i ∉ isC ++ (List.range k).map (fun k => n + k) := by
  intro i hi hc
  rcases List.mem_append.mp hc with q | q
  · exact h i hi q
  · obtain ⟨c, -, rfl⟩ := List.mem_map.mp q
    rw [List.all_eq_true] at hb
    have := of_decide_eq_true (hb _ hi)
    omega
theorem ct_callVP {b q0 ci : Nat} {qc : vw_C} {fs : List Value} {K : String} {isC isR : List Nat} (N : Nat) (hN : X.length = N) (hb : (isC ++ isR).all (fun i => decide (i < N)) = true) (C : Cx p s m args c cc nL own D t x A) (hM : Ct l D t x y ws rm (.ref b :: As) (cx ++ pl) S pst res w1 mc ms) (cw : CallW R s args own K index y bytes maxL ret ws rm mc ms n) (hK1 : qc.1 = K) (hcl : vwCl[ci]? = some qc) (hself : (X ++ pl)[q0]? = some (b, .inr (ci, fs))) (hP : va_P D vwCl (X ++ pl) H) (hD : va_D A (X ++ pl)) (hS : va_S A s.heap H locs) (hC : isC.map (fun i => (X ++ pl)[i]?) = cx.map some) (hnC : va_nd isC = true) (hR : isR.map (fun i => (X ++ pl)[i]?) = wr.map some) (hn : va_nd isR = true) (hdis : ∀ i ∈ isR, i ∉ isC) (hln : As.length = n) (hls : ls.size = nL) (hst : st0 = As.reverse ++ .ref b :: rest) (hW : (rest.map fun v => v.category).sum ≤ 8) (hdg : decode cc pc = .ok (.invokevirtual index, 3)) (hf : cells + mc ≤ R.cells ∧ slots + ms ≤ R.slots)
    (kk : ∀ (u : S) (H1 : Heap) (locs1 : List Loc), pst u → va_P D vwCl (wr ++ w1 u) H1 → va_D A (wr ++ w1 u) → va_S A s.heap H1 locs1 → W p l e R s m args below meth c H1 locs1 (cells + mc) (slots + ms) Q (F0 m (pc + 3) ls ((res u).toList ++ rest))) : W p l e R s m args below meth c H locs cells slots Q (F0 m pc ls st0) := by
  rw [List.all_append, Bool.and_eq_true_iff] at hb
  exact ct_callV C hM cw hK1 hcl hself hP hD hS _ isR (tl_R hN hC) (tl_n hnC hb.1) hR hn (tl_d2 hdis hb.2) hln hls hst hW hdg hf kk
end
