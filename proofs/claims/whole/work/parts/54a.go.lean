/-! worlds that say the same; contracts over them; contracts with cells beside -/
def Go (D : va_G) (w w' : va_W) : Prop := (w.map Prod.fst).Perm (w'.map Prod.fst) ∧ ∀ H : Heap, va_P D vwCl w H → va_P D vwCl w' H
theorem Go.rf {D : va_G} {w : va_W} : Go D w w := ⟨List.Perm.refl _, fun _ h => h⟩
theorem Go.tr {D : va_G} {w w' w2 : va_W} (h : Go D w w') (h2 : Go D w' w2) : Go D w w2 := ⟨h.1.trans h2.1, fun H q => h2.2 H (h.2 H q)⟩
theorem Go.pm {D : va_G} {w w' : va_W} (h : w.Perm w') : Go D w w' := ⟨h.map _, fun _ q => P_perm h q⟩
theorem Go.app {D : va_G} {w w' v v' : va_W} (h : Go D w w') (h2 : Go D v v') : Go D (w ++ v) (w' ++ v') := by
  refine ⟨by rw [List.map_append, List.map_append]; exact h.1.append h2.1, fun H q => ?_⟩
  have q := P_iff.mp q
  have a := P_iff.mp (h.2 H (P_iff.mpr fun z hz => q z (List.mem_append_left _ hz)))
  have b := P_iff.mp (h2.2 H (P_iff.mpr fun z hz => q z (List.mem_append_right _ hz)))
  exact P_iff.mpr fun z hz => (List.mem_append.mp hz).elim (a z) (b z)
theorem Go.D {D : va_G} {A : Nat → Prop} {w w' : va_W} (h : Go D w w') (hD : va_D A w) : va_D A w' := by
  have q := D_iff.mp hD
  refine D_iff.mpr ⟨h.1.nodup_iff.mp q.1, fun z hz => ?_⟩
  obtain ⟨y, hy, e⟩ := List.mem_map.mp (h.1.mem_iff.mpr (List.mem_map.mpr ⟨z, hz, rfl⟩))
  rw [← e]
  exact q.2 y hy
theorem va_A_iff {w : va_W} {sz q : Nat} : va_A w sz q ↔ q ∈ w.map Prod.fst ∨ sz ≤ q := by
  unfold va_A
  constructor
  · rintro (⟨k, e, h⟩ | h)
    · exact Or.inl (List.mem_map.mpr ⟨(q, e), List.mem_of_getElem? h, rfl⟩)
    · exact Or.inr h
  · rintro (h | h)
    · obtain ⟨z, hz, e⟩ := List.mem_map.mp h
      obtain ⟨k, hk⟩ := List.mem_iff_getElem?.mp hz
      subst e
      exact Or.inl ⟨k, z.2, hk⟩
    · exact Or.inr h
theorem Go.A {D : va_G} {w w' : va_W} (h : Go D w w') {sz q : Nat} : va_A w sz q ↔ va_A w' sz q := by
  rw [va_A_iff, va_A_iff, h.1.mem_iff]
/-- two cells that say the same -/
def Ge (D : va_G) (p q : Nat × va_E) : Prop := p.1 = q.1 ∧ ∀ H : Heap, va_at D vwCl p H → va_at D vwCl q H
theorem Ge.rf {D : va_G} {p : Nat × va_E} : Ge D p p := ⟨rfl, fun _ h => h⟩
theorem Ge.eq {D : va_G} {p q : Nat × va_E} (h : p = q) : Ge D p q := h ▸ Ge.rf
theorem Ge.arr {D : va_G} {a n : Nat} {c : ClassId} {f g : Nat → Int32} (e : ∀ j, j < n → f j = g j) : Ge D (a, .inl (c, n, .inl f)) (a, .inl (c, n, .inl g)) := by
  refine ⟨rfl, fun H h => ?_⟩
  have h1 : H[a]? = some (vp_cell c (n, .inl f)) := h
  show H[a]? = some (vp_cell c (n, .inl g))
  rw [h1]
  congr 1
  show arrV c n (fun j => .int (f j)) = arrV c n (fun j => .int (g j))
  unfold arrV
  congr 2
  funext j
  show Value.int (f j.val) = Value.int (g j.val)
  rw [e j.val j.isLt]
theorem Go.nil {D : va_G} : Go D [] [] := Go.rf
theorem Go.cons {D : va_G} {p q : Nat × va_E} {w w' : va_W} (h : Ge D p q) (h2 : Go D w w') : Go D (p :: w) (q :: w') := by
  have h1 : Go D [p] [q] := ⟨by rw [List.map_cons, List.map_cons, h.1], fun H z => P_iff.mpr fun y hy => by
    rw [List.mem_singleton] at hy
    subst hy
    exact h.2 H (P_iff.mp z p (List.mem_singleton.mpr rfl))⟩
  exact Go.app h1 h2
theorem Go.pl {D : va_G} {F F' : Nat → va_W} : ∀ {b : Nat}, (∀ k, k < b → Go D (F k) (F' k)) → Go D (pool F b) (pool F' b)
  | 0, _ => Go.rf
  | b + 1, h => by
    rw [pool_s, pool_s]
    exact Go.app (Go.pl (fun k hk => h k (by omega))) (h b (by omega))
/-- a world's cells in another order, by their places -/
theorem rng_map {α : Type} (w : List α) : (List.range w.length).map (fun i => w[i]?) = w.map some := by
  apply List.ext_getElem
  · simp
  · intro i h1 h2
    simp only [List.getElem_map, List.getElem_range]
    exact List.getElem?_eq_getElem _
theorem pm_some {α : Type} {a b : List α} (h : (a.map some).Perm (b.map some)) : a.Perm b := by
  have := h.filterMap id
  simpa [List.filterMap_map] using this
theorem pm_ix {w w' : va_W} (N : Nat) (is : List Nat) (hp : is.isPerm (List.range N) = true) (hN : w.length = N) (hs : is.map (fun i => w[i]?) = w'.map some) : w.Perm w' := by
  subst hN
  have h1 := (List.isPerm_iff.mp hp).map (fun i => w[i]?)
  rw [hs, rng_map] at h1
  exact (pm_some h1).symm
/-- the same with a tail: cells taken out, the others before the tail; and back -/
theorem pm_ixT {w a b : va_W} (T : va_W) (N : Nat) (is : List Nat) (hp : is.isPerm (List.range N) = true) (hN : w.length = N) (hs : is.map (fun i => w[i]?) = (a ++ b).map some) : (w ++ T).Perm (a ++ (b ++ T)) := by
  rw [← List.append_assoc]
  exact (pm_ix N is hp hN hs).append_right T
theorem pm_ixB {w a b : va_W} (T : va_W) (N : Nat) (is : List Nat) (hp : is.isPerm (List.range N) = true) (hN : (a ++ b).length = N) (hs : is.map (fun i => (a ++ b)[i]?) = w.map some) : (a ++ (b ++ T)).Perm (w ++ T) := by
  rw [← List.append_assoc]
  exact (pm_ix N is hp hN hs).append_right T
/-- the callee takes the tail too -/
theorem pm_ixP {w a b : va_W} (T : va_W) (N : Nat) (is : List Nat) (hp : is.isPerm (List.range N) = true) (hN : w.length = N) (hs : is.map (fun i => w[i]?) = (a ++ b).map some) : (w ++ T).Perm ((a ++ T) ++ b) := by
  have h := pm_ixT (a := a) (b := b) T N is hp hN hs
  rw [List.append_assoc]
  exact h.trans (List.perm_append_comm.append_left a)
theorem pm_ixQ {w a b : va_W} (T : va_W) (N : Nat) (is : List Nat) (hp : is.isPerm (List.range N) = true) (hN : (a ++ b).length = N) (hs : is.map (fun i => (a ++ b)[i]?) = w.map some) : ((a ++ T) ++ b).Perm (w ++ T) := by
  refine List.Perm.trans ?_ (pm_ixB T N is hp hN hs)
  rw [List.append_assoc]
  exact List.perm_append_comm.append_left a
theorem Go.prst {D : va_G} {F F' : Nat → va_W} {b s : Nat} (h : ∀ k, k < b → k ≠ s → Go D (F k) (F' k)) : Go D (prest F b s) (prest F' b s) := by
  unfold prest
  have key : ∀ l : List Nat, (∀ k ∈ l, Go D (F k) (F' k)) → Go D (l.flatMap F) (l.flatMap F') := by
    intro l
    induction l with
    | nil => intro _; exact Go.rf
    | cons a l ih =>
      intro hl
      rw [List.flatMap_cons, List.flatMap_cons]
      exact Go.app (hl a List.mem_cons_self) (ih fun k hk => hl k (List.mem_cons_of_mem _ hk))
  apply key
  intro k hk
  have := (List.nodup_range.mem_erase_iff).mp hk
  exact h k (List.mem_range.mp this.2) this.1
section GC
variable {l : Launch} {D : va_G} {t : Nat → ClassId} {x : Nat → Nat} {y : MethodName} {ws : List Cond} {rm : Room} {as : List Value} {wc wc' wr : va_W} {S S' : Type} {pst : S → Prop} {pst' : S' → Prop} {res : S → Option Value} {res' : S' → Option Value} {w1 : S → va_W} {w1' : S' → va_W} {mc ms : Nat}
theorem ct_go (hM : Ct l D t x y ws rm as wc S pst res w1 mc ms) (h0 : Go D wc' wc) (h1 : ∀ u, pst u → ∃ u' : S', pst' u' ∧ res' u' = res u ∧ Go D (w1 u) (w1' u')) : Ct l D t x y ws rm as wc' S' pst' res' w1' mc ms := by
  intro sz
  refine MetFree.mono (hM sz) ?_ (fun _ _ _ _ _ h => h) ?_
  · rintro a s ⟨e, h2, h3, h4, h5, h6, h7⟩
    exact ⟨e, h2, h0.2 _ h3, h4, h0.D h5, h6.narrow (fun q hq => h0.A.mpr hq), h7⟩
  · rintro a s o s' - ⟨⟨⟨u, e, hp, hP, hD⟩, hF⟩, L, hE, hL⟩
    obtain ⟨u', a1, a2, a3⟩ := h1 u hp
    refine ⟨⟨⟨u', by rw [a2]; exact e, a1, a3.2 _ hP, a3.D (hD.weaken (fun _ _ _ h => h0.A.mpr h))⟩, hF.1, fun q h2 h3 => hF.2 q h2 (fun h => h3 (h0.A.mpr h))⟩, L, hE, fun q hq => h0.A.mpr (hL q hq)⟩
theorem ct_fr (hM : Ct l D t x y ws rm as wc S pst res w1 mc ms) : Ct l D t x y ws rm as (wc ++ wr) S pst res (fun u => w1 u ++ wr) mc ms := by
  have hin : ∀ {sz q : Nat}, va_A wc sz q → va_A (wc ++ wr) sz q := fun {sz q} h => by
    rw [va_A_iff] at h ⊢
    rw [List.map_append, List.mem_append]
    exact h.elim (fun z => Or.inl (Or.inl z)) Or.inr
  intro sz
  refine MetFree.mono (hM sz) ?_ (fun _ _ _ _ _ h => h) ?_
  · rintro a s ⟨e, h2, h3, h4, h5, h6, h7⟩
    have d := D_iff.mp h5
    rw [List.map_append] at d
    exact ⟨e, h2, P_iff.mpr fun q hq => P_iff.mp h3 q (List.mem_append_left _ hq), h4, D_iff.mpr ⟨(List.nodup_append.mp d.1).1, fun _ _ => trivial⟩, h6.narrow (fun q hq => hin hq), h7⟩
  · rintro a s o s' ⟨-, g2, g3, -, g5, -, -⟩ ⟨⟨⟨u, e, hp, hP, hD⟩, hF⟩, L, hE, hL⟩
    have d := (D_iff.mp g5).1
    rw [List.map_append] at d
    obtain ⟨d1, d2, d3⟩ := List.nodup_append.mp d
    have hout : ∀ q ∈ wr, ¬ va_A wc sz q.1 := fun q hq h => by
      rw [va_A_iff] at h
      rcases h with h | h
      · exact d3 _ h _ (List.mem_map.mpr ⟨q, hq, rfl⟩) rfl
      · have := (P_iff.mp g3 q (List.mem_append_right _ hq)).lt
        rw [g2] at this
        omega
    have hD' := D_iff.mp hD
    refine ⟨⟨⟨u, e, hp, P_iff.mpr fun q hq => ?_, D_iff.mpr ⟨?_, fun q hq => ?_⟩⟩, hF.1, fun q h2 h3 => hF.2 q h2 (fun h => h3 (hin h))⟩, L, hE, fun q hq => hin (hL q hq)⟩
    · rcases List.mem_append.mp hq with h | h
      · exact P_iff.mp hP q h
      · have h3 := P_iff.mp g3 q (List.mem_append_right _ h)
        exact h3.kept (hF.2 q.1 h3.lt (hout q h))
    · rw [List.map_append]
      refine List.nodup_append.mpr ⟨hD'.1, d2, fun z hz y hy hzy => ?_⟩
      obtain ⟨p1, hp1, rfl⟩ := List.mem_map.mp hz
      obtain ⟨p2, hp2, rfl⟩ := List.mem_map.mp hy
      exact hout p2 hp2 (hzy ▸ hD'.2 p1 hp1)
    · rcases List.mem_append.mp hq with h | h
      · exact hin (hD'.2 q h)
      · rw [va_A_iff, List.map_append, List.mem_append]
        exact Or.inl (Or.inr (List.mem_map.mpr ⟨q, h, rfl⟩))
theorem ct_pure {ww : va_W} (hM : Ct l D t x y ws rm as wc S pst res (fun _ => wc) mc ms) (hp : ww.Perm (wc ++ wr)) : Ct l D t x y ws rm as ww S pst res (fun _ => ww) mc ms := ct_go (ct_fr (wr := wr) hM) (Go.pm hp) (fun u hu => ⟨u, hu, rfl, Go.pm hp.symm⟩)
/-- cells ahead of it -/
theorem ct_frL (hM : Ct l D t x y ws rm as wc S pst res w1 mc ms) : Ct l D t x y ws rm as (wr ++ wc) S pst res (fun u => wr ++ w1 u) mc ms :=
  ct_go (ct_fr (wr := wr) hM) (Go.pm List.perm_append_comm) (fun u hu => ⟨u, hu, rfl, Go.pm List.perm_append_comm⟩)
end GC
section GW
variable {p : Program} {l : Launch} {e : Env} {R : Room} {s : State} {m : MethodId} {args : Array Value} {below : List Frame} {meth : Method} {c : Code} {H : Heap} {locs : List Loc} {cells slots : Nat} {Q : State → Prop}
variable {cc : ByteArray} {pc nL : Nat} {ls : Array Slot} {rest st0 : List Value} {D : va_G} {t : Nat → ClassId} {x : Nat → Nat} {A : Nat → Prop} {own : String}
variable {y : MethodName} {ws : List Cond} {rm : Room} {As : List Value} {ww : va_W} {S : Type} {pst : S → Prop} {res : S → Option Value} {w1 : S → va_W} {mc ms : Nat} {bytes : ByteArray} {maxL n index : Nat} {ret : Option FieldType}
/-- a call that takes the whole world -/
theorem ct_callVW {b ci : Nat} {qc : vw_C} {fs : List Value} {K : String} (C : Cx p s m args c cc nL own D t x A) (hM : Ct l D t x y ws rm (.ref b :: As) ww S pst res w1 mc ms) (cw : CallW R s args own K index y bytes maxL ret ws rm mc ms n) (hK1 : qc.1 = K) (hcl : vwCl[ci]? = some qc) (hself : (b, .inr (ci, fs)) ∈ ww) (hP : va_P D vwCl ww H) (hD : va_D A ww) (hS : va_S A s.heap H locs) (hln : As.length = n) (hls : ls.size = nL) (hst : st0 = As.reverse ++ .ref b :: rest) (hW : (rest.map fun v => v.category).sum ≤ 8) (hdg : decode cc pc = .ok (.invokevirtual index, 3)) (hf : cells + mc ≤ R.cells ∧ slots + ms ≤ R.slots)
    (kk : ∀ (u : S) (H1 : Heap) (locs1 : List Loc), pst u → va_P D vwCl (w1 u) H1 → va_D A (w1 u) → va_S A s.heap H1 locs1 → W p l e R s m args below meth c H1 locs1 (cells + mc) (slots + ms) Q (F0 m (pc + 3) ls ((res u).toList ++ rest))) : W p l e R s m args below meth c H locs cells slots Q (F0 m pc ls st0) := by
  obtain ⟨k, hk⟩ := List.mem_iff_getElem?.mp hself
  exact ct_callV (q0 := k) (wr := []) C hM cw hK1 hcl hk hP hD hS (List.range ww.length) [] (rng_map ww) ((nd_iff _).mpr List.nodup_range) rfl rfl (fun i hi => absurd hi List.not_mem_nil) hln hls hst hW hdg hf kk
end GW
