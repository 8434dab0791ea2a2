section
variable {p : Program} {l : Launch} {e : Env} {s : State} {m : MethodId} {below : List Frame} {meth : Method} {c : Code} {D : va_G} {t : Nat → ClassId} {x : Nat → Nat} {b L i : Nat} {xs : Nat → Int32} {T h a : Nat → Nat} {mq : Nat → Nat → Nat} {ma : Nat → Option Nat} {jc : CJ} {jr : RJ} {r : RS} {ls : Array Slot} {Q : State → Prop} {H : Heap} {locs : List Loc}
set_option maxHeartbeats 1000000 in
set_option maxRecDepth 100000 in
theorem lw_newWeek (C : Cx p s m #[Value.ref b] c code 4 RL D t x (fun q : Nat => s.heap.size ≤ q)) (hX : va_X b L xs s s.heap) (hbl : b < s.heap.size) (hL : L < 2 ^ 31) (hi : i + 8 ≤ L) (hwk : r.wk < 2 ^ 30) (hma : ∀ k, k < 8 → ma k = some (mq k 0)) (ok : Ok r) (hjc : okC r jc) (hjr : okR jr) (K : LwK p l e s m below meth c D t T h a mq ma b r ls Q) (hl : lv_has ls 4 [(0, .ref b), (1, .ref (T 0)), (2, .ref (a 0)), (3, .int (nI i))]) (hP : va_P D vwCl (cW t T h mq ma jc r ++ rW t a jr r) H) (hD : va_D (fun q : Nat => s.heap.size ≤ q) (cW t T h mq ma jc r ++ rW t a jr r)) (hS : va_S (fun q : Nat => s.heap.size ≤ q) s.heap H locs) : W p l e room_1 s m #[Value.ref b] below meth c H locs (113 + 5 * r.b) (8307 + 1434 * r.b) Q (F0 m 120 ls []) := by
  obtain ⟨hx, hcb, hml, hown, hts, hK, hA, hX0, hN⟩ := id C
  have hbA : ¬ (fun q : Nat => s.heap.size ≤ q) b := Nat.not_le.mpr hbl
  have hb16 := ok.1
  refine lv_aload_n hx hcb dL_law_120 rfl (lv_at hl 1 rfl) ?_
  refine lv_aload_n hx hcb dL_law_121 rfl (lv_at hl 0 rfl) ?_
  refine lv_iload_n hx hcb dL_law_122 rfl (lv_at hl 3 rfl) ?_
  refine lv_iconst (v := nI 1) hx hcb dL_law_123 (by decide) ?_
  refine q_iadd (x := i) (y := 1) hx hcb dL_law_124 ?_
  refine q_sld hx hcb hX hbl hbA hS (show i + 1 < L by omega) hL dL_law_125 ?_
  refine lv_i2l hx hcb dL_law_126 rfl ?_
  refine lv_bipush (v := nI 32) hx hcb dL_law_127 (by decide) ?_
  refine lv_lshl hx hcb dL_law_129 rfl ?_
  refine lv_aload_n hx hcb dL_law_130 rfl (lv_at hl 0 rfl) ?_
  refine lv_iload_n hx hcb dL_law_131 rfl (lv_at hl 3 rfl) ?_
  refine lv_iconst (v := nI 2) hx hcb dL_law_132 (by decide) ?_
  refine q_iadd (x := i) (y := 2) hx hcb dL_law_133 ?_
  refine q_sld hx hcb hX hbl hbA hS (show i + 2 < L by omega) hL dL_law_134 ?_
  refine lv_i2l hx hcb dL_law_135 rfl ?_
  refine lv_ldc2 hx hcb hown (hts _ wk_L_13) dL_law_136 ?_
  refine lv_land hx hcb dL_law_139 ?_
  refine lv_lor hx hcb dL_law_140 ?_
  refine lv_aload_n hx hcb dL_law_141 rfl (lv_at hl 0 rfl) ?_
  refine lv_iload_n hx hcb dL_law_142 rfl (lv_at hl 3 rfl) ?_
  refine lv_iconst (v := nI 3) hx hcb dL_law_143 (by decide) ?_
  refine q_iadd (x := i) (y := 3) hx hcb dL_law_144 ?_
  refine q_sld hx hcb hX hbl hbA hS (show i + 3 < L by omega) hL dL_law_145 ?_
  refine lv_i2l hx hcb dL_law_146 rfl ?_
  refine lv_bipush (v := nI 32) hx hcb dL_law_147 (by decide) ?_
  refine lv_lshl hx hcb dL_law_149 rfl ?_
  refine lv_aload_n hx hcb dL_law_150 rfl (lv_at hl 0 rfl) ?_
  refine lv_iload_n hx hcb dL_law_151 rfl (lv_at hl 3 rfl) ?_
  refine lv_iconst (v := nI 4) hx hcb dL_law_152 (by decide) ?_
  refine q_iadd (x := i) (y := 4) hx hcb dL_law_153 ?_
  refine q_sld hx hcb hX hbl hbA hS (show i + 4 < L by omega) hL dL_law_154 ?_
  refine lv_i2l hx hcb dL_law_155 rfl ?_
  refine lv_ldc2 hx hcb hown (hts _ wk_L_13) dL_law_156 ?_
  refine lv_land hx hcb dL_law_159 ?_
  refine lv_lor hx hcb dL_law_160 ?_
  refine ct_callVW (ci := 3) (As := [.long (lg2 (xs (i + 1)) (xs (i + 2))), .long (lg2 (xs (i + 3)) (xs (i + 4)))]) (rest := []) C (ct_fr (wr := rW t a jr r) (cl_newWeek l D t x T h mq ma jc r (lg2 (xs (i + 1)) (xs (i + 2))) (lg2 (xs (i + 3)) (xs (i + 4))) ok hjc hma)) (cwV 2 hts (gt_app (by simpa using ⟨wm_L_15, wi_yX3_newWeek, wv_X3_newWeek, wz_X3⟩) (gt_code wc_X3_newWeek)) rfl rfl rfl (by decide +kernel) ⟨Nat.le_of_ble_eq_true rfl, Nat.le_of_ble_eq_true rfl⟩) rfl rfl mem_c hP hD hS rfl hl.1 rfl (Nat.le_of_ble_eq_true rfl) dL_law_161 ⟨by show 113 + 5 * r.b + 0 ≤ 600000; omega, by show 8307 + 1434 * r.b + 0 ≤ 7302250; omega⟩ (fun u H locs hu hP hD hS => ?_)
  refine W.eq (g2 := F0 m 164 ls [.int (nI (r.wk + 1))]) rfl ?_
  refine lv_aload_n hx hcb dL_law_164 rfl (lv_at hl 2 rfl) ?_
  refine lv_aload_n hx hcb dL_law_165 rfl (lv_at hl 0 rfl) ?_
  refine lv_iload_n hx hcb dL_law_166 rfl (lv_at hl 3 rfl) ?_
  refine lv_iconst (v := nI 1) hx hcb dL_law_167 (by decide) ?_
  refine q_iadd (x := i) (y := 1) hx hcb dL_law_168 ?_
  refine q_sld hx hcb hX hbl hbA hS (show i + 1 < L by omega) hL dL_law_169 ?_
  refine lv_i2l hx hcb dL_law_170 rfl ?_
  refine lv_bipush (v := nI 32) hx hcb dL_law_171 (by decide) ?_
  refine lv_lshl hx hcb dL_law_173 rfl ?_
  refine lv_aload_n hx hcb dL_law_174 rfl (lv_at hl 0 rfl) ?_
  refine lv_iload_n hx hcb dL_law_175 rfl (lv_at hl 3 rfl) ?_
  refine lv_iconst (v := nI 2) hx hcb dL_law_176 (by decide) ?_
  refine q_iadd (x := i) (y := 2) hx hcb dL_law_177 ?_
  refine q_sld hx hcb hX hbl hbA hS (show i + 2 < L by omega) hL dL_law_178 ?_
  refine lv_i2l hx hcb dL_law_179 rfl ?_
  refine lv_ldc2 hx hcb hown (hts _ wk_L_13) dL_law_180 ?_
  refine lv_land hx hcb dL_law_183 ?_
  refine lv_lor hx hcb dL_law_184 ?_
  refine lv_aload_n hx hcb dL_law_185 rfl (lv_at hl 0 rfl) ?_
  refine lv_iload_n hx hcb dL_law_186 rfl (lv_at hl 3 rfl) ?_
  refine lv_iconst (v := nI 3) hx hcb dL_law_187 (by decide) ?_
  refine q_iadd (x := i) (y := 3) hx hcb dL_law_188 ?_
  refine q_sld hx hcb hX hbl hbA hS (show i + 3 < L by omega) hL dL_law_189 ?_
  refine lv_i2l hx hcb dL_law_190 rfl ?_
  refine lv_bipush (v := nI 32) hx hcb dL_law_191 (by decide) ?_
  refine lv_lshl hx hcb dL_law_193 rfl ?_
  refine lv_aload_n hx hcb dL_law_194 rfl (lv_at hl 0 rfl) ?_
  refine lv_iload_n hx hcb dL_law_195 rfl (lv_at hl 3 rfl) ?_
  refine lv_iconst (v := nI 4) hx hcb dL_law_196 (by decide) ?_
  refine q_iadd (x := i) (y := 4) hx hcb dL_law_197 ?_
  refine q_sld hx hcb hX hbl hbA hS (show i + 4 < L by omega) hL dL_law_198 ?_
  refine lv_i2l hx hcb dL_law_199 rfl ?_
  refine lv_ldc2 hx hcb hown (hts _ wk_L_13) dL_law_200 ?_
  refine lv_land hx hcb dL_law_203 ?_
  refine lv_lor hx hcb dL_law_204 ?_
  refine ct_callVW (ci := 4) (As := [.long (lg2 (xs (i + 1)) (xs (i + 2))), .long (lg2 (xs (i + 3)) (xs (i + 4)))]) (rest := [.int (nI (r.wk + 1))]) C (ct_frL (wr := cW t T h mq ma u (s_newWeek r (lg2 (xs (i + 1)) (xs (i + 2))) (lg2 (xs (i + 3)) (xs (i + 4))))) (rf_newWeek l D t x a jr r (lg2 (xs (i + 1)) (xs (i + 2))) (lg2 (xs (i + 3)) (xs (i + 4))) ok hjr)) (cwV 2 hts (gt_app (by simpa using ⟨wm_L_19, wi_yX4_newWeek, wv_X4_newWeek, wz_X4⟩) (gt_code wc_X4_newWeek)) rfl rfl rfl (by decide +kernel) ⟨Nat.le_of_ble_eq_true rfl, Nat.le_of_ble_eq_true rfl⟩) rfl rfl mem_r hP hD hS rfl hl.1 rfl (Nat.le_of_ble_eq_true rfl) dL_law_205 ⟨by show 113 + 5 * r.b + 0 + 0 ≤ 600000; omega, by show 8307 + 1434 * r.b + 0 + 0 ≤ 7302250; omega⟩ (fun u2 H locs hu2 hP hD hS => ?_)
  refine W.eq (g2 := F0 m 208 ls [.int (nI (r.wk + 1)), .int (nI (r.wk + 1))]) rfl ?_
  refine lv_icmp_eq (tgt := 859) hx hcb dL_law_208 (by decide) (fun _ => ?_) (fun q => absurd rfl q)
  have bw : (s_newWeek r (lg2 (xs (i + 1)) (xs (i + 2))) (lg2 (xs (i + 3)) (xs (i + 4)))).b = r.b + 0 / 5 ∧ (s_newWeek r (lg2 (xs (i + 1)) (xs (i + 2))) (lg2 (xs (i + 3)) (xs (i + 4)))).wk ≤ r.wk + 1 := bw_newWeek (r := r)
  have bw1 := bw.1
  exact K (s_newWeek r (lg2 (xs (i + 1)) (xs (i + 2))) (lg2 (xs (i + 3)) (xs (i + 4)))) u u2 _ _ H locs (by omega) (by omega) bw.2 (ok_newWeek ok) hu hu2 hP hD hS
set_option maxHeartbeats 1000000 in
set_option maxRecDepth 100000 in
theorem lw_today (C : Cx p s m #[Value.ref b] c code 4 RL D t x (fun q : Nat => s.heap.size ≤ q)) (hX : va_X b L xs s s.heap) (hbl : b < s.heap.size) (hL : L < 2 ^ 31) (hi : i + 8 ≤ L) (hwk : r.wk < 2 ^ 30) (hma : ∀ k, k < 8 → ma k = some (mq k 0)) (ok : Ok r) (hjc : okC r jc) (hjr : okR jr) (K : LwK p l e s m below meth c D t T h a mq ma b r ls Q) (hl : lv_has ls 4 [(0, .ref b), (1, .ref (T 0)), (2, .ref (a 0)), (3, .int (nI i))]) (hP : va_P D vwCl (cW t T h mq ma jc r ++ rW t a jr r) H) (hD : va_D (fun q : Nat => s.heap.size ≤ q) (cW t T h mq ma jc r ++ rW t a jr r)) (hS : va_S (fun q : Nat => s.heap.size ≤ q) s.heap H locs) : W p l e room_1 s m #[Value.ref b] below meth c H locs (113 + 5 * r.b) (8307 + 1434 * r.b) Q (F0 m 213 ls []) := by
  obtain ⟨hx, hcb, hml, hown, hts, hK, hA, hX0, hN⟩ := id C
  have hbA : ¬ (fun q : Nat => s.heap.size ≤ q) b := Nat.not_le.mpr hbl
  have hb16 := ok.1
  refine lv_aload_n hx hcb dL_law_213 rfl (lv_at hl 1 rfl) ?_
  refine lv_aload_n hx hcb dL_law_214 rfl (lv_at hl 0 rfl) ?_
  refine lv_iload_n hx hcb dL_law_215 rfl (lv_at hl 3 rfl) ?_
  refine lv_iconst (v := nI 1) hx hcb dL_law_216 (by decide) ?_
  refine q_iadd (x := i) (y := 1) hx hcb dL_law_217 ?_
  refine q_sld hx hcb hX hbl hbA hS (show i + 1 < L by omega) hL dL_law_218 ?_
  refine ct_callVW (ci := 3) (As := [.int (xs (i + 1))]) (rest := []) C (ct_fr (wr := rW t a jr r) (cl_today l D t x T h mq ma jc r (xs (i + 1)) ok hjc hma)) (cwV 1 hts (gt_app (by simpa using ⟨wm_L_20, wi_yX3_today, wv_X3_today, wz_X3⟩) (gt_code wc_X3_today)) rfl rfl rfl (by decide +kernel) ⟨Nat.le_of_ble_eq_true rfl, Nat.le_of_ble_eq_true rfl⟩) rfl rfl mem_c hP hD hS rfl hl.1 rfl (Nat.le_of_ble_eq_true rfl) dL_law_219 ⟨by show 113 + 5 * r.b + 0 ≤ 600000; omega, by show 8307 + 1434 * r.b + 0 ≤ 7302250; omega⟩ (fun u H locs hu hP hD hS => ?_)
  refine W.eq (g2 := F0 m 222 ls [.int (bI (v_today r (xs (i + 1))))]) rfl ?_
  refine lv_aload_n hx hcb dL_law_222 rfl (lv_at hl 2 rfl) ?_
  refine lv_aload_n hx hcb dL_law_223 rfl (lv_at hl 0 rfl) ?_
  refine lv_iload_n hx hcb dL_law_224 rfl (lv_at hl 3 rfl) ?_
  refine lv_iconst (v := nI 1) hx hcb dL_law_225 (by decide) ?_
  refine q_iadd (x := i) (y := 1) hx hcb dL_law_226 ?_
  refine q_sld hx hcb hX hbl hbA hS (show i + 1 < L by omega) hL dL_law_227 ?_
  refine ct_callVW (ci := 4) (As := [.int (xs (i + 1))]) (rest := [.int (bI (v_today r (xs (i + 1))))]) C (ct_frL (wr := cW t T h mq ma u (s_today r (xs (i + 1)))) (rf_today l D t x a jr r (xs (i + 1)) ok hjr)) (cwV 1 hts (gt_app (by simpa using ⟨wm_L_24, wi_yX4_today, wv_X4_today, wz_X4⟩) (gt_code wc_X4_today)) rfl rfl rfl (by decide +kernel) ⟨Nat.le_of_ble_eq_true rfl, Nat.le_of_ble_eq_true rfl⟩) rfl rfl mem_r hP hD hS rfl hl.1 rfl (Nat.le_of_ble_eq_true rfl) dL_law_228 ⟨by show 113 + 5 * r.b + 0 + 0 ≤ 600000; omega, by show 8307 + 1434 * r.b + 0 + 0 ≤ 7302250; omega⟩ (fun u2 H locs hu2 hP hD hS => ?_)
  refine W.eq (g2 := F0 m 231 ls [.int (bI (v_today r (xs (i + 1)))), .int (bI (v_today r (xs (i + 1))))]) rfl ?_
  refine lv_icmp_eq (tgt := 859) hx hcb dL_law_231 (by decide) (fun _ => ?_) (fun q => absurd rfl q)
  have bw : (s_today r (xs (i + 1))).b = r.b + 0 / 5 ∧ (s_today r (xs (i + 1))).wk ≤ r.wk + 1 := bw_today (r := r)
  have bw1 := bw.1
  exact K (s_today r (xs (i + 1))) u u2 _ _ H locs (by omega) (by omega) bw.2 (ok_today ok) hu hu2 hP hD hS
set_option maxHeartbeats 1000000 in
set_option maxRecDepth 100000 in
theorem lw_money (C : Cx p s m #[Value.ref b] c code 4 RL D t x (fun q : Nat => s.heap.size ≤ q)) (hX : va_X b L xs s s.heap) (hbl : b < s.heap.size) (hL : L < 2 ^ 31) (hi : i + 8 ≤ L) (hwk : r.wk < 2 ^ 30) (hma : ∀ k, k < 8 → ma k = some (mq k 0)) (ok : Ok r) (hjc : okC r jc) (hjr : okR jr) (K : LwK p l e s m below meth c D t T h a mq ma b r ls Q) (hl : lv_has ls 4 [(0, .ref b), (1, .ref (T 0)), (2, .ref (a 0)), (3, .int (nI i))]) (hP : va_P D vwCl (cW t T h mq ma jc r ++ rW t a jr r) H) (hD : va_D (fun q : Nat => s.heap.size ≤ q) (cW t T h mq ma jc r ++ rW t a jr r)) (hS : va_S (fun q : Nat => s.heap.size ≤ q) s.heap H locs) : W p l e room_1 s m #[Value.ref b] below meth c H locs (113 + 5 * r.b) (8307 + 1434 * r.b) Q (F0 m 236 ls []) := by
  obtain ⟨hx, hcb, hml, hown, hts, hK, hA, hX0, hN⟩ := id C
  have hbA : ¬ (fun q : Nat => s.heap.size ≤ q) b := Nat.not_le.mpr hbl
  have hb16 := ok.1
  refine lv_aload_n hx hcb dL_law_236 rfl (lv_at hl 1 rfl) ?_
  refine lv_aload_n hx hcb dL_law_237 rfl (lv_at hl 0 rfl) ?_
  refine lv_iload_n hx hcb dL_law_238 rfl (lv_at hl 3 rfl) ?_
  refine lv_iconst (v := nI 1) hx hcb dL_law_239 (by decide) ?_
  refine q_iadd (x := i) (y := 1) hx hcb dL_law_240 ?_
  refine q_sld hx hcb hX hbl hbA hS (show i + 1 < L by omega) hL dL_law_241 ?_
  refine lv_aload_n hx hcb dL_law_242 rfl (lv_at hl 0 rfl) ?_
  refine lv_iload_n hx hcb dL_law_243 rfl (lv_at hl 3 rfl) ?_
  refine lv_iconst (v := nI 2) hx hcb dL_law_244 (by decide) ?_
  refine q_iadd (x := i) (y := 2) hx hcb dL_law_245 ?_
  refine q_sld hx hcb hX hbl hbA hS (show i + 2 < L by omega) hL dL_law_246 ?_
  refine lv_i2l hx hcb dL_law_247 rfl ?_
  refine lv_bipush (v := nI 32) hx hcb dL_law_248 (by decide) ?_
  refine lv_lshl hx hcb dL_law_250 rfl ?_
  refine lv_aload_n hx hcb dL_law_251 rfl (lv_at hl 0 rfl) ?_
  refine lv_iload_n hx hcb dL_law_252 rfl (lv_at hl 3 rfl) ?_
  refine lv_iconst (v := nI 3) hx hcb dL_law_253 (by decide) ?_
  refine q_iadd (x := i) (y := 3) hx hcb dL_law_254 ?_
  refine q_sld hx hcb hX hbl hbA hS (show i + 3 < L by omega) hL dL_law_255 ?_
  refine lv_i2l hx hcb dL_law_256 rfl ?_
  refine lv_ldc2 hx hcb hown (hts _ wk_L_13) dL_law_257 ?_
  refine lv_land hx hcb dL_law_260 ?_
  refine lv_lor hx hcb dL_law_261 ?_
  refine ct_callVW (ci := 3) (As := [.int (xs (i + 1)), .long (lg2 (xs (i + 2)) (xs (i + 3)))]) (rest := []) C (ct_fr (wr := rW t a jr r) (cl_money l D t x T h mq ma jc r (xs (i + 1)) (lg2 (xs (i + 2)) (xs (i + 3))) ok hjc hma)) (cwV 2 hts (gt_app (by simpa using ⟨wm_L_25, wi_yX3_money, wv_X3_money, wz_X3⟩) (gt_code wc_X3_money)) rfl rfl rfl (by decide +kernel) ⟨Nat.le_of_ble_eq_true rfl, Nat.le_of_ble_eq_true rfl⟩) rfl rfl mem_c hP hD hS rfl hl.1 rfl (Nat.le_of_ble_eq_true rfl) dL_law_262 ⟨by show 113 + 5 * r.b + 0 ≤ 600000; omega, by show 8307 + 1434 * r.b + 0 ≤ 7302250; omega⟩ (fun u H locs hu hP hD hS => ?_)
  refine W.eq (g2 := F0 m 265 ls [.int (bI (monf (xs (i + 1)) (lg2 (xs (i + 2)) (xs (i + 3)))))]) rfl ?_
  refine lv_aload_n hx hcb dL_law_265 rfl (lv_at hl 2 rfl) ?_
  refine lv_aload_n hx hcb dL_law_266 rfl (lv_at hl 0 rfl) ?_
  refine lv_iload_n hx hcb dL_law_267 rfl (lv_at hl 3 rfl) ?_
  refine lv_iconst (v := nI 1) hx hcb dL_law_268 (by decide) ?_
  refine q_iadd (x := i) (y := 1) hx hcb dL_law_269 ?_
  refine q_sld hx hcb hX hbl hbA hS (show i + 1 < L by omega) hL dL_law_270 ?_
  refine lv_aload_n hx hcb dL_law_271 rfl (lv_at hl 0 rfl) ?_
  refine lv_iload_n hx hcb dL_law_272 rfl (lv_at hl 3 rfl) ?_
  refine lv_iconst (v := nI 2) hx hcb dL_law_273 (by decide) ?_
  refine q_iadd (x := i) (y := 2) hx hcb dL_law_274 ?_
  refine q_sld hx hcb hX hbl hbA hS (show i + 2 < L by omega) hL dL_law_275 ?_
  refine lv_i2l hx hcb dL_law_276 rfl ?_
  refine lv_bipush (v := nI 32) hx hcb dL_law_277 (by decide) ?_
  refine lv_lshl hx hcb dL_law_279 rfl ?_
  refine lv_aload_n hx hcb dL_law_280 rfl (lv_at hl 0 rfl) ?_
  refine lv_iload_n hx hcb dL_law_281 rfl (lv_at hl 3 rfl) ?_
  refine lv_iconst (v := nI 3) hx hcb dL_law_282 (by decide) ?_
  refine q_iadd (x := i) (y := 3) hx hcb dL_law_283 ?_
  refine q_sld hx hcb hX hbl hbA hS (show i + 3 < L by omega) hL dL_law_284 ?_
  refine lv_i2l hx hcb dL_law_285 rfl ?_
  refine lv_ldc2 hx hcb hown (hts _ wk_L_13) dL_law_286 ?_
  refine lv_land hx hcb dL_law_289 ?_
  refine lv_lor hx hcb dL_law_290 ?_
  refine ct_callVW (ci := 4) (As := [.int (xs (i + 1)), .long (lg2 (xs (i + 2)) (xs (i + 3)))]) (rest := [.int (bI (monf (xs (i + 1)) (lg2 (xs (i + 2)) (xs (i + 3)))))]) C (ct_frL (wr := cW t T h mq ma u (s_money r (xs (i + 1)) (lg2 (xs (i + 2)) (xs (i + 3))))) (rf_money l D t x a jr r (xs (i + 1)) (lg2 (xs (i + 2)) (xs (i + 3))) ok hjr)) (cwV 2 hts (gt_app (by simpa using ⟨wm_L_29, wi_yX4_money, wv_X4_money, wz_X4⟩) (gt_code wc_X4_money)) rfl rfl rfl (by decide +kernel) ⟨Nat.le_of_ble_eq_true rfl, Nat.le_of_ble_eq_true rfl⟩) rfl rfl mem_r hP hD hS rfl hl.1 rfl (Nat.le_of_ble_eq_true rfl) dL_law_291 ⟨by show 113 + 5 * r.b + 0 + 0 ≤ 600000; omega, by show 8307 + 1434 * r.b + 0 + 0 ≤ 7302250; omega⟩ (fun u2 H locs hu2 hP hD hS => ?_)
  refine W.eq (g2 := F0 m 294 ls [.int (bI (monf (xs (i + 1)) (lg2 (xs (i + 2)) (xs (i + 3))))), .int (bI (monf (xs (i + 1)) (lg2 (xs (i + 2)) (xs (i + 3)))))]) rfl ?_
  refine lv_icmp_eq (tgt := 859) hx hcb dL_law_294 (by decide) (fun _ => ?_) (fun q => absurd rfl q)
  have bw : (s_money r (xs (i + 1)) (lg2 (xs (i + 2)) (xs (i + 3)))).b = r.b + 0 / 5 ∧ (s_money r (xs (i + 1)) (lg2 (xs (i + 2)) (xs (i + 3)))).wk ≤ r.wk + 1 := bw_money (r := r)
  have bw1 := bw.1
  exact K (s_money r (xs (i + 1)) (lg2 (xs (i + 2)) (xs (i + 3)))) u u2 _ _ H locs (by omega) (by omega) bw.2 (ok_money ok) hu hu2 hP hD hS
set_option maxHeartbeats 1000000 in
set_option maxRecDepth 100000 in
theorem lw_buy (C : Cx p s m #[Value.ref b] c code 4 RL D t x (fun q : Nat => s.heap.size ≤ q)) (hX : va_X b L xs s s.heap) (hbl : b < s.heap.size) (hL : L < 2 ^ 31) (hi : i + 8 ≤ L) (hwk : r.wk < 2 ^ 30) (hma : ∀ k, k < 8 → ma k = some (mq k 0)) (ok : Ok r) (hjc : okC r jc) (hjr : okR jr) (K : LwK p l e s m below meth c D t T h a mq ma b r ls Q) (hl : lv_has ls 4 [(0, .ref b), (1, .ref (T 0)), (2, .ref (a 0)), (3, .int (nI i))]) (hP : va_P D vwCl (cW t T h mq ma jc r ++ rW t a jr r) H) (hD : va_D (fun q : Nat => s.heap.size ≤ q) (cW t T h mq ma jc r ++ rW t a jr r)) (hS : va_S (fun q : Nat => s.heap.size ≤ q) s.heap H locs) : W p l e room_1 s m #[Value.ref b] below meth c H locs (113 + 5 * r.b) (8307 + 1434 * r.b) Q (F0 m 299 ls []) := by
  obtain ⟨hx, hcb, hml, hown, hts, hK, hA, hX0, hN⟩ := id C
  have hbA : ¬ (fun q : Nat => s.heap.size ≤ q) b := Nat.not_le.mpr hbl
  have hb16 := ok.1
  refine lv_aload_n hx hcb dL_law_299 rfl (lv_at hl 1 rfl) ?_
  refine lv_aload_n hx hcb dL_law_300 rfl (lv_at hl 0 rfl) ?_
  refine lv_iload_n hx hcb dL_law_301 rfl (lv_at hl 3 rfl) ?_
  refine lv_iconst (v := nI 1) hx hcb dL_law_302 (by decide) ?_
  refine q_iadd (x := i) (y := 1) hx hcb dL_law_303 ?_
  refine q_sld hx hcb hX hbl hbA hS (show i + 1 < L by omega) hL dL_law_304 ?_
  refine lv_aload_n hx hcb dL_law_305 rfl (lv_at hl 0 rfl) ?_
  refine lv_iload_n hx hcb dL_law_306 rfl (lv_at hl 3 rfl) ?_
  refine lv_iconst (v := nI 2) hx hcb dL_law_307 (by decide) ?_
  refine q_iadd (x := i) (y := 2) hx hcb dL_law_308 ?_
  refine q_sld hx hcb hX hbl hbA hS (show i + 2 < L by omega) hL dL_law_309 ?_
  refine lv_aload_n hx hcb dL_law_310 rfl (lv_at hl 0 rfl) ?_
  refine lv_iload_n hx hcb dL_law_311 rfl (lv_at hl 3 rfl) ?_
  refine lv_iconst (v := nI 3) hx hcb dL_law_312 (by decide) ?_
  refine q_iadd (x := i) (y := 3) hx hcb dL_law_313 ?_
  refine q_sld hx hcb hX hbl hbA hS (show i + 3 < L by omega) hL dL_law_314 ?_
  refine lv_aload_n hx hcb dL_law_315 rfl (lv_at hl 0 rfl) ?_
  refine lv_iload_n hx hcb dL_law_316 rfl (lv_at hl 3 rfl) ?_
  refine lv_iconst (v := nI 4) hx hcb dL_law_317 (by decide) ?_
  refine q_iadd (x := i) (y := 4) hx hcb dL_law_318 ?_
  refine q_sld hx hcb hX hbl hbA hS (show i + 4 < L by omega) hL dL_law_319 ?_
  refine lv_aload_n hx hcb dL_law_320 rfl (lv_at hl 0 rfl) ?_
  refine lv_iload_n hx hcb dL_law_321 rfl (lv_at hl 3 rfl) ?_
  refine lv_iconst (v := nI 5) hx hcb dL_law_322 (by decide) ?_
  refine q_iadd (x := i) (y := 5) hx hcb dL_law_323 ?_
  refine q_sld hx hcb hX hbl hbA hS (show i + 5 < L by omega) hL dL_law_324 ?_
  refine lv_i2l hx hcb dL_law_325 rfl ?_
  refine lv_bipush (v := nI 32) hx hcb dL_law_326 (by decide) ?_
  refine lv_lshl hx hcb dL_law_328 rfl ?_
  refine lv_aload_n hx hcb dL_law_329 rfl (lv_at hl 0 rfl) ?_
  refine lv_iload_n hx hcb dL_law_330 rfl (lv_at hl 3 rfl) ?_
  refine lv_bipush (v := nI 6) hx hcb dL_law_331 (by decide) ?_
  refine q_iadd (x := i) (y := 6) hx hcb dL_law_333 ?_
  refine q_sld hx hcb hX hbl hbA hS (show i + 6 < L by omega) hL dL_law_334 ?_
  refine lv_i2l hx hcb dL_law_335 rfl ?_
  refine lv_ldc2 hx hcb hown (hts _ wk_L_13) dL_law_336 ?_
  refine lv_land hx hcb dL_law_339 ?_
  refine lv_lor hx hcb dL_law_340 ?_
  refine lv_aload_n hx hcb dL_law_341 rfl (lv_at hl 0 rfl) ?_
  refine lv_iload_n hx hcb dL_law_342 rfl (lv_at hl 3 rfl) ?_
  refine lv_bipush (v := nI 7) hx hcb dL_law_343 (by decide) ?_
  refine q_iadd (x := i) (y := 7) hx hcb dL_law_345 ?_
  refine q_sld hx hcb hX hbl hbA hS (show i + 7 < L by omega) hL dL_law_346 ?_
  by_cases hv : buyv (xs (i + 1)) (xs (i + 2)) (xs (i + 3)) (xs (i + 4)) (xs (i + 7)) r.wk r.b r.pu
  · skip
    refine ct_callVW (ci := 3) (As := [.int (xs (i + 1)), .int (xs (i + 2)), .int (xs (i + 3)), .int (xs (i + 4)), .long (lg2 (xs (i + 5)) (xs (i + 6))), .int (xs (i + 7))]) (rest := []) C (ct_fr (wr := rW t a jr r) (cl_buy l D t x T h mq ma jc r (xs (i + 1)) (xs (i + 2)) (xs (i + 3)) (xs (i + 4)) (lg2 (xs (i + 5)) (xs (i + 6))) (xs (i + 7)) ok hjc hma hwk hv)) (cwV 6 hts (gt_app (by simpa using ⟨wm_L_30, wi_yX3_buy, wv_X3_buy, wz_X3⟩) (gt_code wc_X3_buy)) rfl rfl rfl (by decide +kernel) ⟨Nat.le_of_ble_eq_true rfl, Nat.le_of_ble_eq_true rfl⟩) rfl rfl mem_c hP hD hS rfl hl.1 rfl (Nat.le_of_ble_eq_true rfl) dL_law_347 ⟨by show 113 + 5 * r.b + 5 ≤ 600000; omega, by show 8307 + 1434 * r.b + 1434 ≤ 7302250; omega⟩ (fun u H locs hu hP hD hS => ?_)
    refine W.eq (g2 := F0 m 350 ls [.int (nI r.b)]) rfl ?_
    refine lv_aload_n hx hcb dL_law_350 rfl (lv_at hl 2 rfl) ?_
    refine lv_aload_n hx hcb dL_law_351 rfl (lv_at hl 0 rfl) ?_
    refine lv_iload_n hx hcb dL_law_352 rfl (lv_at hl 3 rfl) ?_
    refine lv_iconst (v := nI 1) hx hcb dL_law_353 (by decide) ?_
    refine q_iadd (x := i) (y := 1) hx hcb dL_law_354 ?_
    refine q_sld hx hcb hX hbl hbA hS (show i + 1 < L by omega) hL dL_law_355 ?_
    refine lv_aload_n hx hcb dL_law_356 rfl (lv_at hl 0 rfl) ?_
    refine lv_iload_n hx hcb dL_law_357 rfl (lv_at hl 3 rfl) ?_
    refine lv_iconst (v := nI 2) hx hcb dL_law_358 (by decide) ?_
    refine q_iadd (x := i) (y := 2) hx hcb dL_law_359 ?_
    refine q_sld hx hcb hX hbl hbA hS (show i + 2 < L by omega) hL dL_law_360 ?_
    refine lv_aload_n hx hcb dL_law_361 rfl (lv_at hl 0 rfl) ?_
    refine lv_iload_n hx hcb dL_law_362 rfl (lv_at hl 3 rfl) ?_
    refine lv_iconst (v := nI 3) hx hcb dL_law_363 (by decide) ?_
    refine q_iadd (x := i) (y := 3) hx hcb dL_law_364 ?_
    refine q_sld hx hcb hX hbl hbA hS (show i + 3 < L by omega) hL dL_law_365 ?_
    refine lv_aload_n hx hcb dL_law_366 rfl (lv_at hl 0 rfl) ?_
    refine lv_iload_n hx hcb dL_law_367 rfl (lv_at hl 3 rfl) ?_
    refine lv_iconst (v := nI 4) hx hcb dL_law_368 (by decide) ?_
    refine q_iadd (x := i) (y := 4) hx hcb dL_law_369 ?_
    refine q_sld hx hcb hX hbl hbA hS (show i + 4 < L by omega) hL dL_law_370 ?_
    refine lv_aload_n hx hcb dL_law_371 rfl (lv_at hl 0 rfl) ?_
    refine lv_iload_n hx hcb dL_law_372 rfl (lv_at hl 3 rfl) ?_
    refine lv_iconst (v := nI 5) hx hcb dL_law_373 (by decide) ?_
    refine q_iadd (x := i) (y := 5) hx hcb dL_law_374 ?_
    refine q_sld hx hcb hX hbl hbA hS (show i + 5 < L by omega) hL dL_law_375 ?_
    refine lv_i2l hx hcb dL_law_376 rfl ?_
    refine lv_bipush (v := nI 32) hx hcb dL_law_377 (by decide) ?_
    refine lv_lshl hx hcb dL_law_379 rfl ?_
    refine lv_aload_n hx hcb dL_law_380 rfl (lv_at hl 0 rfl) ?_
    refine lv_iload_n hx hcb dL_law_381 rfl (lv_at hl 3 rfl) ?_
    refine lv_bipush (v := nI 6) hx hcb dL_law_382 (by decide) ?_
    refine q_iadd (x := i) (y := 6) hx hcb dL_law_384 ?_
    refine q_sld hx hcb hX hbl hbA hS (show i + 6 < L by omega) hL dL_law_385 ?_
    refine lv_i2l hx hcb dL_law_386 rfl ?_
    refine lv_ldc2 hx hcb hown (hts _ wk_L_13) dL_law_387 ?_
    refine lv_land hx hcb dL_law_390 ?_
    refine lv_lor hx hcb dL_law_391 ?_
    refine lv_aload_n hx hcb dL_law_392 rfl (lv_at hl 0 rfl) ?_
    refine lv_iload_n hx hcb dL_law_393 rfl (lv_at hl 3 rfl) ?_
    refine lv_bipush (v := nI 7) hx hcb dL_law_394 (by decide) ?_
    refine q_iadd (x := i) (y := 7) hx hcb dL_law_396 ?_
    refine q_sld hx hcb hX hbl hbA hS (show i + 7 < L by omega) hL dL_law_397 ?_
    refine ct_callVW (ci := 4) (As := [.int (xs (i + 1)), .int (xs (i + 2)), .int (xs (i + 3)), .int (xs (i + 4)), .long (lg2 (xs (i + 5)) (xs (i + 6))), .int (xs (i + 7))]) (rest := [.int (nI r.b)]) C (ct_frL (wr := cW t T h mq ma u (s_buy r (xs (i + 1)) (xs (i + 2)) (xs (i + 3)) (xs (i + 4)) (lg2 (xs (i + 5)) (xs (i + 6))) (xs (i + 7)))) (rf_buyY l D t x a jr r (xs (i + 1)) (xs (i + 2)) (xs (i + 3)) (xs (i + 4)) (lg2 (xs (i + 5)) (xs (i + 6))) (xs (i + 7)) ok hjr hwk hv)) (cwV 6 hts (gt_app (by simpa using ⟨wm_L_34, wi_yX4_buy, wv_X4_buy, wz_X4⟩) (gt_code wc_X4_buy)) rfl rfl rfl (by decide +kernel) ⟨Nat.le_of_ble_eq_true rfl, Nat.le_of_ble_eq_true rfl⟩) rfl rfl mem_r hP hD hS rfl hl.1 rfl (Nat.le_of_ble_eq_true rfl) dL_law_398 ⟨by show 113 + 5 * r.b + 5 + 0 ≤ 600000; omega, by show 8307 + 1434 * r.b + 1434 + 0 ≤ 7302250; omega⟩ (fun u2 H locs hu2 hP hD hS => ?_)
    refine W.eq (g2 := F0 m 401 ls [.int (nI r.b), .int (nI r.b)]) rfl ?_
    refine lv_icmp_eq (tgt := 859) hx hcb dL_law_401 (by decide) (fun _ => ?_) (fun q => absurd rfl q)
    have bw : (s_buy r (xs (i + 1)) (xs (i + 2)) (xs (i + 3)) (xs (i + 4)) (lg2 (xs (i + 5)) (xs (i + 6))) (xs (i + 7))).b = r.b + 5 / 5 ∧ (s_buy r (xs (i + 1)) (xs (i + 2)) (xs (i + 3)) (xs (i + 4)) (lg2 (xs (i + 5)) (xs (i + 6))) (xs (i + 7))).wk ≤ r.wk + 1 := bw_buy (r := r)
    have bw1 := bw.1
    exact K (s_buy r (xs (i + 1)) (xs (i + 2)) (xs (i + 3)) (xs (i + 4)) (lg2 (xs (i + 5)) (xs (i + 6))) (xs (i + 7))) u u2 _ _ H locs (by omega) (by omega) bw.2 (ok_buy ok hv) hu hu2 hP hD hS
  · skip
    refine ct_callVW (ci := 3) (As := [.int (xs (i + 1)), .int (xs (i + 2)), .int (xs (i + 3)), .int (xs (i + 4)), .long (lg2 (xs (i + 5)) (xs (i + 6))), .int (xs (i + 7))]) (rest := []) C (ct_fr (wr := rW t a jr r) (cl_buyN l D t x T h mq ma jc r (xs (i + 1)) (xs (i + 2)) (xs (i + 3)) (xs (i + 4)) (lg2 (xs (i + 5)) (xs (i + 6))) (xs (i + 7)) ok hjc hma hwk hv)) (cwV 6 hts (gt_app (by simpa using ⟨wm_L_30, wi_yX3_buy, wv_X3_buy, wz_X3⟩) (gt_code wc_X3_buy)) rfl rfl rfl (by decide +kernel) ⟨Nat.le_of_ble_eq_true rfl, Nat.le_of_ble_eq_true rfl⟩) rfl rfl mem_c hP hD hS rfl hl.1 rfl (Nat.le_of_ble_eq_true rfl) dL_law_347 ⟨by show 113 + 5 * r.b + 0 ≤ 600000; omega, by show 8307 + 1434 * r.b + 0 ≤ 7302250; omega⟩ (fun u H locs hu hP hD hS => ?_)
    refine W.eq (g2 := F0 m 350 ls [.int (-1)]) rfl ?_
    refine lv_aload_n hx hcb dL_law_350 rfl (lv_at hl 2 rfl) ?_
    refine lv_aload_n hx hcb dL_law_351 rfl (lv_at hl 0 rfl) ?_
    refine lv_iload_n hx hcb dL_law_352 rfl (lv_at hl 3 rfl) ?_
    refine lv_iconst (v := nI 1) hx hcb dL_law_353 (by decide) ?_
    refine q_iadd (x := i) (y := 1) hx hcb dL_law_354 ?_
    refine q_sld hx hcb hX hbl hbA hS (show i + 1 < L by omega) hL dL_law_355 ?_
    refine lv_aload_n hx hcb dL_law_356 rfl (lv_at hl 0 rfl) ?_
    refine lv_iload_n hx hcb dL_law_357 rfl (lv_at hl 3 rfl) ?_
    refine lv_iconst (v := nI 2) hx hcb dL_law_358 (by decide) ?_
    refine q_iadd (x := i) (y := 2) hx hcb dL_law_359 ?_
    refine q_sld hx hcb hX hbl hbA hS (show i + 2 < L by omega) hL dL_law_360 ?_
    refine lv_aload_n hx hcb dL_law_361 rfl (lv_at hl 0 rfl) ?_
    refine lv_iload_n hx hcb dL_law_362 rfl (lv_at hl 3 rfl) ?_
    refine lv_iconst (v := nI 3) hx hcb dL_law_363 (by decide) ?_
    refine q_iadd (x := i) (y := 3) hx hcb dL_law_364 ?_
    refine q_sld hx hcb hX hbl hbA hS (show i + 3 < L by omega) hL dL_law_365 ?_
    refine lv_aload_n hx hcb dL_law_366 rfl (lv_at hl 0 rfl) ?_
    refine lv_iload_n hx hcb dL_law_367 rfl (lv_at hl 3 rfl) ?_
    refine lv_iconst (v := nI 4) hx hcb dL_law_368 (by decide) ?_
    refine q_iadd (x := i) (y := 4) hx hcb dL_law_369 ?_
    refine q_sld hx hcb hX hbl hbA hS (show i + 4 < L by omega) hL dL_law_370 ?_
    refine lv_aload_n hx hcb dL_law_371 rfl (lv_at hl 0 rfl) ?_
    refine lv_iload_n hx hcb dL_law_372 rfl (lv_at hl 3 rfl) ?_
    refine lv_iconst (v := nI 5) hx hcb dL_law_373 (by decide) ?_
    refine q_iadd (x := i) (y := 5) hx hcb dL_law_374 ?_
    refine q_sld hx hcb hX hbl hbA hS (show i + 5 < L by omega) hL dL_law_375 ?_
    refine lv_i2l hx hcb dL_law_376 rfl ?_
    refine lv_bipush (v := nI 32) hx hcb dL_law_377 (by decide) ?_
    refine lv_lshl hx hcb dL_law_379 rfl ?_
    refine lv_aload_n hx hcb dL_law_380 rfl (lv_at hl 0 rfl) ?_
    refine lv_iload_n hx hcb dL_law_381 rfl (lv_at hl 3 rfl) ?_
    refine lv_bipush (v := nI 6) hx hcb dL_law_382 (by decide) ?_
    refine q_iadd (x := i) (y := 6) hx hcb dL_law_384 ?_
    refine q_sld hx hcb hX hbl hbA hS (show i + 6 < L by omega) hL dL_law_385 ?_
    refine lv_i2l hx hcb dL_law_386 rfl ?_
    refine lv_ldc2 hx hcb hown (hts _ wk_L_13) dL_law_387 ?_
    refine lv_land hx hcb dL_law_390 ?_
    refine lv_lor hx hcb dL_law_391 ?_
    refine lv_aload_n hx hcb dL_law_392 rfl (lv_at hl 0 rfl) ?_
    refine lv_iload_n hx hcb dL_law_393 rfl (lv_at hl 3 rfl) ?_
    refine lv_bipush (v := nI 7) hx hcb dL_law_394 (by decide) ?_
    refine q_iadd (x := i) (y := 7) hx hcb dL_law_396 ?_
    refine q_sld hx hcb hX hbl hbA hS (show i + 7 < L by omega) hL dL_law_397 ?_
    refine ct_callVW (ci := 4) (As := [.int (xs (i + 1)), .int (xs (i + 2)), .int (xs (i + 3)), .int (xs (i + 4)), .long (lg2 (xs (i + 5)) (xs (i + 6))), .int (xs (i + 7))]) (rest := [.int (-1)]) C (ct_frL (wr := cW t T h mq ma u (r)) (rf_buyN l D t x a jr r (xs (i + 1)) (xs (i + 2)) (xs (i + 3)) (xs (i + 4)) (lg2 (xs (i + 5)) (xs (i + 6))) (xs (i + 7)) ok hjr hwk hv)) (cwV 6 hts (gt_app (by simpa using ⟨wm_L_34, wi_yX4_buy, wv_X4_buy, wz_X4⟩) (gt_code wc_X4_buy)) rfl rfl rfl (by decide +kernel) ⟨Nat.le_of_ble_eq_true rfl, Nat.le_of_ble_eq_true rfl⟩) rfl rfl mem_r hP hD hS rfl hl.1 rfl (Nat.le_of_ble_eq_true rfl) dL_law_398 ⟨by show 113 + 5 * r.b + 0 + 0 ≤ 600000; omega, by show 8307 + 1434 * r.b + 0 + 0 ≤ 7302250; omega⟩ (fun u2 H locs hu2 hP hD hS => ?_)
    refine W.eq (g2 := F0 m 401 ls [.int (-1), .int (-1)]) rfl ?_
    refine lv_icmp_eq (tgt := 859) hx hcb dL_law_401 (by decide) (fun _ => ?_) (fun q => absurd rfl q)
    have bw : (r).b = r.b + 0 / 5 ∧ (r).wk ≤ r.wk + 1 := bw_id
    have bw1 := bw.1
    exact K (r) u u2 _ _ H locs (by omega) (by omega) bw.2 (ok) hu hu2 hP hD hS
set_option maxHeartbeats 1000000 in
set_option maxRecDepth 100000 in
theorem lw_insert (C : Cx p s m #[Value.ref b] c code 4 RL D t x (fun q : Nat => s.heap.size ≤ q)) (hX : va_X b L xs s s.heap) (hbl : b < s.heap.size) (hL : L < 2 ^ 31) (hi : i + 8 ≤ L) (hwk : r.wk < 2 ^ 30) (hma : ∀ k, k < 8 → ma k = some (mq k 0)) (ok : Ok r) (hjc : okC r jc) (hjr : okR jr) (K : LwK p l e s m below meth c D t T h a mq ma b r ls Q) (hl : lv_has ls 4 [(0, .ref b), (1, .ref (T 0)), (2, .ref (a 0)), (3, .int (nI i))]) (hP : va_P D vwCl (cW t T h mq ma jc r ++ rW t a jr r) H) (hD : va_D (fun q : Nat => s.heap.size ≤ q) (cW t T h mq ma jc r ++ rW t a jr r)) (hS : va_S (fun q : Nat => s.heap.size ≤ q) s.heap H locs) : W p l e room_1 s m #[Value.ref b] below meth c H locs (113 + 5 * r.b) (8307 + 1434 * r.b) Q (F0 m 406 ls []) := by
  obtain ⟨hx, hcb, hml, hown, hts, hK, hA, hX0, hN⟩ := id C
  have hbA : ¬ (fun q : Nat => s.heap.size ≤ q) b := Nat.not_le.mpr hbl
  have hb16 := ok.1
  refine lv_aload_n hx hcb dL_law_406 rfl (lv_at hl 1 rfl) ?_
  refine lv_aload_n hx hcb dL_law_407 rfl (lv_at hl 0 rfl) ?_
  refine lv_iload_n hx hcb dL_law_408 rfl (lv_at hl 3 rfl) ?_
  refine lv_iconst (v := nI 1) hx hcb dL_law_409 (by decide) ?_
  refine q_iadd (x := i) (y := 1) hx hcb dL_law_410 ?_
  refine q_sld hx hcb hX hbl hbA hS (show i + 1 < L by omega) hL dL_law_411 ?_
  refine lv_aload_n hx hcb dL_law_412 rfl (lv_at hl 0 rfl) ?_
  refine lv_iload_n hx hcb dL_law_413 rfl (lv_at hl 3 rfl) ?_
  refine lv_iconst (v := nI 2) hx hcb dL_law_414 (by decide) ?_
  refine q_iadd (x := i) (y := 2) hx hcb dL_law_415 ?_
  refine q_sld hx hcb hX hbl hbA hS (show i + 2 < L by omega) hL dL_law_416 ?_
  have KC : ∀ (u : CJ) (H : Heap) (locs : List Loc), okC (s_ins r (xs (i + 1)) (xs (i + 2))) u → va_P D vwCl (cW t T h mq ma u (s_ins r (xs (i + 1)) (xs (i + 2))) ++ rW t a jr r) H → va_D (fun q : Nat => s.heap.size ≤ q) (cW t T h mq ma u (s_ins r (xs (i + 1)) (xs (i + 2))) ++ rW t a jr r) → va_S (fun q : Nat => s.heap.size ≤ q) s.heap H locs → W p l e room_1 s m #[Value.ref b] below meth c H locs (113 + 5 * r.b + 0) (8307 + 1434 * r.b + 0) Q (F0 m 420 ls [.int (v_ins r (xs (i + 1)) (xs (i + 2)))]) := by
    intro u H locs hu hP hD hS
    refine lv_aload_n hx hcb dL_law_420 rfl (lv_at hl 2 rfl) ?_
    refine lv_aload_n hx hcb dL_law_421 rfl (lv_at hl 0 rfl) ?_
    refine lv_iload_n hx hcb dL_law_422 rfl (lv_at hl 3 rfl) ?_
    refine lv_iconst (v := nI 1) hx hcb dL_law_423 (by decide) ?_
    refine q_iadd (x := i) (y := 1) hx hcb dL_law_424 ?_
    refine q_sld hx hcb hX hbl hbA hS (show i + 1 < L by omega) hL dL_law_425 ?_
    refine lv_aload_n hx hcb dL_law_426 rfl (lv_at hl 0 rfl) ?_
    refine lv_iload_n hx hcb dL_law_427 rfl (lv_at hl 3 rfl) ?_
    refine lv_iconst (v := nI 2) hx hcb dL_law_428 (by decide) ?_
    refine q_iadd (x := i) (y := 2) hx hcb dL_law_429 ?_
    refine q_sld hx hcb hX hbl hbA hS (show i + 2 < L by omega) hL dL_law_430 ?_
    refine ct_callVW (ci := 4) (As := [.int (xs (i + 1)), .int (xs (i + 2))]) (rest := [.int (v_ins r (xs (i + 1)) (xs (i + 2)))]) C (ct_frL (wr := cW t T h mq ma u (s_ins r (xs (i + 1)) (xs (i + 2)))) (rf_insert l D t x a jr r (xs (i + 1)) (xs (i + 2)) ok hjr)) (cwV 2 hts (gt_app (by simpa using ⟨wm_L_39, wi_yX4_insert, wv_X4_insert, wz_X4⟩) (gt_code wc_X4_insert)) rfl rfl rfl (by decide +kernel) ⟨Nat.le_of_ble_eq_true rfl, Nat.le_of_ble_eq_true rfl⟩) rfl rfl mem_r hP hD hS rfl hl.1 rfl (Nat.le_of_ble_eq_true rfl) dL_law_431 ⟨by show 113 + 5 * r.b + 0 + 0 ≤ 600000; omega, by show 8307 + 1434 * r.b + 0 + 0 ≤ 7302250; omega⟩ (fun u2 H locs hu2 hP hD hS => ?_)
    refine W.eq (g2 := F0 m 434 ls [.int (v_ins r (xs (i + 1)) (xs (i + 2))), .int (v_ins r (xs (i + 1)) (xs (i + 2)))]) rfl ?_
    refine lv_icmp_eq (tgt := 859) hx hcb dL_law_434 (by decide) (fun _ => ?_) (fun q => absurd rfl q)
    have bw : (s_ins r (xs (i + 1)) (xs (i + 2))).b = r.b + 0 / 5 ∧ (s_ins r (xs (i + 1)) (xs (i + 2))).wk ≤ r.wk + 1 := bw_ins (r := r)
    have bw1 := bw.1
    exact K (s_ins r (xs (i + 1)) (xs (i + 2))) u u2 _ _ H locs (by omega) (by omega) bw.2 (ok_ins ok) hu hu2 hP hD hS
  by_cases hg : (wi (xs (i + 1)) (nI 0) (nI r.b - nI 1) && wi (xs (i + 2)) (nI 0) (nI 7)) = true
  · skip
    refine ct_callVW (ci := 3) (As := [.int (xs (i + 1)), .int (xs (i + 2))]) (rest := []) C (ct_fr (wr := rW t a jr r) (cl_insertY l D t x T h mq ma jc r (xs (i + 1)) (xs (i + 2)) ok hjc hma hg)) (cwV 2 hts (gt_app (by simpa using ⟨wm_L_35, wi_yX3_insert, wv_X3_insert, wz_X3⟩) (gt_code wc_X3_insert)) rfl rfl rfl (by decide +kernel) ⟨Nat.le_of_ble_eq_true rfl, Nat.le_of_ble_eq_true rfl⟩) rfl rfl mem_c hP hD hS rfl hl.1 rfl (Nat.le_of_ble_eq_true rfl) dL_law_417 ⟨by show 113 + 5 * r.b + 0 ≤ 600000; omega, by show 8307 + 1434 * r.b + 0 ≤ 7302250; omega⟩ (fun u H locs hu hP hD hS => ?_)
    exact W.eq (g2 := F0 m 420 ls [.int (v_ins r (xs (i + 1)) (xs (i + 2)))]) rfl (KC u H locs hu hP hD hS)
  · skip
    refine ct_callVW (ci := 3) (As := [.int (xs (i + 1)), .int (xs (i + 2))]) (rest := []) C (ct_fr (wr := rW t a jr r) (cl_insertN l D t x T h mq ma jc r (xs (i + 1)) (xs (i + 2)) ok hjc hma (Bool.eq_false_iff.mpr hg))) (cwV 2 hts (gt_app (by simpa using ⟨wm_L_35, wi_yX3_insert, wv_X3_insert, wz_X3⟩) (gt_code wc_X3_insert)) rfl rfl rfl (by decide +kernel) ⟨Nat.le_of_ble_eq_true rfl, Nat.le_of_ble_eq_true rfl⟩) rfl rfl mem_c hP hD hS rfl hl.1 rfl (Nat.le_of_ble_eq_true rfl) dL_law_417 ⟨by show 113 + 5 * r.b + 0 ≤ 600000; omega, by show 8307 + 1434 * r.b + 0 ≤ 7302250; omega⟩ (fun u H locs hu hP hD hS => ?_)
    exact W.eq (g2 := F0 m 420 ls [.int (v_ins r (xs (i + 1)) (xs (i + 2)))]) rfl (KC u H locs hu hP hD hS)
set_option maxHeartbeats 1000000 in
set_option maxRecDepth 100000 in
theorem lw_pay (C : Cx p s m #[Value.ref b] c code 4 RL D t x (fun q : Nat => s.heap.size ≤ q)) (hX : va_X b L xs s s.heap) (hbl : b < s.heap.size) (hL : L < 2 ^ 31) (hi : i + 8 ≤ L) (hwk : r.wk < 2 ^ 30) (hma : ∀ k, k < 8 → ma k = some (mq k 0)) (ok : Ok r) (hjc : okC r jc) (hjr : okR jr) (K : LwK p l e s m below meth c D t T h a mq ma b r ls Q) (hl : lv_has ls 4 [(0, .ref b), (1, .ref (T 0)), (2, .ref (a 0)), (3, .int (nI i))]) (hP : va_P D vwCl (cW t T h mq ma jc r ++ rW t a jr r) H) (hD : va_D (fun q : Nat => s.heap.size ≤ q) (cW t T h mq ma jc r ++ rW t a jr r)) (hS : va_S (fun q : Nat => s.heap.size ≤ q) s.heap H locs) : W p l e room_1 s m #[Value.ref b] below meth c H locs (113 + 5 * r.b) (8307 + 1434 * r.b) Q (F0 m 439 ls []) := by
  obtain ⟨hx, hcb, hml, hown, hts, hK, hA, hX0, hN⟩ := id C
  have hbA : ¬ (fun q : Nat => s.heap.size ≤ q) b := Nat.not_le.mpr hbl
  have hb16 := ok.1
  refine lv_aload_n hx hcb dL_law_439 rfl (lv_at hl 1 rfl) ?_
  refine lv_aload_n hx hcb dL_law_440 rfl (lv_at hl 0 rfl) ?_
  refine lv_iload_n hx hcb dL_law_441 rfl (lv_at hl 3 rfl) ?_
  refine lv_iconst (v := nI 1) hx hcb dL_law_442 (by decide) ?_
  refine q_iadd (x := i) (y := 1) hx hcb dL_law_443 ?_
  refine q_sld hx hcb hX hbl hbA hS (show i + 1 < L by omega) hL dL_law_444 ?_
  refine lv_aload_n hx hcb dL_law_445 rfl (lv_at hl 0 rfl) ?_
  refine lv_iload_n hx hcb dL_law_446 rfl (lv_at hl 3 rfl) ?_
  refine lv_iconst (v := nI 2) hx hcb dL_law_447 (by decide) ?_
  refine q_iadd (x := i) (y := 2) hx hcb dL_law_448 ?_
  refine q_sld hx hcb hX hbl hbA hS (show i + 2 < L by omega) hL dL_law_449 ?_
  refine lv_aload_n hx hcb dL_law_450 rfl (lv_at hl 0 rfl) ?_
  refine lv_iload_n hx hcb dL_law_451 rfl (lv_at hl 3 rfl) ?_
  refine lv_iconst (v := nI 3) hx hcb dL_law_452 (by decide) ?_
  refine q_iadd (x := i) (y := 3) hx hcb dL_law_453 ?_
  refine q_sld hx hcb hX hbl hbA hS (show i + 3 < L by omega) hL dL_law_454 ?_
  refine lv_aload_n hx hcb dL_law_455 rfl (lv_at hl 0 rfl) ?_
  refine lv_iload_n hx hcb dL_law_456 rfl (lv_at hl 3 rfl) ?_
  refine lv_iconst (v := nI 4) hx hcb dL_law_457 (by decide) ?_
  refine q_iadd (x := i) (y := 4) hx hcb dL_law_458 ?_
  refine q_sld hx hcb hX hbl hbA hS (show i + 4 < L by omega) hL dL_law_459 ?_
  have KC : ∀ (u : CJ) (H : Heap) (locs : List Loc), okC (s_pay r (xs (i + 1)) (xs (i + 2)) (xs (i + 3)) (xs (i + 4))) u → va_P D vwCl (cW t T h mq ma u (s_pay r (xs (i + 1)) (xs (i + 2)) (xs (i + 3)) (xs (i + 4))) ++ rW t a jr r) H → va_D (fun q : Nat => s.heap.size ≤ q) (cW t T h mq ma u (s_pay r (xs (i + 1)) (xs (i + 2)) (xs (i + 3)) (xs (i + 4))) ++ rW t a jr r) → va_S (fun q : Nat => s.heap.size ≤ q) s.heap H locs → W p l e room_1 s m #[Value.ref b] below meth c H locs (113 + 5 * r.b + 0) (8307 + 1434 * r.b + 0) Q (F0 m 463 ls [.int (v_pay r (xs (i + 1)) (xs (i + 2)) (xs (i + 3)) (xs (i + 4)))]) := by
    intro u H locs hu hP hD hS
    refine lv_aload_n hx hcb dL_law_463 rfl (lv_at hl 2 rfl) ?_
    refine lv_aload_n hx hcb dL_law_464 rfl (lv_at hl 0 rfl) ?_
    refine lv_iload_n hx hcb dL_law_465 rfl (lv_at hl 3 rfl) ?_
    refine lv_iconst (v := nI 1) hx hcb dL_law_466 (by decide) ?_
    refine q_iadd (x := i) (y := 1) hx hcb dL_law_467 ?_
    refine q_sld hx hcb hX hbl hbA hS (show i + 1 < L by omega) hL dL_law_468 ?_
    refine lv_aload_n hx hcb dL_law_469 rfl (lv_at hl 0 rfl) ?_
    refine lv_iload_n hx hcb dL_law_470 rfl (lv_at hl 3 rfl) ?_
    refine lv_iconst (v := nI 2) hx hcb dL_law_471 (by decide) ?_
    refine q_iadd (x := i) (y := 2) hx hcb dL_law_472 ?_
    refine q_sld hx hcb hX hbl hbA hS (show i + 2 < L by omega) hL dL_law_473 ?_
    refine lv_aload_n hx hcb dL_law_474 rfl (lv_at hl 0 rfl) ?_
    refine lv_iload_n hx hcb dL_law_475 rfl (lv_at hl 3 rfl) ?_
    refine lv_iconst (v := nI 3) hx hcb dL_law_476 (by decide) ?_
    refine q_iadd (x := i) (y := 3) hx hcb dL_law_477 ?_
    refine q_sld hx hcb hX hbl hbA hS (show i + 3 < L by omega) hL dL_law_478 ?_
    refine lv_aload_n hx hcb dL_law_479 rfl (lv_at hl 0 rfl) ?_
    refine lv_iload_n hx hcb dL_law_480 rfl (lv_at hl 3 rfl) ?_
    refine lv_iconst (v := nI 4) hx hcb dL_law_481 (by decide) ?_
    refine q_iadd (x := i) (y := 4) hx hcb dL_law_482 ?_
    refine q_sld hx hcb hX hbl hbA hS (show i + 4 < L by omega) hL dL_law_483 ?_
    refine ct_callVW (ci := 4) (As := [.int (xs (i + 1)), .int (xs (i + 2)), .int (xs (i + 3)), .int (xs (i + 4))]) (rest := [.int (v_pay r (xs (i + 1)) (xs (i + 2)) (xs (i + 3)) (xs (i + 4)))]) C (ct_frL (wr := cW t T h mq ma u (s_pay r (xs (i + 1)) (xs (i + 2)) (xs (i + 3)) (xs (i + 4)))) (rf_pay l D t x a jr r (xs (i + 1)) (xs (i + 2)) (xs (i + 3)) (xs (i + 4)) ok hjr)) (cwV 4 hts (gt_app (by simpa using ⟨wm_L_44, wi_yX4_pay, wv_X4_pay, wz_X4⟩) (gt_code wc_X4_pay)) rfl rfl rfl (by decide +kernel) ⟨Nat.le_of_ble_eq_true rfl, Nat.le_of_ble_eq_true rfl⟩) rfl rfl mem_r hP hD hS rfl hl.1 rfl (Nat.le_of_ble_eq_true rfl) dL_law_484 ⟨by show 113 + 5 * r.b + 0 + 0 ≤ 600000; omega, by show 8307 + 1434 * r.b + 0 + 0 ≤ 7302250; omega⟩ (fun u2 H locs hu2 hP hD hS => ?_)
    refine W.eq (g2 := F0 m 487 ls [.int (v_pay r (xs (i + 1)) (xs (i + 2)) (xs (i + 3)) (xs (i + 4))), .int (v_pay r (xs (i + 1)) (xs (i + 2)) (xs (i + 3)) (xs (i + 4)))]) rfl ?_
    refine lv_icmp_eq (tgt := 859) hx hcb dL_law_487 (by decide) (fun _ => ?_) (fun q => absurd rfl q)
    have bw : (s_pay r (xs (i + 1)) (xs (i + 2)) (xs (i + 3)) (xs (i + 4))).b = r.b + 0 / 5 ∧ (s_pay r (xs (i + 1)) (xs (i + 2)) (xs (i + 3)) (xs (i + 4))).wk ≤ r.wk + 1 := bw_pay (r := r)
    have bw1 := bw.1
    exact K (s_pay r (xs (i + 1)) (xs (i + 2)) (xs (i + 3)) (xs (i + 4))) u u2 _ _ H locs (by omega) (by omega) bw.2 (ok_pay ok) hu hu2 hP hD hS
  by_cases hg : okp (xs (i + 1)) (xs (i + 2)) (xs (i + 3)) (xs (i + 4)) r.b = true
  · skip
    refine ct_callVW (ci := 3) (As := [.int (xs (i + 1)), .int (xs (i + 2)), .int (xs (i + 3)), .int (xs (i + 4))]) (rest := []) C (ct_fr (wr := rW t a jr r) (cl_payY l D t x T h mq ma jc r (xs (i + 1)) (xs (i + 2)) (xs (i + 3)) (xs (i + 4)) ok hjc hma hg)) (cwV 4 hts (gt_app (by simpa using ⟨wm_L_40, wi_yX3_pay, wv_X3_pay, wz_X3⟩) (gt_code wc_X3_pay)) rfl rfl rfl (by decide +kernel) ⟨Nat.le_of_ble_eq_true rfl, Nat.le_of_ble_eq_true rfl⟩) rfl rfl mem_c hP hD hS rfl hl.1 rfl (Nat.le_of_ble_eq_true rfl) dL_law_460 ⟨by show 113 + 5 * r.b + 0 ≤ 600000; omega, by show 8307 + 1434 * r.b + 0 ≤ 7302250; omega⟩ (fun u H locs hu hP hD hS => ?_)
    exact W.eq (g2 := F0 m 463 ls [.int (v_pay r (xs (i + 1)) (xs (i + 2)) (xs (i + 3)) (xs (i + 4)))]) rfl (KC u H locs hu hP hD hS)
  · skip
    refine ct_callVW (ci := 3) (As := [.int (xs (i + 1)), .int (xs (i + 2)), .int (xs (i + 3)), .int (xs (i + 4))]) (rest := []) C (ct_fr (wr := rW t a jr r) (cl_payN l D t x T h mq ma jc r (xs (i + 1)) (xs (i + 2)) (xs (i + 3)) (xs (i + 4)) ok hjc hma (Bool.eq_false_iff.mpr hg))) (cwV 4 hts (gt_app (by simpa using ⟨wm_L_40, wi_yX3_pay, wv_X3_pay, wz_X3⟩) (gt_code wc_X3_pay)) rfl rfl rfl (by decide +kernel) ⟨Nat.le_of_ble_eq_true rfl, Nat.le_of_ble_eq_true rfl⟩) rfl rfl mem_c hP hD hS rfl hl.1 rfl (Nat.le_of_ble_eq_true rfl) dL_law_460 ⟨by show 113 + 5 * r.b + 0 ≤ 600000; omega, by show 8307 + 1434 * r.b + 0 ≤ 7302250; omega⟩ (fun u H locs hu hP hD hS => ?_)
    exact W.eq (g2 := F0 m 463 ls [.int (v_pay r (xs (i + 1)) (xs (i + 2)) (xs (i + 3)) (xs (i + 4)))]) rfl (KC u H locs hu hP hD hS)
end
