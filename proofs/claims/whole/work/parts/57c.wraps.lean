set_option maxHeartbeats 1000000 in
set_option maxRecDepth 100000 in
theorem cl_insertY (l : Launch) (D : va_G) (t : Nat → ClassId) (x : Nat → Nat) (T h : Nat → Nat) (mq : Nat → Nat → Nat) (ma : Nat → Option Nat) (j : CJ) (r : RS) (p0 p1 : Int32) (ok : Ok r) (hj : okC r j) (hma : ∀ k, k < 8 → ma k = some (mq k 0)) (hg : (wi p0 (nI 0) (nI r.b - nI 1) && wi p1 (nI 0) (nI 7)) = true) : Ct l D t x yX3_insert wsX3_insert r_X3_insert [.ref (T 0), .int p0, .int p1] (cW t T h mq ma j r) CJ (okC (s_ins r p0 p1)) (fun _ => some (.int (v_ins r p0 p1))) (fun j9 => cW t T h mq ma j9 (s_ins r p0 p1)) 0 0 := by
  obtain ⟨s, hs, rfl⟩ := wi_b ok.1 (Bool.and_eq_true_iff.mp hg).1
  obtain ⟨m, -, hm, rfl⟩ := wi_nat (by decide) (by decide) (Bool.and_eq_true_iff.mp hg).2
  exact cl_insert l D t x T h mq ma j r s m ok hj hma hs (by omega)
set_option maxHeartbeats 1000000 in
set_option maxRecDepth 100000 in
theorem cl_spentY (l : Launch) (D : va_G) (t : Nat → ClassId) (x : Nat → Nat) (T h : Nat → Nat) (mq : Nat → Nat → Nat) (ma : Nat → Option Nat) (j : CJ) (r : RS) (p0 p1 : Int32) (ok : Ok r) (hj : okC r j) (hma : ∀ k, k < 8 → ma k = some (mq k 0)) (hg : (wi p0 (nI 0) (nI r.b - nI 1) && wi p1 (nI 0) (nI 7)) = true) : Ct l D t x yX3_spent wsX3_spent r_X3_spent [.ref (T 0), .int p0, .int p1] (cW t T h mq ma j r) CJ (okC (r)) (fun _ => some (.int (spf p0 p1 r.b r.L r.ix))) (fun j9 => cW t T h mq ma j9 (r)) 0 0 := by
  obtain ⟨s, hs, rfl⟩ := wi_b ok.1 (Bool.and_eq_true_iff.mp hg).1
  obtain ⟨m, -, hm, rfl⟩ := wi_nat (by decide) (by decide) (Bool.and_eq_true_iff.mp hg).2
  exact cl_spent l D t x T h mq ma j r s m ok hj hma hs (by omega)
set_option maxHeartbeats 1000000 in
set_option maxRecDepth 100000 in
theorem cl_payY (l : Launch) (D : va_G) (t : Nat → ClassId) (x : Nat → Nat) (T h : Nat → Nat) (mq : Nat → Nat → Nat) (ma : Nat → Option Nat) (j : CJ) (r : RS) (p0 p1 p2 p3 : Int32) (ok : Ok r) (hj : okC r j) (hma : ∀ k, k < 8 → ma k = some (mq k 0)) (hg : okp p0 p1 p2 p3 r.b = true) : Ct l D t x yX3_pay wsX3_pay r_X3_pay [.ref (T 0), .int p0, .int p1, .int p2, .int p3] (cW t T h mq ma j r) CJ (okC (s_pay r p0 p1 p2 p3)) (fun _ => some (.int (v_pay r p0 p1 p2 p3))) (fun j9 => cW t T h mq ma j9 (s_pay r p0 p1 p2 p3)) 0 0 := by
  unfold okp at hg
  rw [Bool.and_eq_true_iff, Bool.and_eq_true_iff, Bool.and_eq_true_iff] at hg
  obtain ⟨s, hs, rfl⟩ := wi_b ok.1 hg.1.1.1
  obtain ⟨m, -, hm, rfl⟩ := wi_nat (by decide) (by decide) hg.1.1.2
  obtain ⟨pl, -, hpl, rfl⟩ := wi_nat (by decide) (by decide) hg.1.2
  obtain ⟨kk, hk1, hk2, rfl⟩ := wi_nat (by decide) (by decide) hg.2
  exact cl_pay l D t x T h mq ma j r s m kk pl ok hj hma hs (by omega) hk1 hk2 (by omega)
set_option maxHeartbeats 1000000 in
set_option maxRecDepth 100000 in
theorem cl_offerY (l : Launch) (D : va_G) (t : Nat → ClassId) (x : Nat → Nat) (T h : Nat → Nat) (mq : Nat → Nat → Nat) (ma : Nat → Option Nat) (j : CJ) (r : RS) (p0 p1 p2 p3 : Int32) (ok : Ok r) (hj : okC r j) (hma : ∀ k, k < 8 → ma k = some (mq k 0)) (hg : oko p0 p1 p3 r.b = true) : Ct l D t x yX3_offer wsX3_offer r_X3_offer [.ref (T 0), .int p0, .int p1, .int p2, .int p3] (cW t T h mq ma j r) CJ (okC (s_offer r p0 p1 p2 p3)) (fun _ => some (.int (v_offer r p0 p1 p2 p3))) (fun j9 => cW t T h mq ma j9 (s_offer r p0 p1 p2 p3)) 0 0 := by
  unfold oko at hg
  rw [Bool.and_eq_true_iff, Bool.and_eq_true_iff] at hg
  obtain ⟨s, hs, rfl⟩ := wi_b ok.1 hg.1.1
  obtain ⟨m, -, hm, rfl⟩ := wi_nat (by decide) (by decide) hg.1.2
  obtain ⟨pl, -, hpl, rfl⟩ := wi_nat (by decide) (by decide) hg.2
  exact cl_offer l D t x T h mq ma j r s m p2 pl ok hj hma hs (by omega) (by omega)
set_option maxHeartbeats 1000000 in
set_option maxRecDepth 100000 in
theorem cl_coinByteY (l : Launch) (D : va_G) (t : Nat → ClassId) (x : Nat → Nat) (T h : Nat → Nat) (mq : Nat → Nat → Nat) (ma : Nat → Option Nat) (j : CJ) (r : RS) (p0 p1 p2 : Int32) (ok : Ok r) (hj : okC r j) (hma : ∀ k, k < 8 → ma k = some (mq k 0)) (hg : wi p0 (nI 0) (nI r.b - nI 1) = true) : Ct l D t x yX3_coinByte wsX3_coinByte r_X3_coinByte [.ref (T 0), .int p0, .int p1, .int p2] (cW t T h mq ma j r) CJ (okC (r)) (fun _ => some (.int (v_coin r p0 p1 p2))) (fun j9 => cW t T h mq ma j9 (r)) 0 0 := by
  obtain ⟨s, hs, rfl⟩ := wi_b ok.1 hg
  exact cl_coinByte l D t x T h mq ma j r s p1 p2 ok hj hma hs
set_option maxHeartbeats 1000000 in
set_option maxRecDepth 100000 in
theorem cl_letterByteY (l : Launch) (D : va_G) (t : Nat → ClassId) (x : Nat → Nat) (T h : Nat → Nat) (mq : Nat → Nat → Nat) (ma : Nat → Option Nat) (j : CJ) (r : RS) (p0 p1 : Int32) (ok : Ok r) (hj : okC r j) (hma : ∀ k, k < 8 → ma k = some (mq k 0)) (hg : wi p0 (nI 0) (nI r.b - nI 1) = true) : Ct l D t x yX3_letterByte wsX3_letterByte r_X3_letterByte [.ref (T 0), .int p0, .int p1] (cW t T h mq ma j r) CJ (okC (r)) (fun _ => some (.int (v_letter r p0 p1))) (fun j9 => cW t T h mq ma j9 (r)) 0 0 := by
  obtain ⟨s, hs, rfl⟩ := wi_b ok.1 hg
  exact cl_letterByte l D t x T h mq ma j r s p1 ok hj hma hs
set_option maxHeartbeats 1000000 in
set_option maxRecDepth 100000 in
theorem cl_overspentY (l : Launch) (D : va_G) (t : Nat → ClassId) (x : Nat → Nat) (T h : Nat → Nat) (mq : Nat → Nat → Nat) (ma : Nat → Option Nat) (j : CJ) (r : RS) (p0 : Int32) (ok : Ok r) (hj : okC r j) (hma : ∀ k, k < 8 → ma k = some (mq k 0)) (hg : wi p0 (nI 0) (nI r.b - nI 1) = true) : Ct l D t x yX3_overspent wsX3_overspent r_X3_overspent [.ref (T 0), .int p0] (cW t T h mq ma j r) CJ (okC (r)) (fun _ => some (.int (ovf p0 r.b r.ov))) (fun j9 => cW t T h mq ma j9 (r)) 0 0 := by
  obtain ⟨s, hs, rfl⟩ := wi_b ok.1 hg
  exact cl_overspent l D t x T h mq ma j r s ok hj hma hs
set_option maxHeartbeats 1000000 in
set_option maxRecDepth 100000 in
theorem cl_minutesY (l : Launch) (D : va_G) (t : Nat → ClassId) (x : Nat → Nat) (T h : Nat → Nat) (mq : Nat → Nat → Nat) (ma : Nat → Option Nat) (j : CJ) (r : RS) (p0 p1 : Int32) (ok : Ok r) (hj : okC r j) (hma : ∀ k, k < 8 → ma k = some (mq k 0)) (hg : wi p0 (nI 0) (nI 7) = true) : Ct l D t x yX3_minutes wsX3_minutes r_X3_minutes [.ref (T 0), .int p0, .int p1] (cW t T h mq ma j r) CJ (okC (r)) (fun _ => some (.int (mnf p0 p1 r.mi))) (fun j9 => cW t T h mq ma j9 (r)) 0 0 := by
  obtain ⟨m, -, hm, rfl⟩ := wi_nat (by decide) (by decide) hg
  exact cl_minutes l D t x T h mq ma j r m p1 ok hj hma (by omega)
set_option maxHeartbeats 1000000 in
set_option maxRecDepth 100000 in
theorem cl_powerCutY (l : Launch) (D : va_G) (t : Nat → ClassId) (x : Nat → Nat) (T h : Nat → Nat) (mq : Nat → Nat → Nat) (ma : Nat → Option Nat) (j : CJ) (r : RS) (p0 p1 : Int32) (ok : Ok r) (hj : okC r j) (hma : ∀ k, k < 8 → ma k = some (mq k 0)) (hg : wi p0 (nI 0) (nI 7) = true) : Ct l D t x yX3_powerCut wsX3_powerCut r_X3_powerCut [.ref (T 0), .int p0, .int p1] (cW t T h mq ma j r) CJ (okC (s_power r p0 p1)) (fun _ => some (.int (bI (wi p0 (nI 0) (nI 7) && wi p1 (nI 0) (nI 3))))) (fun j9 => cW t T h mq ma j9 (s_power r p0 p1)) 0 0 := by
  obtain ⟨m, -, hm, rfl⟩ := wi_nat (by decide) (by decide) hg
  exact cl_powerCut l D t x T h mq ma j r m p1 ok hj hma (by omega)
set_option maxHeartbeats 1000000 in
set_option maxRecDepth 100000 in
theorem cl_emptyY (l : Launch) (D : va_G) (t : Nat → ClassId) (x : Nat → Nat) (T h : Nat → Nat) (mq : Nat → Nat → Nat) (ma : Nat → Option Nat) (j : CJ) (r : RS) (p0 : Int32) (ok : Ok r) (hj : okC r j) (hma : ∀ k, k < 8 → ma k = some (mq k 0)) (hwk : r.wk < 2 ^ 30) (hg : wi p0 (nI 0) (nI 7) = true) : Ct l D t x yX3_empty wsX3_empty r_X3_empty [.ref (T 0), .int p0] (cW t T h mq ma j r) CJ (okC (s_empty r p0)) (fun _ => some (.int (v_empty r p0))) (fun j9 => cW t T h mq ma j9 (s_empty r p0)) 0 0 := by
  obtain ⟨m, -, hm, rfl⟩ := wi_nat (by decide) (by decide) hg
  exact cl_empty l D t x T h mq ma j r m ok hj hma (by omega) hwk
