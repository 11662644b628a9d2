/-! ===== the helpers of the class, where they refuse ===== -/
theorem rch_out {n : Nat} {x : Int32} (hn : n < 2 ^ 31) (h : rch n x = false) : x.toInt < 0 ∨ (n : Int) ≤ x.toInt := by
  unfold rch at h
  rw [decide_eq_false_iff_not, i_le, i_lt, nI_toInt hn] at h
  have e0 : (0 : Int32).toInt = 0 := by decide
  omega
set_option maxHeartbeats 4000000 in
set_option maxRecDepth 100000 in
theorem tx_bookOfNumber (l : Launch) (hst : l.stackTraces = false) (D : va_G) (cI cC : ClassId) (ad ta : Nat → Nat) (z : Nat) (S : St) (N : Nat) (x : Int32) (hno4 : rch 4 x = false) : vx_Met l yX4_bookOfNumber (ws_ yX4_bookOfNumber cX4_bookOfNumber 2 (some (.object "Arrivalbooks$Book"))) (rmX 0) (va_Pc [.ref (ad 0), .int x] (pzt D [(cI, .int), (cC, .char)] ta z (fun H => Wc D cI cC ad S N H))) Nq (Xq "java/lang/IndexOutOfBoundsException") 1 6 (fun _ => False) := by
  refine m_startX (by decide) (Nat.le_of_ble_eq_true rfl) ?_
  intro p e s m below meth c hx hb hr hG hown hlocks hml hno hB ls hl
  have hl : lv_has ls 2 [(0, .ref (ad 0)), (1, .int x)] := hl
  obtain ⟨hW, hK, hE, hT, hZ⟩ := hB
  refine lv_iload_n hx hb dX4_bookOfNumber_0 rfl (lv_at hl 1 rfl) ?_
  refine lv_tableOut (tgt := 52) hx hb dX4_bookOfNumber_1 (by have h := rch_out (by decide) hno4; omega) (by decide) ?_
  exact vx_throwS hx hb hst hown (by decide +kernel) (by decide +kernel) (hG _ at_IO_l) (hG _ in_IndexOutOfBoundsException) (hT (237, "no such book") (by decide)) (at_IO hG hE) at_IO_o hZ.1 hZ.2 va_S.rf (hl.1.trans hml.symm) dX4_bookOfNumber_52 dX4_bookOfNumber_55 dX4_bookOfNumber_56 dX4_bookOfNumber_58 dX4_bookOfNumber_61 (fun y hy => (hno y hy).elim) (Nat.le_of_ble_eq_true rfl) (Nat.le_of_ble_eq_true rfl) (Nat.le_refl _) (Nat.le_refl _) hlocks (fun t _ h1 h2 => ⟨rfl, h1, fun q hq _ => h2 q hq⟩) (fun y hy => nomatch hy) (Nat.le_refl _) (Nat.le_refl _)
set_option maxHeartbeats 4000000 in
set_option maxRecDepth 100000 in
theorem tx_cursorOfNumber (l : Launch) (hst : l.stackTraces = false) (D : va_G) (cI cC : ClassId) (ad ta : Nat → Nat) (z : Nat) (S : St) (N : Nat) (x : Int32) (hno4 : rch 3 x = false) : vx_Met l yX4_cursorOfNumber (ws_ yX4_cursorOfNumber cX4_cursorOfNumber 2 (some (.object "Arrivalbooks$Cursor"))) (rmX 0) (va_Pc [.ref (ad 0), .int x] (pzt D [(cI, .int), (cC, .char)] ta z (fun H => Wc D cI cC ad S N H))) Nq (Xq "java/lang/IndexOutOfBoundsException") 1 6 (fun _ => False) := by
  refine m_startX (by decide) (Nat.le_of_ble_eq_true rfl) ?_
  intro p e s m below meth c hx hb hr hG hown hlocks hml hno hB ls hl
  have hl : lv_has ls 2 [(0, .ref (ad 0)), (1, .int x)] := hl
  obtain ⟨hW, hK, hE, hT, hZ⟩ := hB
  refine lv_iload_n hx hb dX4_cursorOfNumber_0 rfl (lv_at hl 1 rfl) ?_
  refine lv_tableOut (tgt := 43) hx hb dX4_cursorOfNumber_1 (by have h := rch_out (by decide) hno4; omega) (by decide) ?_
  exact vx_throwSW hx hb hst hown (by decide +kernel) (by decide +kernel) (hG _ at_IO_l) (hG _ in_IndexOutOfBoundsException) (hT (260, "no such cursor") (by decide)) (at_IO hG hE) at_IO_o hZ.1 hZ.2 va_S.rf (hl.1.trans hml.symm) dX4_cursorOfNumber_43 dX4_cursorOfNumber_46 dX4_cursorOfNumber_47 dX4_cursorOfNumber_50 dX4_cursorOfNumber_53 (fun y hy => (hno y hy).elim) (Nat.le_of_ble_eq_true rfl) (Nat.le_of_ble_eq_true rfl) (Nat.le_refl _) (Nat.le_refl _) hlocks (fun t _ h1 h2 => ⟨rfl, h1, fun q hq _ => h2 q hq⟩) (fun y hy => nomatch hy) (Nat.le_refl _) (Nat.le_refl _)
