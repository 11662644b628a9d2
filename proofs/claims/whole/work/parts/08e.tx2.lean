/-! ===== NoSuchElementException's words ===== -/
set_option maxRecDepth 100000 in
theorem at_NS_G : ∀ w ∈ (nsS RX4 107 "java/util/NoSuchElementException").filter goodWord, w ∈ GW := fun w hw => GW_in (of_decide_eq_true (List.all_eq_true.mp (show ((nsS RX4 107 "java/util/NoSuchElementException").filter goodWord).all (fun w => decide (w ∈ lw_tbl)) = true from by decide +kernel) w hw)) (List.mem_filter.mp hw).2
theorem at_NS_B : ∀ w ∈ (nsS RX4 107 "java/util/NoSuchElementException").filter (fun w => !goodWord w), w ∈ exB := fun w hw => of_decide_eq_true (List.all_eq_true.mp (show ((nsS RX4 107 "java/util/NoSuchElementException").filter (fun w => !goodWord w)).all (fun w => decide (w ∈ exB)) = true from by decide +kernel) w hw)
theorem at_NS_o : ∀ w ∈ Cond.classLink RX4 103 "java/util/NoSuchElementException" :: Cond.initialized "java/util/NoSuchElementException" :: (nsS RX4 107 "java/util/NoSuchElementException"), vx_ot w = true := fun w hw => List.all_eq_true.mp (show (Cond.classLink RX4 103 "java/util/NoSuchElementException" :: Cond.initialized "java/util/NoSuchElementException" :: (nsS RX4 107 "java/util/NoSuchElementException")).all vx_ot = true from by decide +kernel) w hw
theorem at_NS_l : Cond.classLink RX4 103 "java/util/NoSuchElementException" ∈ GW := GW_in (by decide +kernel) (by decide +kernel)
theorem at_NS {args : Array Value} {s : State} (hG : ∀ w ∈ GW, w.before args s = true) (hE : Ex s) : ∀ w ∈ (nsS RX4 107 "java/util/NoSuchElementException"), w.before args s = true := vx_hat (fun w hw => hG w (at_NS_G w hw)) at_NS_B hE.at
theorem full_sp {S : St} {b : Nat} {key : Int32} (h : full S b key = true) : b ≠ 2 ∧ (S.1 b).length = 200 ∧ fx (S.1 b) key = none := by
  simp only [full, Bool.and_eq_true, decide_eq_true_eq, Option.isNone_iff_eq_none] at h
  exact ⟨h.1.1, h.1.2, h.2⟩
theorem kind_no {x : Int32} (h : rch 3 x = false) (h1 : ¬ x < 0) : ¬ x ≤ nI 2 := by
  intro h2
  have h3 := rch_out (by decide) h
  rw [i_lt] at h1
  rw [i_le, nI_toInt (by decide)] at h2
  have e0 : (0 : Int32).toInt = 0 := by decide
  omega
set_option maxHeartbeats 4000000 in
set_option maxRecDepth 100000 in
theorem tx_bookChangedByHand_n (l : Launch) (hst : l.stackTraces = false) (D : va_G) (cI cC : ClassId) (ad ta : Nat → Nat) (z : Nat) (S : St) (N : Nat) (x : Int32) (hno4 : rch 4 x = false) : vx_Met l yX4_bookChangedByHand (ws_ yX4_bookChangedByHand cX4_bookChangedByHand 3 (some (.object "Arrivalbooks$Book"))) (rmX 1) (va_Pc [.ref (ad 0), .int (x)] (pzt D [(cI, .int), (cC, .char)] ta z (fun H => Wc D cI cC ad S N H))) Nq (Xq "java/lang/IndexOutOfBoundsException") 1 6 (fun _ => False) := by
  refine m_startX (by decide) (Nat.le_of_ble_eq_true rfl) ?_
  intro p e s m below meth c hx hb hr hG hown hlocks hml hnx hB ls hl
  have hl : lv_has ls 3 [(0, .ref (ad 0)), (1, .int (x))] := hl
  obtain ⟨hW, hK, hE, hT, hZ⟩ := hB
  refine lv_aload_n hx hb dX4_bookChangedByHand_0 rfl (lv_at hl 0 rfl) ?_
  refine lv_iload_n hx hb dX4_bookChangedByHand_1 rfl (lv_at hl 1 rfl) ?_
  refine k3_V hx hb hml hown hG cs_X4_113 (tx_bookOfNumber l hst D cI cC ad ta z S N x hno4) (by decide) (pztV hK hE hT hZ (fun _ _ _ => rfl) rfl hW.rc hW) rfl hl.1 rfl (Nat.le_of_ble_eq_true rfl) dX4_bookChangedByHand_2 ⟨Nat.le_refl _, Nat.le_refl _⟩ (fun H1 q9 ce h1 h2 h3 h4 h5 => ?_)
  exact k3_out hnx hlocks h1 h2 h3 h4 h5
set_option maxHeartbeats 4000000 in
set_option maxRecDepth 100000 in
theorem tx_bookChangedByHand_q (l : Launch) (hst : l.stackTraces = false) (D : va_G) (cI cC : ClassId) (ad ta : Nat → Nat) (z : Nat) (S : St) (N : Nat)  : vx_Met l yX4_bookChangedByHand (ws_ yX4_bookChangedByHand cX4_bookChangedByHand 3 (some (.object "Arrivalbooks$Book"))) (rmX 1) (va_Pc [.ref (ad 0), .int (nI (3))] (pzt D [(cI, .int), (cC, .char)] ta z (fun H => Wc D cI cC ad S N H))) Nq (Xq "java/lang/IllegalArgumentException") 1 6 (fun _ => False) := by
  refine m_startX (by decide) (Nat.le_of_ble_eq_true rfl) ?_
  intro p e s m below meth c hx hb hr hG hown hlocks hml hnx hB ls hl
  have hl : lv_has ls 3 [(0, .ref (ad 0)), (1, .int (nI (3)))] := hl
  obtain ⟨hW, hK, hE, hT, hZ⟩ := hB
  refine lv_aload_n hx hb dX4_bookChangedByHand_0 rfl (lv_at hl 0 rfl) ?_
  refine lv_iload_n hx hb dX4_bookChangedByHand_1 rfl (lv_at hl 1 rfl) ?_
  refine k1_V hx hb hml hown hG cs_X4_113 (k_bookOfNumber l D cI cC ad S N 3 (by omega)) (by decide) (pzV hK rfl hW.rc hW) rfl hl.1 rfl (Nat.le_of_ble_eq_true rfl) dX4_bookChangedByHand_2 ⟨Nat.zero_le _, Nat.zero_le _⟩ rfl ?_
  refine lv_astore_n (lv' := [(2, .ref ((bk_ ad 3) 0)), (0, .ref (ad 0)), (1, .int (nI (3)))]) hx hb dX4_bookChangedByHand_5 rfl hl (by decide) rfl (fun ls hl => ?_)
  refine lv_iload_n hx hb dX4_bookChangedByHand_6 rfl (lv_at hl 2 rfl) ?_
  refine lv_iconst (v := nI 3) hx hb dX4_bookChangedByHand_7 (by decide) ?_
  refine x_cmp_ne (tgt := 21) hx hb dX4_bookChangedByHand_8 (by decide) (by omega) (by omega) (fun zc1 => False.elim (by first | exact absurd zc1 (by decide) | omega | (simp_all; done))) (fun zc1 => ?_)
  exact vx_throwS hx hb hst hown (by decide +kernel) (by decide +kernel) (hG _ at_IA_l) (hG _ in_IllegalArgumentException) (hT (240, "the book of the queue") (by decide)) (at_IA hG hE) at_IA_o hZ.1 hZ.2 va_S.rf (hl.1.trans hml.symm) dX4_bookChangedByHand_11 dX4_bookChangedByHand_14 dX4_bookChangedByHand_15 dX4_bookChangedByHand_17 dX4_bookChangedByHand_20 (fun y hy => (hnx y hy).elim) (Nat.le_of_ble_eq_true rfl) (Nat.le_of_ble_eq_true rfl) (Nat.le_of_ble_eq_true rfl) (Nat.le_of_ble_eq_true rfl) hlocks (fun t _ h1 h2 => ⟨rfl, h1, fun q hq _ => h2 q hq⟩) (fun y hy => nomatch hy) (Nat.le_refl _) (Nat.le_refl _)
set_option maxHeartbeats 4000000 in
set_option maxRecDepth 100000 in
theorem tx_plainBook_n (l : Launch) (hst : l.stackTraces = false) (D : va_G) (cI cC : ClassId) (ad ta : Nat → Nat) (z : Nat) (S : St) (N : Nat) (x : Int32) (hno4 : rch 4 x = false) : vx_Met l yX4_plainBook (ws_ yX4_plainBook cX4_plainBook 3 (some (.object "Arrivalbooks$Book"))) (rmX 1) (va_Pc [.ref (ad 0), .int (x)] (pzt D [(cI, .int), (cC, .char)] ta z (fun H => Wc D cI cC ad S N H))) Nq (Xq "java/lang/IndexOutOfBoundsException") 1 6 (fun _ => False) := by
  refine m_startX (by decide) (Nat.le_of_ble_eq_true rfl) ?_
  intro p e s m below meth c hx hb hr hG hown hlocks hml hnx hB ls hl
  have hl : lv_has ls 3 [(0, .ref (ad 0)), (1, .int (x))] := hl
  obtain ⟨hW, hK, hE, hT, hZ⟩ := hB
  refine lv_aload_n hx hb dX4_plainBook_0 rfl (lv_at hl 0 rfl) ?_
  refine lv_iload_n hx hb dX4_plainBook_1 rfl (lv_at hl 1 rfl) ?_
  refine k3_V hx hb hml hown hG cs_X4_113 (tx_bookOfNumber l hst D cI cC ad ta z S N x hno4) (by decide) (pztV hK hE hT hZ (fun _ _ _ => rfl) rfl hW.rc hW) rfl hl.1 rfl (Nat.le_of_ble_eq_true rfl) dX4_plainBook_2 ⟨Nat.le_refl _, Nat.le_refl _⟩ (fun H1 q9 ce h1 h2 h3 h4 h5 => ?_)
  exact k3_out hnx hlocks h1 h2 h3 h4 h5
set_option maxHeartbeats 4000000 in
set_option maxRecDepth 100000 in
theorem tx_plainBook_2 (l : Launch) (hst : l.stackTraces = false) (D : va_G) (cI cC : ClassId) (ad ta : Nat → Nat) (z : Nat) (S : St) (N : Nat)  : vx_Met l yX4_plainBook (ws_ yX4_plainBook cX4_plainBook 3 (some (.object "Arrivalbooks$Book"))) (rmX 1) (va_Pc [.ref (ad 0), .int (nI (2))] (pzt D [(cI, .int), (cC, .char)] ta z (fun H => Wc D cI cC ad S N H))) Nq (Xq "java/lang/IllegalArgumentException") 1 6 (fun _ => False) := by
  refine m_startX (by decide) (Nat.le_of_ble_eq_true rfl) ?_
  intro p e s m below meth c hx hb hr hG hown hlocks hml hnx hB ls hl
  have hl : lv_has ls 3 [(0, .ref (ad 0)), (1, .int (nI (2)))] := hl
  obtain ⟨hW, hK, hE, hT, hZ⟩ := hB
  refine lv_aload_n hx hb dX4_plainBook_0 rfl (lv_at hl 0 rfl) ?_
  refine lv_iload_n hx hb dX4_plainBook_1 rfl (lv_at hl 1 rfl) ?_
  refine k1_V hx hb hml hown hG cs_X4_113 (k_bookOfNumber l D cI cC ad S N 2 (by omega)) (by decide) (pzV hK rfl hW.rc hW) rfl hl.1 rfl (Nat.le_of_ble_eq_true rfl) dX4_plainBook_2 ⟨Nat.zero_le _, Nat.zero_le _⟩ rfl ?_
  refine lv_astore_n (lv' := [(2, .ref ((bk_ ad 2) 0)), (0, .ref (ad 0)), (1, .int (nI (2)))]) hx hb dX4_plainBook_5 rfl hl (by decide) rfl (fun ls hl => ?_)
  refine lv_iload_n hx hb dX4_plainBook_6 rfl (lv_at hl 2 rfl) ?_
  refine lv_iconst (v := nI 2) hx hb dX4_plainBook_7 (by decide) ?_
  refine x_cmp_eq (tgt := 16) hx hb dX4_plainBook_8 (by decide) (by omega) (by omega) (fun zc1 => ?_) (fun zc1 => False.elim (by first | exact absurd zc1 (by decide) | omega | (simp_all; done)))
  exact vx_throwS hx hb hst hown (by decide +kernel) (by decide +kernel) (hG _ at_IA_l) (hG _ in_IllegalArgumentException) (hT (242, "not a plain book") (by decide)) (at_IA hG hE) at_IA_o hZ.1 hZ.2 va_S.rf (hl.1.trans hml.symm) dX4_plainBook_16 dX4_plainBook_19 dX4_plainBook_20 dX4_plainBook_22 dX4_plainBook_25 (fun y hy => (hnx y hy).elim) (Nat.le_of_ble_eq_true rfl) (Nat.le_of_ble_eq_true rfl) (Nat.le_of_ble_eq_true rfl) (Nat.le_of_ble_eq_true rfl) hlocks (fun t _ h1 h2 => ⟨rfl, h1, fun q hq _ => h2 q hq⟩) (fun y hy => nomatch hy) (Nat.le_refl _) (Nat.le_refl _)
set_option maxHeartbeats 4000000 in
set_option maxRecDepth 100000 in
theorem tx_plainBook_3 (l : Launch) (hst : l.stackTraces = false) (D : va_G) (cI cC : ClassId) (ad ta : Nat → Nat) (z : Nat) (S : St) (N : Nat)  : vx_Met l yX4_plainBook (ws_ yX4_plainBook cX4_plainBook 3 (some (.object "Arrivalbooks$Book"))) (rmX 1) (va_Pc [.ref (ad 0), .int (nI (3))] (pzt D [(cI, .int), (cC, .char)] ta z (fun H => Wc D cI cC ad S N H))) Nq (Xq "java/lang/IllegalArgumentException") 1 6 (fun _ => False) := by
  refine m_startX (by decide) (Nat.le_of_ble_eq_true rfl) ?_
  intro p e s m below meth c hx hb hr hG hown hlocks hml hnx hB ls hl
  have hl : lv_has ls 3 [(0, .ref (ad 0)), (1, .int (nI (3)))] := hl
  obtain ⟨hW, hK, hE, hT, hZ⟩ := hB
  refine lv_aload_n hx hb dX4_plainBook_0 rfl (lv_at hl 0 rfl) ?_
  refine lv_iload_n hx hb dX4_plainBook_1 rfl (lv_at hl 1 rfl) ?_
  refine k1_V hx hb hml hown hG cs_X4_113 (k_bookOfNumber l D cI cC ad S N 3 (by omega)) (by decide) (pzV hK rfl hW.rc hW) rfl hl.1 rfl (Nat.le_of_ble_eq_true rfl) dX4_plainBook_2 ⟨Nat.zero_le _, Nat.zero_le _⟩ rfl ?_
  refine lv_astore_n (lv' := [(2, .ref ((bk_ ad 3) 0)), (0, .ref (ad 0)), (1, .int (nI (3)))]) hx hb dX4_plainBook_5 rfl hl (by decide) rfl (fun ls hl => ?_)
  refine lv_iload_n hx hb dX4_plainBook_6 rfl (lv_at hl 2 rfl) ?_
  refine lv_iconst (v := nI 2) hx hb dX4_plainBook_7 (by decide) ?_
  refine x_cmp_eq (tgt := 16) hx hb dX4_plainBook_8 (by decide) (by omega) (by omega) (fun zc1 => False.elim (by first | exact absurd zc1 (by decide) | omega | (simp_all; done))) (fun zc1 => ?_)
  refine lv_iload_n hx hb dX4_plainBook_11 rfl (lv_at hl 2 rfl) ?_
  refine lv_iconst (v := nI 3) hx hb dX4_plainBook_12 (by decide) ?_
  refine x_cmp_ne (tgt := 26) hx hb dX4_plainBook_13 (by decide) (by omega) (by omega) (fun zc2 => False.elim (by first | exact absurd zc2 (by decide) | omega | (simp_all; done))) (fun zc2 => ?_)
  exact vx_throwS hx hb hst hown (by decide +kernel) (by decide +kernel) (hG _ at_IA_l) (hG _ in_IllegalArgumentException) (hT (242, "not a plain book") (by decide)) (at_IA hG hE) at_IA_o hZ.1 hZ.2 va_S.rf (hl.1.trans hml.symm) dX4_plainBook_16 dX4_plainBook_19 dX4_plainBook_20 dX4_plainBook_22 dX4_plainBook_25 (fun y hy => (hnx y hy).elim) (Nat.le_of_ble_eq_true rfl) (Nat.le_of_ble_eq_true rfl) (Nat.le_of_ble_eq_true rfl) (Nat.le_of_ble_eq_true rfl) hlocks (fun t _ h1 h2 => ⟨rfl, h1, fun q hq _ => h2 q hq⟩) (fun y hy => nomatch hy) (Nat.le_refl _) (Nat.le_refl _)
set_option maxHeartbeats 4000000 in
set_option maxRecDepth 100000 in
theorem tx_plainBook_q (l : Launch) (hst : l.stackTraces = false) (D : va_G) (cI cC : ClassId) (ad ta : Nat → Nat) (z : Nat) (S : St) (N : Nat) (b : Nat) (hb4 : b < 4) (h2 : 2 ≤ b) : vx_Met l yX4_plainBook (ws_ yX4_plainBook cX4_plainBook 3 (some (.object "Arrivalbooks$Book"))) (rmX 1) (va_Pc [.ref (ad 0), .int (nI b)] (pzt D [(cI, .int), (cC, .char)] ta z (fun H => Wc D cI cC ad S N H))) Nq (Xq "java/lang/IllegalArgumentException") 1 6 (fun _ => False) := by
  rcases (show b = 2 ∨ b = 3 by omega) with e | e
  · subst e; exact tx_plainBook_2 l hst D cI cC ad ta z S N
  · subst e; exact tx_plainBook_3 l hst D cI cC ad ta z S N
set_option maxHeartbeats 4000000 in
set_option maxRecDepth 100000 in
theorem tx_requireTwoBooks (l : Launch) (hst : l.stackTraces = false) (D : va_G) (cI cC : ClassId) (ad ta : Nat → Nat) (z : Nat) (S : St) (N : Nat) (b q : Nat) (hb4 : b < 4) (hbq : b = q) : vx_Met l yX4_requireTwoBooks (ws_ yX4_requireTwoBooks cX4_requireTwoBooks 3 none) (rmX 0) (va_Pc [.ref (ad 0), .int (nI (b)), .int (nI (q))] (pzt D [(cI, .int), (cC, .char)] ta z (fun H => Wc D cI cC ad S N H))) Nq (Xq "java/lang/IllegalArgumentException") 1 6 (fun _ => False) := by
  refine m_startX (by decide) (Nat.le_of_ble_eq_true rfl) ?_
  intro p e s m below meth c hx hb hr hG hown hlocks hml hnx hB ls hl
  have hl : lv_has ls 3 [(0, .ref (ad 0)), (1, .int (nI (b))), (2, .int (nI (q)))] := hl
  obtain ⟨hW, hK, hE, hT, hZ⟩ := hB
  refine lv_iload_n hx hb dX4_requireTwoBooks_0 rfl (lv_at hl 1 rfl) ?_
  refine lv_iload_n hx hb dX4_requireTwoBooks_1 rfl (lv_at hl 2 rfl) ?_
  refine x_cmp_ne (tgt := 15) hx hb dX4_requireTwoBooks_2 (by decide) (by omega) (by omega) (fun zc1 => False.elim (by first | omega | contradiction | exact absurd zc1 (m1_ne _ (by omega)) | exact absurd zc1 (by decide) | exact absurd (Eq.symm zc1) (m1_ne _ (by omega)) | (simp_all; done))) (fun zc1 => ?_)
  exact vx_throwS hx hb hst hown (by decide +kernel) (by decide +kernel) (hG _ at_IA_l) (hG _ in_IllegalArgumentException) (hT (244, "both books are the same") (by decide)) (at_IA hG hE) at_IA_o hZ.1 hZ.2 va_S.rf (hl.1.trans hml.symm) dX4_requireTwoBooks_5 dX4_requireTwoBooks_8 dX4_requireTwoBooks_9 dX4_requireTwoBooks_11 dX4_requireTwoBooks_14 (fun y hy => (hnx y hy).elim) (Nat.le_of_ble_eq_true rfl) (Nat.le_of_ble_eq_true rfl) (Nat.le_of_ble_eq_true rfl) (Nat.le_of_ble_eq_true rfl) hlocks (fun t _ h1 h2 => ⟨rfl, h1, fun q hq _ => h2 q hq⟩) (fun y hy => nomatch hy) (Nat.le_refl _) (Nat.le_refl _)
set_option maxHeartbeats 4000000 in
set_option maxRecDepth 100000 in
theorem tx_requireRoom (l : Launch) (hst : l.stackTraces = false) (D : va_G) (cI cC : ClassId) (ad ta : Nat → Nat) (z : Nat) (S : St) (N : Nat) (b k : Nat) (hb4 : b < 4) (hk2 : k ≤ 300) (hlg : lgO b = false) (hbd : bdO S b ≤ 200) (hrm : bdO S b < (S.1 b).length + k) : vx_Met l yX4_requireRoom (ws_ yX4_requireRoom cX4_requireRoom 3 none) (rmX 0) (va_Pc [.ref (ad 0), .ref ((bk_ ad b) 0), .int (nI (k))] (pzt D [(cI, .int), (cC, .char)] ta z (fun H => Wc D cI cC ad S N H))) Nq (Xq "java/lang/IllegalStateException") 1 6 (fun _ => False) := by
  refine m_startX (by decide) (Nat.le_of_ble_eq_true rfl) ?_
  intro p e s m below meth c hx hb hr hG hown hlocks hml hnx hB ls hl
  have hl : lv_has ls 3 [(0, .ref (ad 0)), (1, .ref ((bk_ ad b) 0)), (2, .int (nI (k)))] := hl
  obtain ⟨hW, hK, hE, hT, hZ⟩ := hB
  have hlen := (hW.bk hb4).1.len
  refine lv_aload_n hx hb dX4_requireRoom_0 rfl (lv_at hl 1 rfl) ?_
  refine gf_X4_246 hx hb hG hown hK (hW.bk (b := b) (by omega)).1.obj 0 rfl rfl dX4_requireRoom_1 ?_
  refine x_ifb_ne (tgt := 30) hx hb dX4_requireRoom_4 (by decide) (fun zc1 => False.elim (by rw [hlg] at zc1; cases zc1)) (fun zc1 => ?_)
  refine lv_aload_n hx hb dX4_requireRoom_7 rfl (lv_at hl 1 rfl) ?_
  refine gf_X4_57 hx hb hG hown hK (hW.bk (b := b) (by omega)).1.obj 0 rfl rfl dX4_requireRoom_8 ?_
  refine lv_iload_n hx hb dX4_requireRoom_11 rfl (lv_at hl 2 rfl) ?_
  refine x_iadd (v := nI (((S.1 b).length) + k)) hx hb dX4_requireRoom_12 (nI_add _ _) ?_
  refine lv_aload_n hx hb dX4_requireRoom_13 rfl (lv_at hl 1 rfl) ?_
  refine gf_X4_64 hx hb hG hown hK (hW.bk (b := b) (by omega)).1.obj 0 rfl rfl dX4_requireRoom_14 ?_
  refine x_cmp_le (tgt := 30) hx hb dX4_requireRoom_17 (by decide) (by omega) (by omega) (fun zc2 => False.elim (by first | omega | contradiction | exact absurd zc2 (m1_ne _ (by omega)) | exact absurd zc2 (by decide) | exact absurd (Eq.symm zc2) (m1_ne _ (by omega)) | (simp_all; done))) (fun zc2 => ?_)
  exact vx_throwS hx hb hst hown (by decide +kernel) (by decide +kernel) (hG _ at_IS_l) (hG _ in_IllegalStateException) (hT (252, "the book is full") (by decide)) (at_IS hG hE) at_IS_o hZ.1 hZ.2 va_S.rf (hl.1.trans hml.symm) dX4_requireRoom_20 dX4_requireRoom_23 dX4_requireRoom_24 dX4_requireRoom_26 dX4_requireRoom_29 (fun y hy => (hnx y hy).elim) (Nat.le_of_ble_eq_true rfl) (Nat.le_of_ble_eq_true rfl) (Nat.le_of_ble_eq_true rfl) (Nat.le_of_ble_eq_true rfl) hlocks (fun t _ h1 h2 => ⟨rfl, h1, fun q hq _ => h2 q hq⟩) (fun y hy => nomatch hy) (Nat.le_refl _) (Nat.le_refl _)
set_option maxHeartbeats 4000000 in
set_option maxRecDepth 100000 in
theorem tx_requireRoomForKey (l : Launch) (hst : l.stackTraces = false) (D : va_G) (cI cC : ClassId) (ad ta : Nat → Nat) (z : Nat) (S : St) (N : Nat) (b : Nat) (key : Int32) (hb4 : b < 4) (hfu : full S b key = true) : vx_Met l yX4_requireRoomForKey (ws_ yX4_requireRoomForKey cX4_requireRoomForKey 3 none) (rmX 1) (va_Pc [.ref (ad 0), .ref ((bk_ ad b) 0), .int (key)] (pzt D [(cI, .int), (cC, .char)] ta z (fun H => Wc D cI cC ad S N H))) Nq (Xq "java/lang/IllegalStateException") 1 6 (fun _ => False) := by
  refine m_startX (by decide) (Nat.le_of_ble_eq_true rfl) ?_
  intro p e s m below meth c hx hb hr hG hown hlocks hml hnx hB ls hl
  have hl : lv_has ls 3 [(0, .ref (ad 0)), (1, .ref ((bk_ ad b) 0)), (2, .int (key))] := hl
  obtain ⟨hW, hK, hE, hT, hZ⟩ := hB
  obtain ⟨h2, hlen, hf⟩ := full_sp hfu
  have hbd : bdO S b = 200 := by unfold bdO; rw [if_neg h2]
  refine lv_aload_n hx hb dX4_requireRoomForKey_0 rfl (lv_at hl 0 rfl) ?_
  refine lv_aload_n hx hb dX4_requireRoomForKey_1 rfl (lv_at hl 1 rfl) ?_
  refine lv_aload_n hx hb dX4_requireRoomForKey_2 rfl (lv_at hl 1 rfl) ?_
  refine lv_iload_n hx hb dX4_requireRoomForKey_3 rfl (lv_at hl 2 rfl) ?_
  refine k1_V hx hb hml hown hG cs_X4_86 (c_find_no l D cI (bk_ ad b) (lgO b) (bdO S b) (S.1 b) key (hf)) (by decide) (pzV (hK.sub (tys' := [(cI, .int)]) [0] rfl) rfl (hW.bk (b := b) (by omega)).1.rc (hW.bk (b := b) (by omega)).1) rfl hl.1 rfl (Nat.le_of_ble_eq_true rfl) dX4_requireRoomForKey_4 ⟨Nat.zero_le _, Nat.zero_le _⟩ rfl ?_
  refine lv_iconst (v := (-1)) hx hb dX4_requireRoomForKey_7 (by decide) ?_
  refine lv_icmp_ne (tgt := 15) hx hb dX4_requireRoomForKey_8 (by decide) (fun zc1 => False.elim (by first | exact absurd zc1 (by decide) | omega | (simp_all; done))) (fun zc1 => ?_)
  refine lv_iconst (v := nI 1) hx hb dX4_requireRoomForKey_11 (by decide) ?_
  refine lv_goto (tgt := 16) hx hb dX4_requireRoomForKey_12 (by decide) ?_
  refine k3_V hx hb hml hown hG cs_X4_110 (tx_requireRoom l hst D cI cC ad ta z S N b 1 (by omega) (by omega) (decide_eq_false h2) (by omega) (by omega)) (by decide) (pztV hK hE hT hZ (fun _ _ _ => rfl) rfl hW.rc hW) rfl hl.1 rfl (Nat.le_of_ble_eq_true rfl) dX4_requireRoomForKey_16 ⟨Nat.le_refl _, Nat.le_refl _⟩ (fun H1 q9 ce h1 h2 h3 h4 h5 => ?_)
  exact k3_out hnx hlocks h1 h2 h3 h4 h5
set_option maxHeartbeats 4000000 in
set_option maxRecDepth 100000 in
theorem tx_requirePlace (l : Launch) (hst : l.stackTraces = false) (D : va_G) (cI cC : ClassId) (ad ta : Nat → Nat) (z : Nat) (S : St) (N : Nat) (b : Nat) (x : Int32) (hb4 : b < 4) (hxo : rch (S.1 b).length x = false) : vx_Met l yX4_requirePlace (ws_ yX4_requirePlace cX4_requirePlace 3 none) (rmX 1) (va_Pc [.ref (ad 0), .ref ((bk_ ad b) 0), .int (x)] (pzt D [(cI, .int), (cC, .char)] ta z (fun H => Wc D cI cC ad S N H))) Nq (Xq "java/lang/IndexOutOfBoundsException") 1 6 (fun _ => False) := by
  refine m_startX (by decide) (Nat.le_of_ble_eq_true rfl) ?_
  intro p e s m below meth c hx hb hr hG hown hlocks hml hnx hB ls hl
  have hl : lv_has ls 3 [(0, .ref (ad 0)), (1, .ref ((bk_ ad b) 0)), (2, .int (x))] := hl
  obtain ⟨hW, hK, hE, hT, hZ⟩ := hB
  refine lv_aload_n hx hb dX4_requirePlace_0 rfl (lv_at hl 1 rfl) ?_
  refine lv_iload_n hx hb dX4_requirePlace_1 rfl (lv_at hl 2 rfl) ?_
  refine k1_V hx hb hml hown hG cs_X4_255 (by have h := c_reaches l D (bk_ ad b) (lgO b) (bdO S b) (S.1 b).length x; rw [hxo] at h; exact h) (by decide) (pzV (hK.sub (tys' := []) [] rfl) rfl (hW.bk (b := b) (by omega)).1.rc (hW.bk (b := b) (by omega)).1.obj) rfl hl.1 rfl (Nat.le_of_ble_eq_true rfl) dX4_requirePlace_2 ⟨Nat.zero_le _, Nat.zero_le _⟩ rfl ?_
  refine x_ifb_ne (tgt := 19) hx hb dX4_requirePlace_5 (by decide) (fun zc1 => False.elim (by first | exact absurd zc1 (by decide) | omega | (simp_all; done))) (fun zc1 => ?_)
  exact vx_throwSW hx hb hst hown (by decide +kernel) (by decide +kernel) (hG _ at_IO_l) (hG _ in_IndexOutOfBoundsException) (hT (256, "no such place") (by decide)) (at_IO hG hE) at_IO_o hZ.1 hZ.2 va_S.rf (hl.1.trans hml.symm) dX4_requirePlace_8 dX4_requirePlace_11 dX4_requirePlace_12 dX4_requirePlace_15 dX4_requirePlace_18 (fun y hy => (hnx y hy).elim) (Nat.le_of_ble_eq_true rfl) (Nat.le_of_ble_eq_true rfl) (Nat.le_of_ble_eq_true rfl) (Nat.le_of_ble_eq_true rfl) hlocks (fun t _ h1 h2 => ⟨rfl, h1, fun q hq _ => h2 q hq⟩) (fun y hy => nomatch hy) (Nat.le_refl _) (Nat.le_refl _)
set_option maxHeartbeats 4000000 in
set_option maxRecDepth 100000 in
theorem tx_requireKind (l : Launch) (hst : l.stackTraces = false) (D : va_G) (cI cC : ClassId) (ad ta : Nat → Nat) (z : Nat) (S : St) (N : Nat) (x : Int32) (hxo : rch 3 x = false) : vx_Met l yX4_requireKind (ws_ yX4_requireKind cX4_requireKind 2 none) (rmX 0) (va_Pc [.ref (ad 0), .int (x)] (pzt D [(cI, .int), (cC, .char)] ta z (fun H => Wc D cI cC ad S N H))) Nq (Xq "java/lang/IllegalArgumentException") 1 6 (fun _ => False) := by
  refine m_startX (by decide) (Nat.le_of_ble_eq_true rfl) ?_
  intro p e s m below meth c hx hb hr hG hown hlocks hml hnx hB ls hl
  have hl : lv_has ls 2 [(0, .ref (ad 0)), (1, .int (x))] := hl
  obtain ⟨hW, hK, hE, hT, hZ⟩ := hB
  refine lv_iload_n hx hb dX4_requireKind_0 rfl (lv_at hl 1 rfl) ?_
  refine lv_if_lt (tgt := 9) hx hb dX4_requireKind_1 (by decide) (fun c1 => ?_) (fun c1 => ?_)
  · exact vx_throwSW hx hb hst hown (by decide +kernel) (by decide +kernel) (hG _ at_IA_l) (hG _ in_IllegalArgumentException) (hT (258, "no such kind") (by decide)) (at_IA hG hE) at_IA_o hZ.1 hZ.2 va_S.rf (hl.1.trans hml.symm) dX4_requireKind_9 dX4_requireKind_12 dX4_requireKind_13 dX4_requireKind_16 dX4_requireKind_19 (fun y hy => (hnx y hy).elim) (Nat.le_of_ble_eq_true rfl) (Nat.le_of_ble_eq_true rfl) (Nat.le_of_ble_eq_true rfl) (Nat.le_of_ble_eq_true rfl) hlocks (fun t _ h1 h2 => ⟨rfl, h1, fun q hq _ => h2 q hq⟩) (fun y hy => nomatch hy) (Nat.le_refl _) (Nat.le_refl _)
  · refine lv_iload_n hx hb dX4_requireKind_4 rfl (lv_at hl 1 rfl) ?_
    refine lv_iconst (v := nI 2) hx hb dX4_requireKind_5 (by decide) ?_
    refine lv_icmp_le (tgt := 20) hx hb dX4_requireKind_6 (by decide) (fun zc1 => False.elim (by exact absurd zc1 (kind_no hxo c1))) (fun zc1 => ?_)
    exact vx_throwSW hx hb hst hown (by decide +kernel) (by decide +kernel) (hG _ at_IA_l) (hG _ in_IllegalArgumentException) (hT (258, "no such kind") (by decide)) (at_IA hG hE) at_IA_o hZ.1 hZ.2 va_S.rf (hl.1.trans hml.symm) dX4_requireKind_9 dX4_requireKind_12 dX4_requireKind_13 dX4_requireKind_16 dX4_requireKind_19 (fun y hy => (hnx y hy).elim) (Nat.le_of_ble_eq_true rfl) (Nat.le_of_ble_eq_true rfl) (Nat.le_of_ble_eq_true rfl) (Nat.le_of_ble_eq_true rfl) hlocks (fun t _ h1 h2 => ⟨rfl, h1, fun q hq _ => h2 q hq⟩) (fun y hy => nomatch hy) (Nat.le_refl _) (Nat.le_refl _)
set_option maxHeartbeats 4000000 in
set_option maxRecDepth 100000 in
theorem tx_openCursor_n (l : Launch) (hst : l.stackTraces = false) (D : va_G) (cI cC : ClassId) (ad ta : Nat → Nat) (z : Nat) (S : St) (N : Nat) (x : Int32) (hno4 : rch 3 x = false) : vx_Met l yX4_openCursor (ws_ yX4_openCursor cX4_openCursor 3 (some (.object "Arrivalbooks$Cursor"))) (rmX 1) (va_Pc [.ref (ad 0), .int (x)] (pzt D [(cI, .int), (cC, .char)] ta z (fun H => Wc D cI cC ad S N H))) Nq (Xq "java/lang/IndexOutOfBoundsException") 1 6 (fun _ => False) := by
  refine m_startX (by decide) (Nat.le_of_ble_eq_true rfl) ?_
  intro p e s m below meth c hx hb hr hG hown hlocks hml hnx hB ls hl
  have hl : lv_has ls 3 [(0, .ref (ad 0)), (1, .int (x))] := hl
  obtain ⟨hW, hK, hE, hT, hZ⟩ := hB
  refine lv_aload_n hx hb dX4_openCursor_0 rfl (lv_at hl 0 rfl) ?_
  refine lv_iload_n hx hb dX4_openCursor_1 rfl (lv_at hl 1 rfl) ?_
  refine k3_V hx hb hml hown hG cs_X4_137 (tx_cursorOfNumber l hst D cI cC ad ta z S N x hno4) (by decide) (pztV hK hE hT hZ (fun _ _ _ => rfl) rfl hW.rc hW) rfl hl.1 rfl (Nat.le_of_ble_eq_true rfl) dX4_openCursor_2 ⟨Nat.le_refl _, Nat.le_refl _⟩ (fun H1 q9 ce h1 h2 h3 h4 h5 => ?_)
  exact k3_out hnx hlocks h1 h2 h3 h4 h5
set_option maxHeartbeats 4000000 in
set_option maxRecDepth 100000 in
theorem tx_openCursor_c (l : Launch) (hst : l.stackTraces = false) (D : va_G) (cI cC : ClassId) (ad ta : Nat → Nat) (z : Nat) (S : St) (N : Nat) (cu : Nat) (hc3 : cu < 3) (hC : S.2.2.1 cu = none) : vx_Met l yX4_openCursor (ws_ yX4_openCursor cX4_openCursor 3 (some (.object "Arrivalbooks$Cursor"))) (rmX 1) (va_Pc [.ref (ad 0), .int (nI (cu))] (pzt D [(cI, .int), (cC, .char)] ta z (fun H => Wc D cI cC ad S N H))) Nq (Xq "java/lang/IllegalStateException") 1 6 (fun _ => False) := by
  refine m_startX (by decide) (Nat.le_of_ble_eq_true rfl) ?_
  intro p e s m below meth c hx hb hr hG hown hlocks hml hnx hB ls hl
  have hl : lv_has ls 3 [(0, .ref (ad 0)), (1, .int (nI (cu)))] := hl
  obtain ⟨hW, hK, hE, hT, hZ⟩ := hB
  have hCu := hW.cu (c := cu) (by omega)
  rw [hC] at hCu
  obtain ⟨x1, y1, z1, hCu⟩ := hCu
  refine lv_aload_n hx hb dX4_openCursor_0 rfl (lv_at hl 0 rfl) ?_
  refine lv_iload_n hx hb dX4_openCursor_1 rfl (lv_at hl 1 rfl) ?_
  refine k1_V hx hb hml hown hG cs_X4_137 (k_cursorOfNumber l D cI cC ad S N cu (by omega)) (by decide) (pzV hK rfl hW.rc hW) rfl hl.1 rfl (Nat.le_of_ble_eq_true rfl) dX4_openCursor_2 ⟨Nat.zero_le _, Nat.zero_le _⟩ rfl ?_
  refine lv_astore_n (lv' := [(2, .ref (ad (31 + cu))), (0, .ref (ad 0)), (1, .int (nI (cu)))]) hx hb dX4_openCursor_5 rfl hl (by decide) rfl (fun ls hl => ?_)
  refine lv_aload_n hx hb dX4_openCursor_6 rfl (lv_at hl 0 rfl) ?_
  refine gf_X4_153 hx hb hG hown hK hCu 0 rfl rfl dX4_openCursor_7 ?_
  refine lv_iconst (v := (-1)) hx hb dX4_openCursor_10 (by decide) ?_
  refine lv_icmp_ne (tgt := 25) hx hb dX4_openCursor_11 (by decide) (fun zc1 => False.elim (by first | exact absurd zc1 (by decide) | omega | (simp_all; done))) (fun zc1 => ?_)
  exact vx_throwSW hx hb hst hown (by decide +kernel) (by decide +kernel) (hG _ at_IS_l) (hG _ in_IllegalStateException) (hT (262, "the cursor is closed") (by decide)) (at_IS hG hE) at_IS_o hZ.1 hZ.2 va_S.rf (hl.1.trans hml.symm) dX4_openCursor_14 dX4_openCursor_17 dX4_openCursor_18 dX4_openCursor_21 dX4_openCursor_24 (fun y hy => (hnx y hy).elim) (Nat.le_of_ble_eq_true rfl) (Nat.le_of_ble_eq_true rfl) (Nat.le_of_ble_eq_true rfl) (Nat.le_of_ble_eq_true rfl) hlocks (fun t _ h1 h2 => ⟨rfl, h1, fun q hq _ => h2 q hq⟩) (fun y hy => nomatch hy) (Nat.le_refl _) (Nat.le_refl _)
set_option maxHeartbeats 4000000 in
set_option maxRecDepth 100000 in
theorem tx_requireChangeablePair_q (l : Launch) (hst : l.stackTraces = false) (D : va_G) (cI cC : ClassId) (ad ta : Nat → Nat) (z : Nat) (S : St) (N : Nat) (cu k n : Nat) (t : Bool) (hc3 : cu < 3) (hC : S.2.2.1 cu = some (3, k, n, t)) : vx_Met l yX4_requireChangeablePair (ws_ yX4_requireChangeablePair cX4_requireChangeablePair 2 none) (rmX 0) (va_Pc [.ref (ad 0), .ref (ad (31 + cu))] (pzt D [(cI, .int), (cC, .char)] ta z (fun H => Wc D cI cC ad S N H))) Nq (Xq "java/lang/IllegalStateException") 1 6 (fun _ => False) := by
  refine m_startX (by decide) (Nat.le_of_ble_eq_true rfl) ?_
  intro p e s m below meth c hx hb hr hG hown hlocks hml hnx hB ls hl
  have hl : lv_has ls 2 [(0, .ref (ad 0)), (1, .ref (ad (31 + cu)))] := hl
  obtain ⟨hW, hK, hE, hT, hZ⟩ := hB
  have hCu : CuRaw D (ad (31 + cu)) (nI 3) (nI k) (nI n) (bI t) s.heap := by have h := hW.cu (c := cu) (by omega); rw [hC] at h; exact h
  refine lv_aload_n hx hb dX4_requireChangeablePair_0 rfl (lv_at hl 1 rfl) ?_
  refine gf_X4_153 hx hb hG hown hK hCu 0 rfl rfl dX4_requireChangeablePair_1 ?_
  refine lv_iconst (v := (-1)) hx hb dX4_requireChangeablePair_4 (by decide) ?_
  refine lv_icmp_eq (tgt := 23) hx hb dX4_requireChangeablePair_5 (by decide) (fun zc1 => False.elim (by first | exact absurd zc1 (by decide) | omega | (simp_all; done))) (fun zc1 => ?_)
  refine lv_aload_n hx hb dX4_requireChangeablePair_8 rfl (lv_at hl 1 rfl) ?_
  refine gf_X4_153 hx hb hG hown hK hCu 0 rfl rfl dX4_requireChangeablePair_9 ?_
  refine lv_iconst (v := nI 3) hx hb dX4_requireChangeablePair_12 (by decide) ?_
  refine x_cmp_eq (tgt := 23) hx hb dX4_requireChangeablePair_13 (by decide) (by omega) (by omega) (fun zc2 => ?_) (fun zc2 => False.elim (by first | exact absurd zc2 (by decide) | omega | (simp_all; done)))
  exact vx_throwSW hx hb hst hown (by decide +kernel) (by decide +kernel) (hG _ at_IS_l) (hG _ in_IllegalStateException) (hT (267, "no pair that the cursor may change") (by decide)) (at_IS hG hE) at_IS_o hZ.1 hZ.2 va_S.rf (hl.1.trans hml.symm) dX4_requireChangeablePair_23 dX4_requireChangeablePair_26 dX4_requireChangeablePair_27 dX4_requireChangeablePair_30 dX4_requireChangeablePair_33 (fun y hy => (hnx y hy).elim) (Nat.le_of_ble_eq_true rfl) (Nat.le_of_ble_eq_true rfl) (Nat.le_of_ble_eq_true rfl) (Nat.le_of_ble_eq_true rfl) hlocks (fun t _ h1 h2 => ⟨rfl, h1, fun q hq _ => h2 q hq⟩) (fun y hy => nomatch hy) (Nat.le_refl _) (Nat.le_refl _)
set_option maxHeartbeats 4000000 in
set_option maxRecDepth 100000 in
theorem tx_requireChangeablePair_p (l : Launch) (hst : l.stackTraces = false) (D : va_G) (cI cC : ClassId) (ad ta : Nat → Nat) (z : Nat) (S : St) (N : Nat) (cu b k n : Nat) (hc3 : cu < 3) (hC : S.2.2.1 cu = some (b, k, n, false)) (hb4 : b < 4) (hb3 : b ≠ 3) : vx_Met l yX4_requireChangeablePair (ws_ yX4_requireChangeablePair cX4_requireChangeablePair 2 none) (rmX 0) (va_Pc [.ref (ad 0), .ref (ad (31 + cu))] (pzt D [(cI, .int), (cC, .char)] ta z (fun H => Wc D cI cC ad S N H))) Nq (Xq "java/lang/IllegalStateException") 1 6 (fun _ => False) := by
  refine m_startX (by decide) (Nat.le_of_ble_eq_true rfl) ?_
  intro p e s m below meth c hx hb hr hG hown hlocks hml hnx hB ls hl
  have hl : lv_has ls 2 [(0, .ref (ad 0)), (1, .ref (ad (31 + cu)))] := hl
  obtain ⟨hW, hK, hE, hT, hZ⟩ := hB
  have hCu : CuRaw D (ad (31 + cu)) (nI b) (nI k) (nI n) (bI false) s.heap := by have h := hW.cu (c := cu) (by omega); rw [hC] at h; exact h
  refine lv_aload_n hx hb dX4_requireChangeablePair_0 rfl (lv_at hl 1 rfl) ?_
  refine gf_X4_153 hx hb hG hown hK hCu 0 rfl rfl dX4_requireChangeablePair_1 ?_
  refine lv_iconst (v := (-1)) hx hb dX4_requireChangeablePair_4 (by decide) ?_
  refine lv_icmp_eq (tgt := 23) hx hb dX4_requireChangeablePair_5 (by decide) (fun zc1 => False.elim (by first | omega | contradiction | exact absurd zc1 (m1_ne _ (by omega)) | exact absurd zc1 (by decide) | exact absurd (Eq.symm zc1) (m1_ne _ (by omega)) | (simp_all; done))) (fun zc1 => ?_)
  refine lv_aload_n hx hb dX4_requireChangeablePair_8 rfl (lv_at hl 1 rfl) ?_
  refine gf_X4_153 hx hb hG hown hK hCu 0 rfl rfl dX4_requireChangeablePair_9 ?_
  refine lv_iconst (v := nI 3) hx hb dX4_requireChangeablePair_12 (by decide) ?_
  refine x_cmp_eq (tgt := 23) hx hb dX4_requireChangeablePair_13 (by decide) (by omega) (by omega) (fun zc2 => False.elim (by first | omega | contradiction | exact absurd zc2 (m1_ne _ (by omega)) | exact absurd zc2 (by decide) | exact absurd (Eq.symm zc2) (m1_ne _ (by omega)) | (simp_all; done))) (fun zc2 => ?_)
  refine lv_aload_n hx hb dX4_requireChangeablePair_16 rfl (lv_at hl 1 rfl) ?_
  refine gf_X4_264 hx hb hG hown hK hCu 0 rfl rfl dX4_requireChangeablePair_17 ?_
  refine x_ifb_ne (tgt := 34) hx hb dX4_requireChangeablePair_20 (by decide) (fun zc3 => False.elim (by first | exact absurd zc3 (by decide) | omega | (simp_all; done))) (fun zc3 => ?_)
  exact vx_throwSW hx hb hst hown (by decide +kernel) (by decide +kernel) (hG _ at_IS_l) (hG _ in_IllegalStateException) (hT (267, "no pair that the cursor may change") (by decide)) (at_IS hG hE) at_IS_o hZ.1 hZ.2 va_S.rf (hl.1.trans hml.symm) dX4_requireChangeablePair_23 dX4_requireChangeablePair_26 dX4_requireChangeablePair_27 dX4_requireChangeablePair_30 dX4_requireChangeablePair_33 (fun y hy => (hnx y hy).elim) (Nat.le_of_ble_eq_true rfl) (Nat.le_of_ble_eq_true rfl) (Nat.le_of_ble_eq_true rfl) (Nat.le_of_ble_eq_true rfl) hlocks (fun t _ h1 h2 => ⟨rfl, h1, fun q hq _ => h2 q hq⟩) (fun y hy => nomatch hy) (Nat.le_refl _) (Nat.le_refl _)
set_option maxHeartbeats 4000000 in
set_option maxRecDepth 100000 in
theorem tx_requireChangeablePair_c (l : Launch) (hst : l.stackTraces = false) (D : va_G) (cI cC : ClassId) (ad ta : Nat → Nat) (z : Nat) (S : St) (N : Nat) (cu : Nat) (hc3 : cu < 3) (hC : S.2.2.1 cu = none) : vx_Met l yX4_requireChangeablePair (ws_ yX4_requireChangeablePair cX4_requireChangeablePair 2 none) (rmX 0) (va_Pc [.ref (ad 0), .ref (ad (31 + cu))] (pzt D [(cI, .int), (cC, .char)] ta z (fun H => Wc D cI cC ad S N H))) Nq (Xq "java/lang/IllegalStateException") 1 6 (fun _ => False) := by
  refine m_startX (by decide) (Nat.le_of_ble_eq_true rfl) ?_
  intro p e s m below meth c hx hb hr hG hown hlocks hml hnx hB ls hl
  have hl : lv_has ls 2 [(0, .ref (ad 0)), (1, .ref (ad (31 + cu)))] := hl
  obtain ⟨hW, hK, hE, hT, hZ⟩ := hB
  have hCu := hW.cu (c := cu) (by omega)
  rw [hC] at hCu
  obtain ⟨x1, y1, z1, hCu⟩ := hCu
  refine lv_aload_n hx hb dX4_requireChangeablePair_0 rfl (lv_at hl 1 rfl) ?_
  refine gf_X4_153 hx hb hG hown hK hCu 0 rfl rfl dX4_requireChangeablePair_1 ?_
  refine lv_iconst (v := (-1)) hx hb dX4_requireChangeablePair_4 (by decide) ?_
  refine lv_icmp_eq (tgt := 23) hx hb dX4_requireChangeablePair_5 (by decide) (fun zc1 => ?_) (fun zc1 => False.elim (by first | exact absurd zc1 (by decide) | omega | (simp_all; done)))
  exact vx_throwSW hx hb hst hown (by decide +kernel) (by decide +kernel) (hG _ at_IS_l) (hG _ in_IllegalStateException) (hT (267, "no pair that the cursor may change") (by decide)) (at_IS hG hE) at_IS_o hZ.1 hZ.2 va_S.rf (hl.1.trans hml.symm) dX4_requireChangeablePair_23 dX4_requireChangeablePair_26 dX4_requireChangeablePair_27 dX4_requireChangeablePair_30 dX4_requireChangeablePair_33 (fun y hy => (hnx y hy).elim) (Nat.le_of_ble_eq_true rfl) (Nat.le_of_ble_eq_true rfl) (Nat.le_of_ble_eq_true rfl) (Nat.le_of_ble_eq_true rfl) hlocks (fun t _ h1 h2 => ⟨rfl, h1, fun q hq _ => h2 q hq⟩) (fun y hy => nomatch hy) (Nat.le_refl _) (Nat.le_refl _)
