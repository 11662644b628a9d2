set_option maxHeartbeats 4000000 in
set_option maxRecDepth 100000 in
theorem k_bookOfNumber (l : Launch) (D : va_G) (cI cC : ClassId) (ad : Nat → Nat) (S : St) (N : Nat) (b : Nat) (hb4 : b < 4) : Met l yX4_bookOfNumber (ws_ yX4_bookOfNumber cX4_bookOfNumber 2 (some (.object "Arrivalbooks$Book"))) (rmN 0) (va_Pc [.ref (ad 0), .int (nI (b))] (pz D [(cI, .int), (cC, .char)] (fun H => Wc D cI cC ad S N H))) (Pq (some (.ref ((bk_ ad b) 0)))) 0 0 (fun _ => False) := by
  refine m_start (by decide) (Nat.le_of_ble_eq_true rfl) ?_
  intro p e s m below meth c hx hb hr hG hown hlocks hml hB ls hl
  have hl : lv_has ls 2 [(0, .ref (ad 0)), (1, .int (nI (b)))] := hl
  obtain ⟨hW, hK⟩ := hB
  rcases (show b = 0 ∨ b = 1 ∨ b = 2 ∨ b = 3 from by omega) with e | e | e | e
  · subst e
    have hl : lv_has ls 2 [(0, .ref (ad 0)), (1, .int (nI 0))] := hl
    refine lv_iload_n hx hb dX4_bookOfNumber_0 rfl (lv_at hl 1 rfl) ?_
    refine lv_tableIn (x := nI 0) (off := 31) (tgt := 32) hx hb dX4_bookOfNumber_1 (by decide) (by decide) (by decide) (by decide) ?_
    refine lv_aload_n hx hb dX4_bookOfNumber_32 rfl (lv_at hl 0 rfl) ?_
    refine gf_X4_14 hx hb hG hown hK hW.x 0 rfl rfl dX4_bookOfNumber_33 ?_
    exact e_r rfl hx hb hr hlocks dX4_bookOfNumber_36
  · subst e
    have hl : lv_has ls 2 [(0, .ref (ad 0)), (1, .int (nI 1))] := hl
    refine lv_iload_n hx hb dX4_bookOfNumber_0 rfl (lv_at hl 1 rfl) ?_
    refine lv_tableIn (x := nI 1) (off := 36) (tgt := 37) hx hb dX4_bookOfNumber_1 (by decide) (by decide) (by decide) (by decide) ?_
    refine lv_aload_n hx hb dX4_bookOfNumber_37 rfl (lv_at hl 0 rfl) ?_
    refine gf_X4_18 hx hb hG hown hK hW.x 0 rfl rfl dX4_bookOfNumber_38 ?_
    exact e_r rfl hx hb hr hlocks dX4_bookOfNumber_41
  · subst e
    have hl : lv_has ls 2 [(0, .ref (ad 0)), (1, .int (nI 2))] := hl
    refine lv_iload_n hx hb dX4_bookOfNumber_0 rfl (lv_at hl 1 rfl) ?_
    refine lv_tableIn (x := nI 2) (off := 41) (tgt := 42) hx hb dX4_bookOfNumber_1 (by decide) (by decide) (by decide) (by decide) ?_
    refine lv_aload_n hx hb dX4_bookOfNumber_42 rfl (lv_at hl 0 rfl) ?_
    refine gf_X4_21 hx hb hG hown hK hW.x 0 rfl rfl dX4_bookOfNumber_43 ?_
    exact e_r rfl hx hb hr hlocks dX4_bookOfNumber_46
  · subst e
    have hl : lv_has ls 2 [(0, .ref (ad 0)), (1, .int (nI 3))] := hl
    refine lv_iload_n hx hb dX4_bookOfNumber_0 rfl (lv_at hl 1 rfl) ?_
    refine lv_tableIn (x := nI 3) (off := 46) (tgt := 47) hx hb dX4_bookOfNumber_1 (by decide) (by decide) (by decide) (by decide) ?_
    refine lv_aload_n hx hb dX4_bookOfNumber_47 rfl (lv_at hl 0 rfl) ?_
    refine gf_X4_24 hx hb hG hown hK hW.x 0 rfl rfl dX4_bookOfNumber_48 ?_
    exact e_r rfl hx hb hr hlocks dX4_bookOfNumber_51
set_option maxHeartbeats 4000000 in
set_option maxRecDepth 100000 in
theorem k_cursorOfNumber (l : Launch) (D : va_G) (cI cC : ClassId) (ad : Nat → Nat) (S : St) (N : Nat) (b : Nat) (hb4 : b < 3) : Met l yX4_cursorOfNumber (ws_ yX4_cursorOfNumber cX4_cursorOfNumber 2 (some (.object "Arrivalbooks$Cursor"))) (rmN 0) (va_Pc [.ref (ad 0), .int (nI (b))] (pz D [(cI, .int), (cC, .char)] (fun H => Wc D cI cC ad S N H))) (Pq (some (.ref (ad (31 + b))))) 0 0 (fun _ => False) := by
  refine m_start (by decide) (Nat.le_of_ble_eq_true rfl) ?_
  intro p e s m below meth c hx hb hr hG hown hlocks hml hB ls hl
  have hl : lv_has ls 2 [(0, .ref (ad 0)), (1, .int (nI (b)))] := hl
  obtain ⟨hW, hK⟩ := hB
  rcases (show b = 0 ∨ b = 1 ∨ b = 2 from by omega) with e | e | e
  · subst e
    have hl : lv_has ls 2 [(0, .ref (ad 0)), (1, .int (nI 0))] := hl
    refine lv_iload_n hx hb dX4_cursorOfNumber_0 rfl (lv_at hl 1 rfl) ?_
    refine lv_tableIn (x := nI 0) (off := 27) (tgt := 28) hx hb dX4_cursorOfNumber_1 (by decide) (by decide) (by decide) (by decide) ?_
    refine lv_aload_n hx hb dX4_cursorOfNumber_28 rfl (lv_at hl 0 rfl) ?_
    refine gf_X4_33 hx hb hG hown hK hW.x 0 rfl rfl dX4_cursorOfNumber_29 ?_
    exact e_r rfl hx hb hr hlocks dX4_cursorOfNumber_32
  · subst e
    have hl : lv_has ls 2 [(0, .ref (ad 0)), (1, .int (nI 1))] := hl
    refine lv_iload_n hx hb dX4_cursorOfNumber_0 rfl (lv_at hl 1 rfl) ?_
    refine lv_tableIn (x := nI 1) (off := 32) (tgt := 33) hx hb dX4_cursorOfNumber_1 (by decide) (by decide) (by decide) (by decide) ?_
    refine lv_aload_n hx hb dX4_cursorOfNumber_33 rfl (lv_at hl 0 rfl) ?_
    refine gf_X4_37 hx hb hG hown hK hW.x 0 rfl rfl dX4_cursorOfNumber_34 ?_
    exact e_r rfl hx hb hr hlocks dX4_cursorOfNumber_37
  · subst e
    have hl : lv_has ls 2 [(0, .ref (ad 0)), (1, .int (nI 2))] := hl
    refine lv_iload_n hx hb dX4_cursorOfNumber_0 rfl (lv_at hl 1 rfl) ?_
    refine lv_tableIn (x := nI 2) (off := 37) (tgt := 38) hx hb dX4_cursorOfNumber_1 (by decide) (by decide) (by decide) (by decide) ?_
    refine lv_aload_n hx hb dX4_cursorOfNumber_38 rfl (lv_at hl 0 rfl) ?_
    refine gf_X4_40 hx hb hG hown hK hW.x 0 rfl rfl dX4_cursorOfNumber_39 ?_
    exact e_r rfl hx hb hr hlocks dX4_cursorOfNumber_42
set_option maxHeartbeats 4000000 in
set_option maxRecDepth 100000 in
theorem k_bookChangedByHand (l : Launch) (D : va_G) (cI cC : ClassId) (ad : Nat → Nat) (S : St) (N : Nat) (b : Nat) (hb4 : b < 3) : Met l yX4_bookChangedByHand (ws_ yX4_bookChangedByHand cX4_bookChangedByHand 3 (some (.object "Arrivalbooks$Book"))) (rmN 1) (va_Pc [.ref (ad 0), .int (nI (b))] (pz D [(cI, .int), (cC, .char)] (fun H => Wc D cI cC ad S N H))) (Pq (some (.ref ((bk_ ad b) 0)))) 0 0 (fun _ => False) := by
  refine m_start (by decide) (Nat.le_of_ble_eq_true rfl) ?_
  intro p e s m below meth c hx hb hr hG hown hlocks hml hB ls hl
  have hl : lv_has ls 3 [(0, .ref (ad 0)), (1, .int (nI (b)))] := hl
  obtain ⟨hW, hK⟩ := hB
  refine lv_aload_n hx hb dX4_bookChangedByHand_0 rfl (lv_at hl 0 rfl) ?_
  refine lv_iload_n hx hb dX4_bookChangedByHand_1 rfl (lv_at hl 1 rfl) ?_
  refine k1_V hx hb hml hown hG cs_X4_113 (k_bookOfNumber l D cI cC ad S N b (by omega)) (by decide) (pzV hK rfl hW.rc hW) rfl hl.1 rfl (Nat.le_of_ble_eq_true rfl) dX4_bookChangedByHand_2 ⟨Nat.zero_le _, Nat.zero_le _⟩ rfl ?_
  refine lv_astore_n (lv' := [(2, .ref ((bk_ ad b) 0)), (0, .ref (ad 0)), (1, .int (nI (b)))]) hx hb dX4_bookChangedByHand_5 rfl hl (by decide) rfl (fun ls hl => ?_)
  refine lv_iload_n hx hb dX4_bookChangedByHand_6 rfl (lv_at hl 2 rfl) ?_
  refine lv_iconst (v := nI 3) hx hb dX4_bookChangedByHand_7 (by decide) ?_
  refine x_cmp_ne (tgt := 21) hx hb dX4_bookChangedByHand_8 (by decide) (by omega) (by omega) (fun zc1 => ?_) (fun zc1 => False.elim (by first | omega | contradiction | exact absurd zc1 (m1_ne _ (by omega)) | exact absurd zc1 (by decide) | exact absurd (Eq.symm zc1) (m1_ne _ (by omega)) | (simp_all; done)))
  refine lv_aload_n hx hb dX4_bookChangedByHand_21 rfl (lv_at hl 0 rfl) ?_
  exact e_r rfl hx hb hr hlocks dX4_bookChangedByHand_22
set_option maxHeartbeats 4000000 in
set_option maxRecDepth 100000 in
theorem k_plainBook (l : Launch) (D : va_G) (cI cC : ClassId) (ad : Nat → Nat) (S : St) (N : Nat) (b : Nat) (hb4 : b < 2) : Met l yX4_plainBook (ws_ yX4_plainBook cX4_plainBook 3 (some (.object "Arrivalbooks$Book"))) (rmN 1) (va_Pc [.ref (ad 0), .int (nI (b))] (pz D [(cI, .int), (cC, .char)] (fun H => Wc D cI cC ad S N H))) (Pq (some (.ref ((bk_ ad b) 0)))) 0 0 (fun _ => False) := by
  refine m_start (by decide) (Nat.le_of_ble_eq_true rfl) ?_
  intro p e s m below meth c hx hb hr hG hown hlocks hml hB ls hl
  have hl : lv_has ls 3 [(0, .ref (ad 0)), (1, .int (nI (b)))] := hl
  obtain ⟨hW, hK⟩ := hB
  refine lv_aload_n hx hb dX4_plainBook_0 rfl (lv_at hl 0 rfl) ?_
  refine lv_iload_n hx hb dX4_plainBook_1 rfl (lv_at hl 1 rfl) ?_
  refine k1_V hx hb hml hown hG cs_X4_113 (k_bookOfNumber l D cI cC ad S N b (by omega)) (by decide) (pzV hK rfl hW.rc hW) rfl hl.1 rfl (Nat.le_of_ble_eq_true rfl) dX4_plainBook_2 ⟨Nat.zero_le _, Nat.zero_le _⟩ rfl ?_
  refine lv_astore_n (lv' := [(2, .ref ((bk_ ad b) 0)), (0, .ref (ad 0)), (1, .int (nI (b)))]) hx hb dX4_plainBook_5 rfl hl (by decide) rfl (fun ls hl => ?_)
  refine lv_iload_n hx hb dX4_plainBook_6 rfl (lv_at hl 2 rfl) ?_
  refine lv_iconst (v := nI 2) hx hb dX4_plainBook_7 (by decide) ?_
  refine x_cmp_eq (tgt := 16) hx hb dX4_plainBook_8 (by decide) (by omega) (by omega) (fun zc1 => False.elim (by first | omega | contradiction | exact absurd zc1 (m1_ne _ (by omega)) | exact absurd zc1 (by decide) | exact absurd (Eq.symm zc1) (m1_ne _ (by omega)) | (simp_all; done))) (fun zc1 => ?_)
  refine lv_iload_n hx hb dX4_plainBook_11 rfl (lv_at hl 2 rfl) ?_
  refine lv_iconst (v := nI 3) hx hb dX4_plainBook_12 (by decide) ?_
  refine x_cmp_ne (tgt := 26) hx hb dX4_plainBook_13 (by decide) (by omega) (by omega) (fun zc2 => ?_) (fun zc2 => False.elim (by first | omega | contradiction | exact absurd zc2 (m1_ne _ (by omega)) | exact absurd zc2 (by decide) | exact absurd (Eq.symm zc2) (m1_ne _ (by omega)) | (simp_all; done)))
  refine lv_aload_n hx hb dX4_plainBook_26 rfl (lv_at hl 0 rfl) ?_
  exact e_r rfl hx hb hr hlocks dX4_plainBook_27
set_option maxHeartbeats 4000000 in
set_option maxRecDepth 100000 in
theorem k_requireTwoBooks (l : Launch) (D : va_G) (cI cC : ClassId) (ad : Nat → Nat) (S : St) (N : Nat) (b q : Nat) (hb4 : b < 4) (hq4 : q < 4) (hbq : b ≠ q) : Met l yX4_requireTwoBooks (ws_ yX4_requireTwoBooks cX4_requireTwoBooks 3 none) (rmN 0) (va_Pc [.ref (ad 0), .int (nI (b)), .int (nI (q))] (pz D [(cI, .int), (cC, .char)] (fun H => Wc D cI cC ad S N H))) (Pq none) 0 0 (fun _ => False) := by
  refine m_start (by decide) (Nat.le_of_ble_eq_true rfl) ?_
  intro p e s m below meth c hx hb hr hG hown hlocks hml hB ls hl
  have hl : lv_has ls 3 [(0, .ref (ad 0)), (1, .int (nI (b))), (2, .int (nI (q)))] := hl
  obtain ⟨hW, hK⟩ := hB
  refine lv_iload_n hx hb dX4_requireTwoBooks_0 rfl (lv_at hl 1 rfl) ?_
  refine lv_iload_n hx hb dX4_requireTwoBooks_1 rfl (lv_at hl 2 rfl) ?_
  refine x_cmp_ne (tgt := 15) hx hb dX4_requireTwoBooks_2 (by decide) (by omega) (by omega) (fun zc1 => ?_) (fun zc1 => False.elim (by first | omega | contradiction | exact absurd zc1 (m1_ne _ (by omega)) | exact absurd zc1 (by decide) | exact absurd (Eq.symm zc1) (m1_ne _ (by omega)) | (simp_all; done)))
  exact e_v hx hb hr hlocks dX4_requireTwoBooks_15
set_option maxHeartbeats 4000000 in
set_option maxRecDepth 100000 in
theorem k_requireRoom (l : Launch) (D : va_G) (cI cC : ClassId) (ad : Nat → Nat) (S : St) (N : Nat) (b k : Nat) (hb4 : b < 4) (hk2 : k ≤ 300) (hbd : bdO S b ≤ 200) (hrm : lgO b = true ∨ (S.1 b).length + k ≤ bdO S b) : Met l yX4_requireRoom (ws_ yX4_requireRoom cX4_requireRoom 3 none) (rmN 0) (va_Pc [.ref (ad 0), .ref ((bk_ ad b) 0), .int (nI (k))] (pz D [(cI, .int), (cC, .char)] (fun H => Wc D cI cC ad S N H))) (Pq none) 0 0 (fun _ => False) := by
  refine m_start (by decide) (Nat.le_of_ble_eq_true rfl) ?_
  intro p e s m below meth c hx hb hr hG hown hlocks hml hB ls hl
  have hl : lv_has ls 3 [(0, .ref (ad 0)), (1, .ref ((bk_ ad b) 0)), (2, .int (nI (k)))] := hl
  obtain ⟨hW, hK⟩ := hB
  have hlen := (hW.bk hb4).1.len
  refine lv_aload_n hx hb dX4_requireRoom_0 rfl (lv_at hl 1 rfl) ?_
  refine gf_X4_246 hx hb hG hown hK (hW.bk (b := b) (by omega)).1.obj 0 rfl rfl dX4_requireRoom_1 ?_
  refine x_ifb_ne (tgt := 30) hx hb dX4_requireRoom_4 (by decide) (fun c1 => ?_) (fun c1 => ?_)
  · exact e_v hx hb hr hlocks dX4_requireRoom_30
  · refine lv_aload_n hx hb dX4_requireRoom_7 rfl (lv_at hl 1 rfl) ?_
    refine gf_X4_57 hx hb hG hown hK (hW.bk (b := b) (by omega)).1.obj 0 rfl rfl dX4_requireRoom_8 ?_
    refine lv_iload_n hx hb dX4_requireRoom_11 rfl (lv_at hl 2 rfl) ?_
    refine x_iadd (v := nI (((S.1 b).length) + k)) hx hb dX4_requireRoom_12 (nI_add _ _) ?_
    refine lv_aload_n hx hb dX4_requireRoom_13 rfl (lv_at hl 1 rfl) ?_
    refine gf_X4_64 hx hb hG hown hK (hW.bk (b := b) (by omega)).1.obj 0 rfl rfl dX4_requireRoom_14 ?_
    refine x_cmp_le (tgt := 30) hx hb dX4_requireRoom_17 (by decide) (by omega) (by omega) (fun c2 => ?_) (fun c2 => ?_)
    · exact e_v hx hb hr hlocks dX4_requireRoom_30
    · rcases hrm with z | z
      · rw [c1] at z; cases z
      · omega
set_option maxHeartbeats 4000000 in
set_option maxRecDepth 100000 in
theorem k_requireRoomForKey (l : Launch) (D : va_G) (cI cC : ClassId) (ad : Nat → Nat) (S : St) (N : Nat) (b : Nat) (key : Int32) (hb4 : b < 4) (hI : Inv S) (hfu : full S b key = false) : Met l yX4_requireRoomForKey (ws_ yX4_requireRoomForKey cX4_requireRoomForKey 3 none) (rmN 1) (va_Pc [.ref (ad 0), .ref ((bk_ ad b) 0), .int (key)] (pz D [(cI, .int), (cC, .char)] (fun H => Wc D cI cC ad S N H))) (Pq none) 0 0 (fun _ => False) := by
  refine m_start (by decide) (Nat.le_of_ble_eq_true rfl) ?_
  intro p e s m below meth c hx hb hr hG hown hlocks hml hB ls hl
  have hl : lv_has ls 3 [(0, .ref (ad 0)), (1, .ref ((bk_ ad b) 0)), (2, .int (key))] := hl
  obtain ⟨hW, hK⟩ := hB
  have hlen := (hI.1 b hb4).2
  cases hf : fx (S.1 b) key with
  | none =>
    have hrm : lgO b = true ∨ (S.1 b).length + 1 ≤ bdO S b := by
      by_cases e : b = 2
      · exact Or.inl (decide_eq_true e)
      · right
        unfold bdO
        rw [if_neg e]
        unfold full at hfu
        rw [decide_eq_true e, hf] at hfu
        by_cases e2 : (S.1 b).length = 200
        · rw [decide_eq_true e2] at hfu; cases hfu
        · omega
    refine lv_aload_n hx hb dX4_requireRoomForKey_0 rfl (lv_at hl 0 rfl) ?_
    refine lv_aload_n hx hb dX4_requireRoomForKey_1 rfl (lv_at hl 1 rfl) ?_
    refine lv_aload_n hx hb dX4_requireRoomForKey_2 rfl (lv_at hl 1 rfl) ?_
    refine lv_iload_n hx hb dX4_requireRoomForKey_3 rfl (lv_at hl 2 rfl) ?_
    refine k1_V hx hb hml hown hG cs_X4_86 (c_find_no l D cI (bk_ ad b) (lgO b) (bdO S b) (S.1 b) key (hf)) (by decide) (pzV (hK.sub (tys' := [(cI, .int)]) [0] rfl) rfl (hW.bk (b := b) (by omega)).1.rc (hW.bk (b := b) (by omega)).1) rfl hl.1 rfl (Nat.le_of_ble_eq_true rfl) dX4_requireRoomForKey_4 ⟨Nat.zero_le _, Nat.zero_le _⟩ rfl ?_
    refine lv_iconst (v := (-1)) hx hb dX4_requireRoomForKey_7 (by decide) ?_
    refine lv_icmp_ne (tgt := 15) hx hb dX4_requireRoomForKey_8 (by decide) (fun zc1 => False.elim (by first | exact absurd zc1 (by decide) | omega | (simp_all; done))) (fun zc1 => ?_)
    refine lv_iconst (v := nI 1) hx hb dX4_requireRoomForKey_11 (by decide) ?_
    refine lv_goto (tgt := 16) hx hb dX4_requireRoomForKey_12 (by decide) ?_
    refine k1_V hx hb hml hown hG cs_X4_110 (k_requireRoom l D cI cC ad S N b 1 (by omega) (by omega) (bdO_le hI b) (hrm)) (by decide) (pzV hK rfl hW.rc hW) rfl hl.1 rfl (Nat.le_of_ble_eq_true rfl) dX4_requireRoomForKey_16 ⟨Nat.zero_le _, Nat.zero_le _⟩ rfl ?_
    exact e_v hx hb hr hlocks dX4_requireRoomForKey_19
  | some i =>
    have hi := (fx_some hf).1
    have hrm : lgO b = true ∨ (S.1 b).length + 0 ≤ bdO S b := by
      by_cases e : b = 2
      · exact Or.inl (decide_eq_true e)
      · right
        unfold bdO
        rw [if_neg e]
        omega
    refine lv_aload_n hx hb dX4_requireRoomForKey_0 rfl (lv_at hl 0 rfl) ?_
    refine lv_aload_n hx hb dX4_requireRoomForKey_1 rfl (lv_at hl 1 rfl) ?_
    refine lv_aload_n hx hb dX4_requireRoomForKey_2 rfl (lv_at hl 1 rfl) ?_
    refine lv_iload_n hx hb dX4_requireRoomForKey_3 rfl (lv_at hl 2 rfl) ?_
    refine k1_V hx hb hml hown hG cs_X4_86 (c_find_at l D cI (bk_ ad b) (lgO b) (bdO S b) (S.1 b) key (hi := (hf))) (by decide) (pzV (hK.sub (tys' := [(cI, .int)]) [0] rfl) rfl (hW.bk (b := b) (by omega)).1.rc (hW.bk (b := b) (by omega)).1) rfl hl.1 rfl (Nat.le_of_ble_eq_true rfl) dX4_requireRoomForKey_4 ⟨Nat.zero_le _, Nat.zero_le _⟩ rfl ?_
    refine lv_iconst (v := (-1)) hx hb dX4_requireRoomForKey_7 (by decide) ?_
    refine lv_icmp_ne (tgt := 15) hx hb dX4_requireRoomForKey_8 (by decide) (fun zc2 => ?_) (fun zc2 => False.elim (by first | omega | contradiction | exact absurd zc2 (m1_ne _ (by omega)) | exact absurd zc2 (by decide) | exact absurd (Eq.symm zc2) (m1_ne _ (by omega)) | (simp_all; done)))
    refine lv_iconst (v := nI 0) hx hb dX4_requireRoomForKey_15 (by decide) ?_
    refine k1_V hx hb hml hown hG cs_X4_110 (k_requireRoom l D cI cC ad S N b 0 (by omega) (by omega) (bdO_le hI b) (hrm)) (by decide) (pzV hK rfl hW.rc hW) rfl hl.1 rfl (Nat.le_of_ble_eq_true rfl) dX4_requireRoomForKey_16 ⟨Nat.zero_le _, Nat.zero_le _⟩ rfl ?_
    exact e_v hx hb hr hlocks dX4_requireRoomForKey_19
set_option maxHeartbeats 4000000 in
set_option maxRecDepth 100000 in
theorem k_requirePlace (l : Launch) (D : va_G) (cI cC : ClassId) (ad : Nat → Nat) (S : St) (N : Nat) (b j : Nat) (hb4 : b < 4) (hj : j < (S.1 b).length) : Met l yX4_requirePlace (ws_ yX4_requirePlace cX4_requirePlace 3 none) (rmN 1) (va_Pc [.ref (ad 0), .ref ((bk_ ad b) 0), .int (nI (j))] (pz D [(cI, .int), (cC, .char)] (fun H => Wc D cI cC ad S N H))) (Pq none) 0 0 (fun _ => False) := by
  refine m_start (by decide) (Nat.le_of_ble_eq_true rfl) ?_
  intro p e s m below meth c hx hb hr hG hown hlocks hml hB ls hl
  have hl : lv_has ls 3 [(0, .ref (ad 0)), (1, .ref ((bk_ ad b) 0)), (2, .int (nI (j)))] := hl
  obtain ⟨hW, hK⟩ := hB
  have hlen := (hW.bk hb4).1.len
  refine lv_aload_n hx hb dX4_requirePlace_0 rfl (lv_at hl 1 rfl) ?_
  refine lv_iload_n hx hb dX4_requirePlace_1 rfl (lv_at hl 2 rfl) ?_
  refine k1_V hx hb hml hown hG cs_X4_255 (by have h := c_reaches l D (bk_ ad b) (lgO b) (bdO S b) (S.1 b).length (nI j); rw [rch_in hj (by omega)] at h; exact h) (by decide) (pzV (hK.sub (tys' := []) [] rfl) rfl (hW.bk (b := b) (by omega)).1.rc (hW.bk (b := b) (by omega)).1.obj) rfl hl.1 rfl (Nat.le_of_ble_eq_true rfl) dX4_requirePlace_2 ⟨Nat.zero_le _, Nat.zero_le _⟩ rfl ?_
  refine x_ifb_ne (tgt := 19) hx hb dX4_requirePlace_5 (by decide) (fun zc1 => ?_) (fun zc1 => False.elim (by first | exact absurd zc1 (by decide) | omega | (simp_all; done)))
  exact e_v hx hb hr hlocks dX4_requirePlace_19
set_option maxHeartbeats 4000000 in
set_option maxRecDepth 100000 in
theorem k_requireKind (l : Launch) (D : va_G) (cI cC : ClassId) (ad : Nat → Nat) (S : St) (N : Nat) (k : Nat) (hk3 : k < 3) : Met l yX4_requireKind (ws_ yX4_requireKind cX4_requireKind 2 none) (rmN 0) (va_Pc [.ref (ad 0), .int (nI (k))] (pz D [(cI, .int), (cC, .char)] (fun H => Wc D cI cC ad S N H))) (Pq none) 0 0 (fun _ => False) := by
  refine m_start (by decide) (Nat.le_of_ble_eq_true rfl) ?_
  intro p e s m below meth c hx hb hr hG hown hlocks hml hB ls hl
  have hl : lv_has ls 2 [(0, .ref (ad 0)), (1, .int (nI (k)))] := hl
  obtain ⟨hW, hK⟩ := hB
  refine lv_iload_n hx hb dX4_requireKind_0 rfl (lv_at hl 1 rfl) ?_
  refine lv_if_lt (tgt := 9) hx hb dX4_requireKind_1 (by decide) (fun zc1 => False.elim (by exact nI_nneg (by omega) zc1)) (fun zc1 => ?_)
  refine lv_iload_n hx hb dX4_requireKind_4 rfl (lv_at hl 1 rfl) ?_
  refine lv_iconst (v := nI 2) hx hb dX4_requireKind_5 (by decide) ?_
  refine x_cmp_le (tgt := 20) hx hb dX4_requireKind_6 (by decide) (by omega) (by omega) (fun zc2 => ?_) (fun zc2 => False.elim (by first | omega | contradiction | exact absurd zc2 (m1_ne _ (by omega)) | exact absurd zc2 (by decide) | exact absurd (Eq.symm zc2) (m1_ne _ (by omega)) | (simp_all; done)))
  exact e_v hx hb hr hlocks dX4_requireKind_20
set_option maxHeartbeats 4000000 in
set_option maxRecDepth 100000 in
theorem k_openCursor (l : Launch) (D : va_G) (cI cC : ClassId) (ad : Nat → Nat) (S : St) (N : Nat) (cu b k n : Nat) (t : Bool) (hc3 : cu < 3) (hC : S.2.2.1 cu = some (b, k, n, t)) (hb4 : b < 4) : Met l yX4_openCursor (ws_ yX4_openCursor cX4_openCursor 3 (some (.object "Arrivalbooks$Cursor"))) (rmN 1) (va_Pc [.ref (ad 0), .int (nI (cu))] (pz D [(cI, .int), (cC, .char)] (fun H => Wc D cI cC ad S N H))) (Pq (some (.ref (ad (31 + cu))))) 0 0 (fun _ => False) := by
  refine m_start (by decide) (Nat.le_of_ble_eq_true rfl) ?_
  intro p e s m below meth c hx hb hr hG hown hlocks hml hB ls hl
  have hl : lv_has ls 3 [(0, .ref (ad 0)), (1, .int (nI (cu)))] := hl
  obtain ⟨hW, hK⟩ := hB
  have hCu : CuRaw D (ad (31 + cu)) (nI b) (nI k) (nI n) (bI t) s.heap := by have h := hW.cu (c := cu) (by omega); rw [hC] at h; exact h
  refine lv_aload_n hx hb dX4_openCursor_0 rfl (lv_at hl 0 rfl) ?_
  refine lv_iload_n hx hb dX4_openCursor_1 rfl (lv_at hl 1 rfl) ?_
  refine k1_V hx hb hml hown hG cs_X4_137 (k_cursorOfNumber l D cI cC ad S N cu (by omega)) (by decide) (pzV hK rfl hW.rc hW) rfl hl.1 rfl (Nat.le_of_ble_eq_true rfl) dX4_openCursor_2 ⟨Nat.zero_le _, Nat.zero_le _⟩ rfl ?_
  refine lv_astore_n (lv' := [(2, .ref (ad (31 + cu))), (0, .ref (ad 0)), (1, .int (nI (cu)))]) hx hb dX4_openCursor_5 rfl hl (by decide) rfl (fun ls hl => ?_)
  refine lv_aload_n hx hb dX4_openCursor_6 rfl (lv_at hl 0 rfl) ?_
  refine gf_X4_153 hx hb hG hown hK hCu 0 rfl rfl dX4_openCursor_7 ?_
  refine lv_iconst (v := (-1)) hx hb dX4_openCursor_10 (by decide) ?_
  refine lv_icmp_ne (tgt := 25) hx hb dX4_openCursor_11 (by decide) (fun zc1 => ?_) (fun zc1 => False.elim (by first | omega | contradiction | exact absurd zc1 (m1_ne _ (by omega)) | exact absurd zc1 (by decide) | exact absurd (Eq.symm zc1) (m1_ne _ (by omega)) | (simp_all; done)))
  refine lv_aload_n hx hb dX4_openCursor_25 rfl (lv_at hl 0 rfl) ?_
  exact e_r rfl hx hb hr hlocks dX4_openCursor_26
set_option maxHeartbeats 4000000 in
set_option maxRecDepth 100000 in
theorem k_requireChangeablePair (l : Launch) (D : va_G) (cI cC : ClassId) (ad : Nat → Nat) (S : St) (N : Nat) (cu b k n : Nat) (hc3 : cu < 3) (hC : S.2.2.1 cu = some (b, k, n, true)) (hb4 : b < 3) : Met l yX4_requireChangeablePair (ws_ yX4_requireChangeablePair cX4_requireChangeablePair 2 none) (rmN 0) (va_Pc [.ref (ad 0), .ref (ad (31 + cu))] (pz D [(cI, .int), (cC, .char)] (fun H => Wc D cI cC ad S N H))) (Pq none) 0 0 (fun _ => False) := by
  refine m_start (by decide) (Nat.le_of_ble_eq_true rfl) ?_
  intro p e s m below meth c hx hb hr hG hown hlocks hml hB ls hl
  have hl : lv_has ls 2 [(0, .ref (ad 0)), (1, .ref (ad (31 + cu)))] := hl
  obtain ⟨hW, hK⟩ := hB
  have hCu : CuRaw D (ad (31 + cu)) (nI b) (nI k) (nI n) (bI true) s.heap := by have h := hW.cu (c := cu) (by omega); rw [hC] at h; exact h
  refine lv_aload_n hx hb dX4_requireChangeablePair_0 rfl (lv_at hl 1 rfl) ?_
  refine gf_X4_153 hx hb hG hown hK hCu 0 rfl rfl dX4_requireChangeablePair_1 ?_
  refine lv_iconst (v := (-1)) hx hb dX4_requireChangeablePair_4 (by decide) ?_
  refine lv_icmp_eq (tgt := 23) hx hb dX4_requireChangeablePair_5 (by decide) (fun zc1 => False.elim (by first | omega | contradiction | exact absurd zc1 (m1_ne _ (by omega)) | exact absurd zc1 (by decide) | exact absurd (Eq.symm zc1) (m1_ne _ (by omega)) | (simp_all; done))) (fun zc1 => ?_)
  refine lv_aload_n hx hb dX4_requireChangeablePair_8 rfl (lv_at hl 1 rfl) ?_
  refine gf_X4_153 hx hb hG hown hK hCu 0 rfl rfl dX4_requireChangeablePair_9 ?_
  refine lv_iconst (v := nI 3) hx hb dX4_requireChangeablePair_12 (by decide) ?_
  refine x_cmp_eq (tgt := 23) hx hb dX4_requireChangeablePair_13 (by decide) (by omega) (by omega) (fun zc2 => False.elim (by first | omega | contradiction | exact absurd zc2 (m1_ne _ (by omega)) | exact absurd zc2 (by decide) | exact absurd (Eq.symm zc2) (m1_ne _ (by omega)) | (simp_all; done))) (fun zc2 => ?_)
  refine lv_aload_n hx hb dX4_requireChangeablePair_16 rfl (lv_at hl 1 rfl) ?_
  refine gf_X4_264 hx hb hG hown hK hCu 0 rfl rfl dX4_requireChangeablePair_17 ?_
  refine x_ifb_ne (tgt := 34) hx hb dX4_requireChangeablePair_20 (by decide) (fun zc3 => ?_) (fun zc3 => False.elim (by first | exact absurd zc3 (by decide) | omega | (simp_all; done)))
  exact e_v hx hb hr hlocks dX4_requireChangeablePair_34
