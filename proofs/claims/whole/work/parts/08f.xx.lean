theorem many_no {x : Int32} (h : rch 61 x = false) (h1 : ¬ x < 0) : ¬ x ≤ nI 60 := by
  intro h2
  have h3 := rch_out (by decide) h
  rw [i_lt] at h1
  rw [i_le, nI_toInt (by decide)] at h2
  have e0 : (0 : Int32).toInt = 0 := by decide
  omega
/-- the name of the exception that a code tells -/
abbrev xn (L : List String) (k : Nat) : String := L.getD (k - 1) ""
set_option maxHeartbeats 4000000 in
set_option maxRecDepth 100000 in
theorem xx_rebind (l : Launch) (hst : l.stackTraces = false) (D : va_G) (cI cC : ClassId) (ad ta : Nat → Nat) (z : Nat) (S : St) (N : Nat) (x : Int32) (hI : Inv S) (hno : (sp_rebind S x).1 ≠ 0) : vx_Met l yX4_rebind (ws_ yX4_rebind cX4_rebind 3 (some .int)) (rmX 2) (va_Pc [.ref (ad 0), .int x] (pzt D [(cI, .int), (cC, .char)] ta z (fun H => Wc D cI cC ad S N H))) Nq (Xq (xn ["java/lang/IllegalArgumentException"] (sp_rebind S x).1)) 1 6 (fun _ => False) := by
  by_cases hx0 : 1 ≤ x ∧ x ≤ 40
  · skip
    exact absurd (by unfold sp_rebind; rw [if_pos hx0]) hno
  · skip
    have e9 : (sp_rebind S x).1 = 1 := by unfold sp_rebind; rw [if_neg hx0]
    rw [e9]
    refine m_startX (by decide) (Nat.le_of_ble_eq_true rfl) ?_
    intro p e s m below meth c hx hb hr hG hown hlocks hml hnx hB ls hl
    have hl : lv_has ls 3 [(0, .ref (ad 0)), (1, .int (x))] := hl
    obtain ⟨hW, hK, hE, hT, hZ⟩ := hB
    refine lv_iload_n hx hb dX4_rebind_0 rfl (lv_at hl 1 rfl) ?_
    refine lv_iconst (v := nI 1) hx hb dX4_rebind_1 (by decide) ?_
    refine lv_icmp_lt (tgt := 11) hx hb dX4_rebind_2 (by decide) (fun c1 => ?_) (fun c1 => ?_)
    · exact vx_throwS hx hb hst hown (by decide +kernel) (by decide +kernel) (hG _ at_IA_l) (hG _ in_IllegalArgumentException) (hT (52, "no such bound") (by decide)) (at_IA hG hE) at_IA_o hZ.1 hZ.2 va_S.rf (hl.1.trans hml.symm) dX4_rebind_11 dX4_rebind_14 dX4_rebind_15 dX4_rebind_17 dX4_rebind_20 (fun y hy => (hnx y hy).elim) (Nat.le_of_ble_eq_true rfl) (Nat.le_of_ble_eq_true rfl) (Nat.le_of_ble_eq_true rfl) (Nat.le_of_ble_eq_true rfl) hlocks (fun t _ h1 h2 => ⟨rfl, h1, fun q hq _ => h2 q hq⟩) (fun y hy => nomatch hy) (Nat.le_refl _) (Nat.le_refl _)
    · refine lv_iload_n hx hb dX4_rebind_5 rfl (lv_at hl 1 rfl) ?_
      refine lv_bipush (v := nI 40) hx hb dX4_rebind_6 (by decide) ?_
      refine lv_icmp_le (tgt := 21) hx hb dX4_rebind_8 (by decide) (fun zc1 => False.elim (by exact hx0 ⟨Int32.not_lt.mp c1, zc1⟩)) (fun zc1 => ?_)
      exact vx_throwS hx hb hst hown (by decide +kernel) (by decide +kernel) (hG _ at_IA_l) (hG _ in_IllegalArgumentException) (hT (52, "no such bound") (by decide)) (at_IA hG hE) at_IA_o hZ.1 hZ.2 va_S.rf (hl.1.trans hml.symm) dX4_rebind_11 dX4_rebind_14 dX4_rebind_15 dX4_rebind_17 dX4_rebind_20 (fun y hy => (hnx y hy).elim) (Nat.le_of_ble_eq_true rfl) (Nat.le_of_ble_eq_true rfl) (Nat.le_of_ble_eq_true rfl) (Nat.le_of_ble_eq_true rfl) hlocks (fun t _ h1 h2 => ⟨rfl, h1, fun q hq _ => h2 q hq⟩) (fun y hy => nomatch hy) (Nat.le_refl _) (Nat.le_refl _)
set_option maxHeartbeats 4000000 in
set_option maxRecDepth 100000 in
theorem xx_put (l : Launch) (hst : l.stackTraces = false) (D : va_G) (cI cC : ClassId) (ad ta : Nat → Nat) (z : Nat) (S : St) (N : Nat) (x key v : Int32) (hI : Inv S) (hno : (sp_put S x key v).1 ≠ 0) : vx_Met l yX4_put (ws_ yX4_put cX4_put 5 (some .boolean)) (rmX 2) (va_Pc [.ref (ad 0), .int x, .int key, .int v] (pzt D [(cI, .int), (cC, .char)] ta z (fun H => Wc D cI cC ad S N H))) Nq (Xq (xn ["java/lang/IndexOutOfBoundsException", "java/lang/IllegalArgumentException", "java/lang/IllegalStateException"] (sp_put S x key v).1)) 1 6 (fun _ => False) := by
  rcases bkn_cases 4 (by decide) x with ⟨b, hb4, rfl, hbk⟩ | ⟨hbk, hno4⟩
  · skip
    have hN2 := hI.1 b hb4
    by_cases h3 : b = 3
    · skip
      subst h3
      have e9 : (sp_put S (nI (3)) key v).1 = 2 := by simp [sp_put, hbk]
      rw [e9]
      refine m_startX (by decide) (Nat.le_of_ble_eq_true rfl) ?_
      intro p e s m below meth c hx hb hr hG hown hlocks hml hnx hB ls hl
      have hl : lv_has ls 5 [(0, .ref (ad 0)), (1, .int (nI (3))), (2, .int (key)), (3, .int (v))] := hl
      obtain ⟨hW, hK, hE, hT, hZ⟩ := hB
      refine lv_aload_n hx hb dX4_put_0 rfl (lv_at hl 0 rfl) ?_
      refine lv_iload_n hx hb dX4_put_1 rfl (lv_at hl 1 rfl) ?_
      refine k3_V hx hb hml hown hG cs_X4_71 (tx_bookChangedByHand_q l hst D cI cC ad ta z S N ) (by decide) (pztV hK hE hT hZ (fun _ _ _ => rfl) rfl hW.rc hW) rfl hl.1 rfl (Nat.le_of_ble_eq_true rfl) dX4_put_2 ⟨Nat.le_refl _, Nat.le_refl _⟩ (fun H1 q9 ce h1 h2 h3 h4 h5 => ?_)
      exact k3_out hnx hlocks h1 h2 h3 h4 h5
    · skip
      cases hfu : full S b key with
      | true =>
        have e9 : (sp_put S (nI (b)) key v).1 = 3 := by simp [sp_put, hbk, h3, hfu]
        rw [e9]
        refine m_startX (by decide) (Nat.le_of_ble_eq_true rfl) ?_
        intro p e s m below meth c hx hb hr hG hown hlocks hml hnx hB ls hl
        have hl : lv_has ls 5 [(0, .ref (ad 0)), (1, .int (nI (b))), (2, .int (key)), (3, .int (v))] := hl
        obtain ⟨hW, hK, hE, hT, hZ⟩ := hB
        refine lv_aload_n hx hb dX4_put_0 rfl (lv_at hl 0 rfl) ?_
        refine lv_iload_n hx hb dX4_put_1 rfl (lv_at hl 1 rfl) ?_
        refine k1_V hx hb hml hown hG cs_X4_71 (k_bookChangedByHand l D cI cC ad S N b (by omega)) (by decide) (pzV hK rfl hW.rc hW) rfl hl.1 rfl (Nat.le_of_ble_eq_true rfl) dX4_put_2 ⟨Nat.zero_le _, Nat.zero_le _⟩ rfl ?_
        refine lv_astore (lv' := [(4, .ref ((bk_ ad b) 0)), (0, .ref (ad 0)), (1, .int (nI (b))), (2, .int (key)), (3, .int (v))]) hx hb dX4_put_5 hl (by decide) rfl (fun ls hl => ?_)
        refine lv_aload_n hx hb dX4_put_7 rfl (lv_at hl 1 rfl) ?_
        refine lv_aload hx hb dX4_put_8 (lv_at hl 0 rfl) ?_
        refine lv_iload_n hx hb dX4_put_10 rfl (lv_at hl 3 rfl) ?_
        refine k3_V hx hb hml hown hG cs_X4_75 (tx_requireRoomForKey l hst D cI cC ad ta z S N b key (by omega) hfu) (by decide) (pztV hK hE hT hZ (fun _ _ _ => rfl) rfl hW.rc hW) rfl hl.1 rfl (Nat.le_of_ble_eq_true rfl) dX4_put_11 ⟨Nat.le_refl _, Nat.le_refl _⟩ (fun H1 q9 ce h1 h2 h3 h4 h5 => ?_)
        exact k3_out hnx hlocks h1 h2 h3 h4 h5
      | false =>
        exact absurd (by unfold sp_put; rw [hbk]; simp only [h3, hfu, if_false]; repeat' (first | rfl | contradiction | split)) hno
  · skip
    have e9 : (sp_put S x key v).1 = 1 := by simp [sp_put, hbk]
    rw [e9]
    refine m_startX (by decide) (Nat.le_of_ble_eq_true rfl) ?_
    intro p e s m below meth c hx hb hr hG hown hlocks hml hnx hB ls hl
    have hl : lv_has ls 5 [(0, .ref (ad 0)), (1, .int (x)), (2, .int (key)), (3, .int (v))] := hl
    obtain ⟨hW, hK, hE, hT, hZ⟩ := hB
    refine lv_aload_n hx hb dX4_put_0 rfl (lv_at hl 0 rfl) ?_
    refine lv_iload_n hx hb dX4_put_1 rfl (lv_at hl 1 rfl) ?_
    refine k3_V hx hb hml hown hG cs_X4_71 (tx_bookChangedByHand_n l hst D cI cC ad ta z S N x hno4) (by decide) (pztV hK hE hT hZ (fun _ _ _ => rfl) rfl hW.rc hW) rfl hl.1 rfl (Nat.le_of_ble_eq_true rfl) dX4_put_2 ⟨Nat.le_refl _, Nat.le_refl _⟩ (fun H1 q9 ce h1 h2 h3 h4 h5 => ?_)
    exact k3_out hnx hlocks h1 h2 h3 h4 h5
set_option maxHeartbeats 4000000 in
set_option maxRecDepth 100000 in
theorem xx_addToAll (l : Launch) (hst : l.stackTraces = false) (D : va_G) (cI cC : ClassId) (ad ta : Nat → Nat) (z : Nat) (S : St) (N : Nat) (x v : Int32) (hI : Inv S) (hno : (sp_addToAll S x v).1 ≠ 0) : vx_Met l yX4_addToAll (ws_ yX4_addToAll cX4_addToAll 5 (some .int)) (rmX 2) (va_Pc [.ref (ad 0), .int x, .int v] (pzt D [(cI, .int), (cC, .char)] ta z (fun H => Wc D cI cC ad S N H))) Nq (Xq (xn ["java/lang/IndexOutOfBoundsException", "java/lang/IllegalArgumentException"] (sp_addToAll S x v).1)) 1 6 (fun _ => False) := by
  rcases bkn_cases 4 (by decide) x with ⟨b, hb4, rfl, hbk⟩ | ⟨hbk, hno4⟩
  · skip
    have hN2 := hI.1 b hb4
    by_cases h3 : b = 3
    · skip
      subst h3
      have e9 : (sp_addToAll S (nI (3)) v).1 = 2 := by simp [sp_addToAll, hbk]
      rw [e9]
      refine m_startX (by decide) (Nat.le_of_ble_eq_true rfl) ?_
      intro p e s m below meth c hx hb hr hG hown hlocks hml hnx hB ls hl
      have hl : lv_has ls 5 [(0, .ref (ad 0)), (1, .int (nI (3))), (2, .int (v))] := hl
      obtain ⟨hW, hK, hE, hT, hZ⟩ := hB
      refine lv_aload_n hx hb dX4_addToAll_0 rfl (lv_at hl 0 rfl) ?_
      refine lv_iload_n hx hb dX4_addToAll_1 rfl (lv_at hl 1 rfl) ?_
      refine k3_V hx hb hml hown hG cs_X4_71 (tx_bookChangedByHand_q l hst D cI cC ad ta z S N ) (by decide) (pztV hK hE hT hZ (fun _ _ _ => rfl) rfl hW.rc hW) rfl hl.1 rfl (Nat.le_of_ble_eq_true rfl) dX4_addToAll_2 ⟨Nat.le_refl _, Nat.le_refl _⟩ (fun H1 q9 ce h1 h2 h3 h4 h5 => ?_)
      exact k3_out hnx hlocks h1 h2 h3 h4 h5
    · skip
      exact absurd (by simp [sp_addToAll, hbk, h3]) hno
  · skip
    have e9 : (sp_addToAll S x v).1 = 1 := by simp [sp_addToAll, hbk]
    rw [e9]
    refine m_startX (by decide) (Nat.le_of_ble_eq_true rfl) ?_
    intro p e s m below meth c hx hb hr hG hown hlocks hml hnx hB ls hl
    have hl : lv_has ls 5 [(0, .ref (ad 0)), (1, .int (x)), (2, .int (v))] := hl
    obtain ⟨hW, hK, hE, hT, hZ⟩ := hB
    refine lv_aload_n hx hb dX4_addToAll_0 rfl (lv_at hl 0 rfl) ?_
    refine lv_iload_n hx hb dX4_addToAll_1 rfl (lv_at hl 1 rfl) ?_
    refine k3_V hx hb hml hown hG cs_X4_71 (tx_bookChangedByHand_n l hst D cI cC ad ta z S N x hno4) (by decide) (pztV hK hE hT hZ (fun _ _ _ => rfl) rfl hW.rc hW) rfl hl.1 rfl (Nat.le_of_ble_eq_true rfl) dX4_addToAll_2 ⟨Nat.le_refl _, Nat.le_refl _⟩ (fun H1 q9 ce h1 h2 h3 h4 h5 => ?_)
    exact k3_out hnx hlocks h1 h2 h3 h4 h5
set_option maxHeartbeats 4000000 in
set_option maxRecDepth 100000 in
theorem xx_clear (l : Launch) (hst : l.stackTraces = false) (D : va_G) (cI cC : ClassId) (ad ta : Nat → Nat) (z : Nat) (S : St) (N : Nat) (x : Int32) (hI : Inv S) (hno : (sp_clear S x).1 ≠ 0) : vx_Met l yX4_clear (ws_ yX4_clear cX4_clear 4 (some .int)) (rmX 2) (va_Pc [.ref (ad 0), .int x] (pzt D [(cI, .int), (cC, .char)] ta z (fun H => Wc D cI cC ad S N H))) Nq (Xq (xn ["java/lang/IndexOutOfBoundsException", "java/lang/IllegalArgumentException"] (sp_clear S x).1)) 1 6 (fun _ => False) := by
  rcases bkn_cases 4 (by decide) x with ⟨b, hb4, rfl, hbk⟩ | ⟨hbk, hno4⟩
  · skip
    have hN2 := hI.1 b hb4
    by_cases h3 : b = 3
    · skip
      subst h3
      have e9 : (sp_clear S (nI (3))).1 = 2 := by simp [sp_clear, hbk]
      rw [e9]
      refine m_startX (by decide) (Nat.le_of_ble_eq_true rfl) ?_
      intro p e s m below meth c hx hb hr hG hown hlocks hml hnx hB ls hl
      have hl : lv_has ls 4 [(0, .ref (ad 0)), (1, .int (nI (3)))] := hl
      obtain ⟨hW, hK, hE, hT, hZ⟩ := hB
      refine lv_aload_n hx hb dX4_clear_0 rfl (lv_at hl 0 rfl) ?_
      refine lv_iload_n hx hb dX4_clear_1 rfl (lv_at hl 1 rfl) ?_
      refine k3_V hx hb hml hown hG cs_X4_71 (tx_bookChangedByHand_q l hst D cI cC ad ta z S N ) (by decide) (pztV hK hE hT hZ (fun _ _ _ => rfl) rfl hW.rc hW) rfl hl.1 rfl (Nat.le_of_ble_eq_true rfl) dX4_clear_2 ⟨Nat.le_refl _, Nat.le_refl _⟩ (fun H1 q9 ce h1 h2 h3 h4 h5 => ?_)
      exact k3_out hnx hlocks h1 h2 h3 h4 h5
    · skip
      exact absurd (by simp [sp_clear, hbk, h3]) hno
  · skip
    have e9 : (sp_clear S x).1 = 1 := by simp [sp_clear, hbk]
    rw [e9]
    refine m_startX (by decide) (Nat.le_of_ble_eq_true rfl) ?_
    intro p e s m below meth c hx hb hr hG hown hlocks hml hnx hB ls hl
    have hl : lv_has ls 4 [(0, .ref (ad 0)), (1, .int (x))] := hl
    obtain ⟨hW, hK, hE, hT, hZ⟩ := hB
    refine lv_aload_n hx hb dX4_clear_0 rfl (lv_at hl 0 rfl) ?_
    refine lv_iload_n hx hb dX4_clear_1 rfl (lv_at hl 1 rfl) ?_
    refine k3_V hx hb hml hown hG cs_X4_71 (tx_bookChangedByHand_n l hst D cI cC ad ta z S N x hno4) (by decide) (pztV hK hE hT hZ (fun _ _ _ => rfl) rfl hW.rc hW) rfl hl.1 rfl (Nat.le_of_ble_eq_true rfl) dX4_clear_2 ⟨Nat.le_refl _, Nat.le_refl _⟩ (fun H1 q9 ce h1 h2 h3 h4 h5 => ?_)
    exact k3_out hnx hlocks h1 h2 h3 h4 h5
set_option maxHeartbeats 4000000 in
set_option maxRecDepth 100000 in
theorem xx_replace (l : Launch) (hst : l.stackTraces = false) (D : va_G) (cI cC : ClassId) (ad ta : Nat → Nat) (z : Nat) (S : St) (N : Nat) (x key v : Int32) (hI : Inv S) (hno : (sp_replace S x key v).1 ≠ 0) : vx_Met l yX4_replace (ws_ yX4_replace cX4_replace 6 (some .boolean)) (rmX 2) (va_Pc [.ref (ad 0), .int x, .int key, .int v] (pzt D [(cI, .int), (cC, .char)] ta z (fun H => Wc D cI cC ad S N H))) Nq (Xq (xn ["java/lang/IndexOutOfBoundsException", "java/lang/IllegalArgumentException"] (sp_replace S x key v).1)) 1 6 (fun _ => False) := by
  rcases bkn_cases 4 (by decide) x with ⟨b, hb4, rfl, hbk⟩ | ⟨hbk, hno4⟩
  · skip
    have hN2 := hI.1 b hb4
    by_cases h3 : b = 3
    · skip
      subst h3
      have e9 : (sp_replace S (nI (3)) key v).1 = 2 := by simp [sp_replace, hbk]
      rw [e9]
      refine m_startX (by decide) (Nat.le_of_ble_eq_true rfl) ?_
      intro p e s m below meth c hx hb hr hG hown hlocks hml hnx hB ls hl
      have hl : lv_has ls 6 [(0, .ref (ad 0)), (1, .int (nI (3))), (2, .int (key)), (3, .int (v))] := hl
      obtain ⟨hW, hK, hE, hT, hZ⟩ := hB
      refine lv_aload_n hx hb dX4_replace_0 rfl (lv_at hl 0 rfl) ?_
      refine lv_iload_n hx hb dX4_replace_1 rfl (lv_at hl 1 rfl) ?_
      refine k3_V hx hb hml hown hG cs_X4_71 (tx_bookChangedByHand_q l hst D cI cC ad ta z S N ) (by decide) (pztV hK hE hT hZ (fun _ _ _ => rfl) rfl hW.rc hW) rfl hl.1 rfl (Nat.le_of_ble_eq_true rfl) dX4_replace_2 ⟨Nat.le_refl _, Nat.le_refl _⟩ (fun H1 q9 ce h1 h2 h3 h4 h5 => ?_)
      exact k3_out hnx hlocks h1 h2 h3 h4 h5
    · skip
      exact absurd (by unfold sp_replace; rw [hbk]; simp only [h3, if_false]; repeat' (first | rfl | contradiction | split)) hno
  · skip
    have e9 : (sp_replace S x key v).1 = 1 := by simp [sp_replace, hbk]
    rw [e9]
    refine m_startX (by decide) (Nat.le_of_ble_eq_true rfl) ?_
    intro p e s m below meth c hx hb hr hG hown hlocks hml hnx hB ls hl
    have hl : lv_has ls 6 [(0, .ref (ad 0)), (1, .int (x)), (2, .int (key)), (3, .int (v))] := hl
    obtain ⟨hW, hK, hE, hT, hZ⟩ := hB
    refine lv_aload_n hx hb dX4_replace_0 rfl (lv_at hl 0 rfl) ?_
    refine lv_iload_n hx hb dX4_replace_1 rfl (lv_at hl 1 rfl) ?_
    refine k3_V hx hb hml hown hG cs_X4_71 (tx_bookChangedByHand_n l hst D cI cC ad ta z S N x hno4) (by decide) (pztV hK hE hT hZ (fun _ _ _ => rfl) rfl hW.rc hW) rfl hl.1 rfl (Nat.le_of_ble_eq_true rfl) dX4_replace_2 ⟨Nat.le_refl _, Nat.le_refl _⟩ (fun H1 q9 ce h1 h2 h3 h4 h5 => ?_)
    exact k3_out hnx hlocks h1 h2 h3 h4 h5
set_option maxHeartbeats 4000000 in
set_option maxRecDepth 100000 in
theorem xx_removePair (l : Launch) (hst : l.stackTraces = false) (D : va_G) (cI cC : ClassId) (ad ta : Nat → Nat) (z : Nat) (S : St) (N : Nat) (x key v : Int32) (hI : Inv S) (hno : (sp_removePair S x key v).1 ≠ 0) : vx_Met l yX4_removePair (ws_ yX4_removePair cX4_removePair 6 (some .boolean)) (rmX 2) (va_Pc [.ref (ad 0), .int x, .int key, .int v] (pzt D [(cI, .int), (cC, .char)] ta z (fun H => Wc D cI cC ad S N H))) Nq (Xq (xn ["java/lang/IndexOutOfBoundsException", "java/lang/IllegalArgumentException"] (sp_removePair S x key v).1)) 1 6 (fun _ => False) := by
  rcases bkn_cases 4 (by decide) x with ⟨b, hb4, rfl, hbk⟩ | ⟨hbk, hno4⟩
  · skip
    have hN2 := hI.1 b hb4
    by_cases h3 : b = 3
    · skip
      subst h3
      have e9 : (sp_removePair S (nI (3)) key v).1 = 2 := by simp [sp_removePair, hbk]
      rw [e9]
      refine m_startX (by decide) (Nat.le_of_ble_eq_true rfl) ?_
      intro p e s m below meth c hx hb hr hG hown hlocks hml hnx hB ls hl
      have hl : lv_has ls 6 [(0, .ref (ad 0)), (1, .int (nI (3))), (2, .int (key)), (3, .int (v))] := hl
      obtain ⟨hW, hK, hE, hT, hZ⟩ := hB
      refine lv_aload_n hx hb dX4_removePair_0 rfl (lv_at hl 0 rfl) ?_
      refine lv_iload_n hx hb dX4_removePair_1 rfl (lv_at hl 1 rfl) ?_
      refine k3_V hx hb hml hown hG cs_X4_71 (tx_bookChangedByHand_q l hst D cI cC ad ta z S N ) (by decide) (pztV hK hE hT hZ (fun _ _ _ => rfl) rfl hW.rc hW) rfl hl.1 rfl (Nat.le_of_ble_eq_true rfl) dX4_removePair_2 ⟨Nat.le_refl _, Nat.le_refl _⟩ (fun H1 q9 ce h1 h2 h3 h4 h5 => ?_)
      exact k3_out hnx hlocks h1 h2 h3 h4 h5
    · skip
      exact absurd (by unfold sp_removePair; rw [hbk]; simp only [h3, if_false]; repeat' (first | rfl | contradiction | split)) hno
  · skip
    have e9 : (sp_removePair S x key v).1 = 1 := by simp [sp_removePair, hbk]
    rw [e9]
    refine m_startX (by decide) (Nat.le_of_ble_eq_true rfl) ?_
    intro p e s m below meth c hx hb hr hG hown hlocks hml hnx hB ls hl
    have hl : lv_has ls 6 [(0, .ref (ad 0)), (1, .int (x)), (2, .int (key)), (3, .int (v))] := hl
    obtain ⟨hW, hK, hE, hT, hZ⟩ := hB
    refine lv_aload_n hx hb dX4_removePair_0 rfl (lv_at hl 0 rfl) ?_
    refine lv_iload_n hx hb dX4_removePair_1 rfl (lv_at hl 1 rfl) ?_
    refine k3_V hx hb hml hown hG cs_X4_71 (tx_bookChangedByHand_n l hst D cI cC ad ta z S N x hno4) (by decide) (pztV hK hE hT hZ (fun _ _ _ => rfl) rfl hW.rc hW) rfl hl.1 rfl (Nat.le_of_ble_eq_true rfl) dX4_removePair_2 ⟨Nat.le_refl _, Nat.le_refl _⟩ (fun H1 q9 ce h1 h2 h3 h4 h5 => ?_)
    exact k3_out hnx hlocks h1 h2 h3 h4 h5
set_option maxHeartbeats 4000000 in
set_option maxRecDepth 100000 in
theorem xx_remove (l : Launch) (hst : l.stackTraces = false) (D : va_G) (cI cC : ClassId) (ad ta : Nat → Nat) (z : Nat) (S : St) (N : Nat) (x key : Int32) (hI : Inv S) (hno : (sp_remove S x key).1 ≠ 0) : vx_Met l yX4_remove (ws_ yX4_remove cX4_remove 6 (some .int)) (rmX 2) (va_Pc [.ref (ad 0), .int x, .int key] (pzt D [(cI, .int), (cC, .char)] ta z (fun H => Wc D cI cC ad S N H))) Nq (Xq (xn ["java/lang/IndexOutOfBoundsException", "java/lang/IllegalArgumentException", "java/util/NoSuchElementException"] (sp_remove S x key).1)) 1 6 (fun _ => False) := by
  rcases bkn_cases 4 (by decide) x with ⟨b, hb4, rfl, hbk⟩ | ⟨hbk, hno4⟩
  · skip
    have hN2 := hI.1 b hb4
    by_cases h3 : b = 3
    · skip
      subst h3
      have e9 : (sp_remove S (nI (3)) key).1 = 2 := by simp [sp_remove, hbk]
      rw [e9]
      refine m_startX (by decide) (Nat.le_of_ble_eq_true rfl) ?_
      intro p e s m below meth c hx hb hr hG hown hlocks hml hnx hB ls hl
      have hl : lv_has ls 6 [(0, .ref (ad 0)), (1, .int (nI (3))), (2, .int (key))] := hl
      obtain ⟨hW, hK, hE, hT, hZ⟩ := hB
      refine lv_aload_n hx hb dX4_remove_0 rfl (lv_at hl 0 rfl) ?_
      refine lv_iload_n hx hb dX4_remove_1 rfl (lv_at hl 1 rfl) ?_
      refine k3_V hx hb hml hown hG cs_X4_71 (tx_bookChangedByHand_q l hst D cI cC ad ta z S N ) (by decide) (pztV hK hE hT hZ (fun _ _ _ => rfl) rfl hW.rc hW) rfl hl.1 rfl (Nat.le_of_ble_eq_true rfl) dX4_remove_2 ⟨Nat.le_refl _, Nat.le_refl _⟩ (fun H1 q9 ce h1 h2 h3 h4 h5 => ?_)
      exact k3_out hnx hlocks h1 h2 h3 h4 h5
    · skip
      cases hf : fx (S.1 b) key with
      | none =>
        have e9 : (sp_remove S (nI (b)) key).1 = 3 := by simp [sp_remove, hbk, h3, hf]
        rw [e9]
        refine m_startX (by decide) (Nat.le_of_ble_eq_true rfl) ?_
        intro p e s m below meth c hx hb hr hG hown hlocks hml hnx hB ls hl
        have hl : lv_has ls 6 [(0, .ref (ad 0)), (1, .int (nI (b))), (2, .int (key))] := hl
        obtain ⟨hW, hK, hE, hT, hZ⟩ := hB
        refine lv_aload_n hx hb dX4_remove_0 rfl (lv_at hl 0 rfl) ?_
        refine lv_iload_n hx hb dX4_remove_1 rfl (lv_at hl 1 rfl) ?_
        refine k1_V hx hb hml hown hG cs_X4_71 (k_bookChangedByHand l D cI cC ad S N b (by omega)) (by decide) (pzV hK rfl hW.rc hW) rfl hl.1 rfl (Nat.le_of_ble_eq_true rfl) dX4_remove_2 ⟨Nat.zero_le _, Nat.zero_le _⟩ rfl ?_
        refine lv_astore_n (lv' := [(3, .ref ((bk_ ad b) 0)), (0, .ref (ad 0)), (1, .int (nI (b))), (2, .int (key))]) hx hb dX4_remove_5 rfl hl (by decide) rfl (fun ls hl => ?_)
        refine lv_aload_n hx hb dX4_remove_6 rfl (lv_at hl 0 rfl) ?_
        refine lv_iload_n hx hb dX4_remove_7 rfl (lv_at hl 3 rfl) ?_
        refine k1_V hx hb hml hown hG cs_X4_86 (c_find_no l D cI (bk_ ad b) (lgO b) (bdO S b) (S.1 b) key (hf)) (by decide) (pzV (hK.sub (tys' := [(cI, .int)]) [0] rfl) rfl (hW.bk (b := b) (by omega)).1.rc (hW.bk (b := b) (by omega)).1) rfl hl.1 rfl (Nat.le_of_ble_eq_true rfl) dX4_remove_8 ⟨Nat.zero_le _, Nat.zero_le _⟩ rfl ?_
        refine lv_istore (lv' := [(4, .int ((-1))), (3, .ref ((bk_ ad b) 0)), (0, .ref (ad 0)), (1, .int (nI (b))), (2, .int (key))]) hx hb dX4_remove_11 hl (by decide) rfl (fun ls hl => ?_)
        refine lv_iload hx hb dX4_remove_13 (lv_at hl 0 rfl) ?_
        refine lv_iconst (v := (-1)) hx hb dX4_remove_15 (by decide) ?_
        refine lv_icmp_ne (tgt := 29) hx hb dX4_remove_16 (by decide) (fun zc1 => False.elim (by first | exact absurd zc1 (by decide) | omega | (simp_all; done))) (fun zc1 => ?_)
        refine ns_new hx hb hst hown (by decide +kernel) (hG _ at_NS_l) (hG _ in_NoSuchElementException) (hT (105, "no such key") (by decide)) (at_NS hG hE) at_NS_o hZ.1 hZ.2 va_S.rf (hl.1.trans hml.symm) dX4_remove_19 dX4_remove_22 dX4_remove_23 dX4_remove_25 (Nat.le_of_ble_eq_true rfl) (Nat.le_of_ble_eq_true rfl) (Nat.le_of_ble_eq_true rfl) (Nat.le_of_ble_eq_true rfl) (fun q9 H1 ce h1 h2 h3 h4 h5 => ?_)
        refine vx_athrow hx hb dX4_remove_28 ?_
        exact k3_out hnx hlocks h1 h2 h3 h4 h5
      | some i =>
        exact absurd (by simp [sp_remove, hbk, h3, hf]) hno
  · skip
    have e9 : (sp_remove S x key).1 = 1 := by simp [sp_remove, hbk]
    rw [e9]
    refine m_startX (by decide) (Nat.le_of_ble_eq_true rfl) ?_
    intro p e s m below meth c hx hb hr hG hown hlocks hml hnx hB ls hl
    have hl : lv_has ls 6 [(0, .ref (ad 0)), (1, .int (x)), (2, .int (key))] := hl
    obtain ⟨hW, hK, hE, hT, hZ⟩ := hB
    refine lv_aload_n hx hb dX4_remove_0 rfl (lv_at hl 0 rfl) ?_
    refine lv_iload_n hx hb dX4_remove_1 rfl (lv_at hl 1 rfl) ?_
    refine k3_V hx hb hml hown hG cs_X4_71 (tx_bookChangedByHand_n l hst D cI cC ad ta z S N x hno4) (by decide) (pztV hK hE hT hZ (fun _ _ _ => rfl) rfl hW.rc hW) rfl hl.1 rfl (Nat.le_of_ble_eq_true rfl) dX4_remove_2 ⟨Nat.le_refl _, Nat.le_refl _⟩ (fun H1 q9 ce h1 h2 h3 h4 h5 => ?_)
    exact k3_out hnx hlocks h1 h2 h3 h4 h5
set_option maxHeartbeats 4000000 in
set_option maxRecDepth 100000 in
theorem xx_fill (l : Launch) (hst : l.stackTraces = false) (D : va_G) (cI cC : ClassId) (ad ta : Nat → Nat) (z : Nat) (S : St) (N : Nat) (x from_ step many : Int32) (hI : Inv S) (hno : (sp_fill S x from_ step many).1 ≠ 0) : vx_Met l yX4_fill (ws_ yX4_fill cX4_fill 8 (some .int)) (rmX 2) (va_Pc [.ref (ad 0), .int x, .int from_, .int step, .int many] (pzt D [(cI, .int), (cC, .char)] ta z (fun H => Wc D cI cC ad S N H))) Nq (Xq (xn ["java/lang/IndexOutOfBoundsException", "java/lang/IllegalArgumentException", "java/lang/IllegalStateException"] (sp_fill S x from_ step many).1)) 1 6 (fun _ => False) := by
  rcases bkn_cases 4 (by decide) x with ⟨b, hb4, rfl, hbk⟩ | ⟨hbk, hno4⟩
  · skip
    have hN2 := hI.1 b hb4
    by_cases h3 : b = 3
    · skip
      subst h3
      have e9 : (sp_fill S (nI (3)) from_ step many).1 = 2 := by unfold sp_fill; rw [hbk]; cases bkn 61 many <;> rfl
      rw [e9]
      refine m_startX (by decide) (Nat.le_of_ble_eq_true rfl) ?_
      intro p e s m below meth c hx hb hr hG hown hlocks hml hnx hB ls hl
      have hl : lv_has ls 8 [(0, .ref (ad 0)), (1, .int (nI (3))), (2, .int (from_)), (3, .int (step)), (4, .int (many))] := hl
      obtain ⟨hW, hK, hE, hT, hZ⟩ := hB
      refine lv_aload_n hx hb dX4_fill_0 rfl (lv_at hl 0 rfl) ?_
      refine lv_iload_n hx hb dX4_fill_1 rfl (lv_at hl 1 rfl) ?_
      refine k3_V hx hb hml hown hG cs_X4_71 (tx_bookChangedByHand_q l hst D cI cC ad ta z S N ) (by decide) (pztV hK hE hT hZ (fun _ _ _ => rfl) rfl hW.rc hW) rfl hl.1 rfl (Nat.le_of_ble_eq_true rfl) dX4_fill_2 ⟨Nat.le_refl _, Nat.le_refl _⟩ (fun H1 q9 ce h1 h2 h3 h4 h5 => ?_)
      exact k3_out hnx hlocks h1 h2 h3 h4 h5
    · skip
      rcases bkn_cases 61 (by decide) many with ⟨k, hk6, rfl, hbm⟩ | ⟨hbm, hnom⟩
      · skip
        by_cases h14 : b ≠ 2 ∧ 140 < (S.1 b).length
        · skip
          have e9 : (sp_fill S (nI (b)) from_ step (nI (k))).1 = 3 := by unfold sp_fill; rw [hbk, hbm]; show (if b = 3 then _ else if b ≠ 2 ∧ 140 < (S.1 b).length then _ else _ : Nat × Int32 × St).1 = 3; rw [if_neg h3, if_pos h14]
          rw [e9]
          refine m_startX (by decide) (Nat.le_of_ble_eq_true rfl) ?_
          intro p e s m below meth c hx hb hr hG hown hlocks hml hnx hB ls hl
          have hl : lv_has ls 8 [(0, .ref (ad 0)), (1, .int (nI (b))), (2, .int (from_)), (3, .int (step)), (4, .int (nI (k)))] := hl
          obtain ⟨hW, hK, hE, hT, hZ⟩ := hB
          have hbd : bdO S b = 200 := by unfold bdO; rw [if_neg h14.1]
          refine lv_aload_n hx hb dX4_fill_0 rfl (lv_at hl 0 rfl) ?_
          refine lv_iload_n hx hb dX4_fill_1 rfl (lv_at hl 1 rfl) ?_
          refine k1_V hx hb hml hown hG cs_X4_71 (k_bookChangedByHand l D cI cC ad S N b (by omega)) (by decide) (pzV hK rfl hW.rc hW) rfl hl.1 rfl (Nat.le_of_ble_eq_true rfl) dX4_fill_2 ⟨Nat.zero_le _, Nat.zero_le _⟩ rfl ?_
          refine lv_astore (lv' := [(5, .ref ((bk_ ad b) 0)), (0, .ref (ad 0)), (1, .int (nI (b))), (2, .int (from_)), (3, .int (step)), (4, .int (nI (k)))]) hx hb dX4_fill_5 hl (by decide) rfl (fun ls hl => ?_)
          refine lv_iload hx hb dX4_fill_7 (lv_at hl 5 rfl) ?_
          refine lv_if_lt (tgt := 19) hx hb dX4_fill_9 (by decide) (fun zc1 => False.elim (by exact nI_nneg (by omega) zc1)) (fun zc1 => ?_)
          refine lv_iload hx hb dX4_fill_12 (lv_at hl 5 rfl) ?_
          refine lv_bipush (v := nI 60) hx hb dX4_fill_14 (by decide) ?_
          refine x_cmp_le (tgt := 29) hx hb dX4_fill_16 (by decide) (by omega) (by omega) (fun zc2 => ?_) (fun zc2 => False.elim (by first | omega | contradiction | exact absurd zc2 (m1_ne _ (by omega)) | exact absurd zc2 (by decide) | exact absurd (Eq.symm zc2) (m1_ne _ (by omega)) | (simp_all; done)))
          refine lv_aload_n hx hb dX4_fill_29 rfl (lv_at hl 1 rfl) ?_
          refine lv_aload hx hb dX4_fill_30 (lv_at hl 0 rfl) ?_
          refine lv_bipush (v := nI 60) hx hb dX4_fill_32 (by decide) ?_
          refine k3_V hx hb hml hown hG cs_X4_110 (tx_requireRoom l hst D cI cC ad ta z S N b 60 (by omega) (by omega) (decide_eq_false h14.1) (by omega) (by omega)) (by decide) (pztV hK hE hT hZ (fun _ _ _ => rfl) rfl hW.rc hW) rfl hl.1 rfl (Nat.le_of_ble_eq_true rfl) dX4_fill_34 ⟨Nat.le_refl _, Nat.le_refl _⟩ (fun H1 q9 ce h1 h2 h3 h4 h5 => ?_)
          exact k3_out hnx hlocks h1 h2 h3 h4 h5
        · skip
          exact absurd (by unfold sp_fill; rw [hbk, hbm]; show (if b = 3 then _ else if b ≠ 2 ∧ 140 < (S.1 b).length then _ else _ : Nat × Int32 × St).1 = 0; rw [if_neg h3, if_neg h14]) hno
      · skip
        have e9 : (sp_fill S (nI b) from_ step many).1 = 2 := by unfold sp_fill; rw [hbk, hbm]
        rw [e9]
        refine m_startX (by decide) (Nat.le_of_ble_eq_true rfl) ?_
        intro p e s m below meth c hx hb hr hG hown hlocks hml hnx hB ls hl
        have hl : lv_has ls 8 [(0, .ref (ad 0)), (1, .int (nI (b))), (2, .int (from_)), (3, .int (step)), (4, .int (many))] := hl
        obtain ⟨hW, hK, hE, hT, hZ⟩ := hB
        refine lv_aload_n hx hb dX4_fill_0 rfl (lv_at hl 0 rfl) ?_
        refine lv_iload_n hx hb dX4_fill_1 rfl (lv_at hl 1 rfl) ?_
        refine k1_V hx hb hml hown hG cs_X4_71 (k_bookChangedByHand l D cI cC ad S N b (by omega)) (by decide) (pzV hK rfl hW.rc hW) rfl hl.1 rfl (Nat.le_of_ble_eq_true rfl) dX4_fill_2 ⟨Nat.zero_le _, Nat.zero_le _⟩ rfl ?_
        refine lv_astore (lv' := [(5, .ref ((bk_ ad b) 0)), (0, .ref (ad 0)), (1, .int (nI (b))), (2, .int (from_)), (3, .int (step)), (4, .int (many))]) hx hb dX4_fill_5 hl (by decide) rfl (fun ls hl => ?_)
        refine lv_iload hx hb dX4_fill_7 (lv_at hl 5 rfl) ?_
        refine lv_if_lt (tgt := 19) hx hb dX4_fill_9 (by decide) (fun c1 => ?_) (fun c1 => ?_)
        · exact vx_throwS hx hb hst hown (by decide +kernel) (by decide +kernel) (hG _ at_IA_l) (hG _ in_IllegalArgumentException) (hT (108, "no such number of pairs to put") (by decide)) (at_IA hG hE) at_IA_o hZ.1 hZ.2 va_S.rf (hl.1.trans hml.symm) dX4_fill_19 dX4_fill_22 dX4_fill_23 dX4_fill_25 dX4_fill_28 (fun y hy => (hnx y hy).elim) (Nat.le_of_ble_eq_true rfl) (Nat.le_of_ble_eq_true rfl) (Nat.le_of_ble_eq_true rfl) (Nat.le_of_ble_eq_true rfl) hlocks (fun t _ h1 h2 => ⟨rfl, h1, fun q hq _ => h2 q hq⟩) (fun y hy => nomatch hy) (Nat.le_refl _) (Nat.le_refl _)
        · refine lv_iload hx hb dX4_fill_12 (lv_at hl 5 rfl) ?_
          refine lv_bipush (v := nI 60) hx hb dX4_fill_14 (by decide) ?_
          refine lv_icmp_le (tgt := 29) hx hb dX4_fill_16 (by decide) (fun zc1 => False.elim (by exact many_no hnom c1 zc1)) (fun zc1 => ?_)
          exact vx_throwS hx hb hst hown (by decide +kernel) (by decide +kernel) (hG _ at_IA_l) (hG _ in_IllegalArgumentException) (hT (108, "no such number of pairs to put") (by decide)) (at_IA hG hE) at_IA_o hZ.1 hZ.2 va_S.rf (hl.1.trans hml.symm) dX4_fill_19 dX4_fill_22 dX4_fill_23 dX4_fill_25 dX4_fill_28 (fun y hy => (hnx y hy).elim) (Nat.le_of_ble_eq_true rfl) (Nat.le_of_ble_eq_true rfl) (Nat.le_of_ble_eq_true rfl) (Nat.le_of_ble_eq_true rfl) hlocks (fun t _ h1 h2 => ⟨rfl, h1, fun q hq _ => h2 q hq⟩) (fun y hy => nomatch hy) (Nat.le_refl _) (Nat.le_refl _)
  · skip
    have e9 : (sp_fill S x from_ step many).1 = 1 := by simp [sp_fill, hbk]
    rw [e9]
    refine m_startX (by decide) (Nat.le_of_ble_eq_true rfl) ?_
    intro p e s m below meth c hx hb hr hG hown hlocks hml hnx hB ls hl
    have hl : lv_has ls 8 [(0, .ref (ad 0)), (1, .int (x)), (2, .int (from_)), (3, .int (step)), (4, .int (many))] := hl
    obtain ⟨hW, hK, hE, hT, hZ⟩ := hB
    refine lv_aload_n hx hb dX4_fill_0 rfl (lv_at hl 0 rfl) ?_
    refine lv_iload_n hx hb dX4_fill_1 rfl (lv_at hl 1 rfl) ?_
    refine k3_V hx hb hml hown hG cs_X4_71 (tx_bookChangedByHand_n l hst D cI cC ad ta z S N x hno4) (by decide) (pztV hK hE hT hZ (fun _ _ _ => rfl) rfl hW.rc hW) rfl hl.1 rfl (Nat.le_of_ble_eq_true rfl) dX4_fill_2 ⟨Nat.le_refl _, Nat.le_refl _⟩ (fun H1 q9 ce h1 h2 h3 h4 h5 => ?_)
    exact k3_out hnx hlocks h1 h2 h3 h4 h5
set_option maxHeartbeats 4000000 in
set_option maxRecDepth 100000 in
theorem xx_putNew (l : Launch) (hst : l.stackTraces = false) (D : va_G) (cI cC : ClassId) (ad ta : Nat → Nat) (z : Nat) (S : St) (N : Nat) (x key v : Int32) (hI : Inv S) (hno : (sp_putNew S x key v).1 ≠ 0) : vx_Met l yX4_putNew (ws_ yX4_putNew cX4_putNew 6 (some .int)) (rmX 2) (va_Pc [.ref (ad 0), .int x, .int key, .int v] (pzt D [(cI, .int), (cC, .char)] ta z (fun H => Wc D cI cC ad S N H))) Nq (Xq (xn ["java/lang/IndexOutOfBoundsException", "java/lang/IllegalArgumentException", "java/lang/IllegalStateException"] (sp_putNew S x key v).1)) 1 6 (fun _ => False) := by
  rcases bkn_cases 4 (by decide) x with ⟨b, hb4, rfl, hbk⟩ | ⟨hbk, hno4⟩
  · skip
    have hN2 := hI.1 b hb4
    by_cases h2 : 2 ≤ b
    · skip
      have e9 : (sp_putNew S (nI (b)) key v).1 = 2 := by simp [sp_putNew, hbk, h2]
      rw [e9]
      refine m_startX (by decide) (Nat.le_of_ble_eq_true rfl) ?_
      intro p e s m below meth c hx hb hr hG hown hlocks hml hnx hB ls hl
      have hl : lv_has ls 6 [(0, .ref (ad 0)), (1, .int (nI (b))), (2, .int (key)), (3, .int (v))] := hl
      obtain ⟨hW, hK, hE, hT, hZ⟩ := hB
      refine lv_aload_n hx hb dX4_putNew_0 rfl (lv_at hl 0 rfl) ?_
      refine lv_iload_n hx hb dX4_putNew_1 rfl (lv_at hl 1 rfl) ?_
      refine k3_V hx hb hml hown hG cs_X4_83 (tx_plainBook_q l hst D cI cC ad ta z S N b hb4 h2) (by decide) (pztV hK hE hT hZ (fun _ _ _ => rfl) rfl hW.rc hW) rfl hl.1 rfl (Nat.le_of_ble_eq_true rfl) dX4_putNew_2 ⟨Nat.le_refl _, Nat.le_refl _⟩ (fun H1 q9 ce h1 h2 h3 h4 h5 => ?_)
      exact k3_out hnx hlocks h1 h2 h3 h4 h5
    · skip
      cases hfu : full S b key with
      | true =>
        have e9 : (sp_putNew S (nI (b)) key v).1 = 3 := by simp [sp_putNew, hbk, h2, hfu]
        rw [e9]
        refine m_startX (by decide) (Nat.le_of_ble_eq_true rfl) ?_
        intro p e s m below meth c hx hb hr hG hown hlocks hml hnx hB ls hl
        have hl : lv_has ls 6 [(0, .ref (ad 0)), (1, .int (nI (b))), (2, .int (key)), (3, .int (v))] := hl
        obtain ⟨hW, hK, hE, hT, hZ⟩ := hB
        refine lv_aload_n hx hb dX4_putNew_0 rfl (lv_at hl 0 rfl) ?_
        refine lv_iload_n hx hb dX4_putNew_1 rfl (lv_at hl 1 rfl) ?_
        refine k1_V hx hb hml hown hG cs_X4_83 (k_plainBook l D cI cC ad S N b (by omega)) (by decide) (pzV hK rfl hW.rc hW) rfl hl.1 rfl (Nat.le_of_ble_eq_true rfl) dX4_putNew_2 ⟨Nat.zero_le _, Nat.zero_le _⟩ rfl ?_
        refine lv_astore (lv' := [(4, .ref ((bk_ ad b) 0)), (0, .ref (ad 0)), (1, .int (nI (b))), (2, .int (key)), (3, .int (v))]) hx hb dX4_putNew_5 hl (by decide) rfl (fun ls hl => ?_)
        refine lv_aload_n hx hb dX4_putNew_7 rfl (lv_at hl 1 rfl) ?_
        refine lv_aload hx hb dX4_putNew_8 (lv_at hl 0 rfl) ?_
        refine lv_iload_n hx hb dX4_putNew_10 rfl (lv_at hl 3 rfl) ?_
        refine k3_V hx hb hml hown hG cs_X4_75 (tx_requireRoomForKey l hst D cI cC ad ta z S N b key (by omega) hfu) (by decide) (pztV hK hE hT hZ (fun _ _ _ => rfl) rfl hW.rc hW) rfl hl.1 rfl (Nat.le_of_ble_eq_true rfl) dX4_putNew_11 ⟨Nat.le_refl _, Nat.le_refl _⟩ (fun H1 q9 ce h1 h2 h3 h4 h5 => ?_)
        exact k3_out hnx hlocks h1 h2 h3 h4 h5
      | false =>
        exact absurd (by unfold sp_putNew; rw [hbk]; simp only [h2, hfu, if_false]; repeat' (first | rfl | contradiction | split)) hno
  · skip
    have e9 : (sp_putNew S x key v).1 = 1 := by simp [sp_putNew, hbk]
    rw [e9]
    refine m_startX (by decide) (Nat.le_of_ble_eq_true rfl) ?_
    intro p e s m below meth c hx hb hr hG hown hlocks hml hnx hB ls hl
    have hl : lv_has ls 6 [(0, .ref (ad 0)), (1, .int (x)), (2, .int (key)), (3, .int (v))] := hl
    obtain ⟨hW, hK, hE, hT, hZ⟩ := hB
    refine lv_aload_n hx hb dX4_putNew_0 rfl (lv_at hl 0 rfl) ?_
    refine lv_iload_n hx hb dX4_putNew_1 rfl (lv_at hl 1 rfl) ?_
    refine k3_V hx hb hml hown hG cs_X4_83 (tx_plainBook_n l hst D cI cC ad ta z S N x hno4) (by decide) (pztV hK hE hT hZ (fun _ _ _ => rfl) rfl hW.rc hW) rfl hl.1 rfl (Nat.le_of_ble_eq_true rfl) dX4_putNew_2 ⟨Nat.le_refl _, Nat.le_refl _⟩ (fun H1 q9 ce h1 h2 h3 h4 h5 => ?_)
    exact k3_out hnx hlocks h1 h2 h3 h4 h5
set_option maxHeartbeats 4000000 in
set_option maxRecDepth 100000 in
theorem xx_add (l : Launch) (hst : l.stackTraces = false) (D : va_G) (cI cC : ClassId) (ad ta : Nat → Nat) (z : Nat) (S : St) (N : Nat) (x key v : Int32) (hI : Inv S) (hno : (sp_add S x key v).1 ≠ 0) : vx_Met l yX4_add (ws_ yX4_add cX4_add 7 (some .int)) (rmX 2) (va_Pc [.ref (ad 0), .int x, .int key, .int v] (pzt D [(cI, .int), (cC, .char)] ta z (fun H => Wc D cI cC ad S N H))) Nq (Xq (xn ["java/lang/IndexOutOfBoundsException", "java/lang/IllegalArgumentException", "java/lang/IllegalStateException"] (sp_add S x key v).1)) 1 6 (fun _ => False) := by
  rcases bkn_cases 4 (by decide) x with ⟨b, hb4, rfl, hbk⟩ | ⟨hbk, hno4⟩
  · skip
    have hN2 := hI.1 b hb4
    by_cases h2 : 2 ≤ b
    · skip
      have e9 : (sp_add S (nI (b)) key v).1 = 2 := by simp [sp_add, hbk, h2]
      rw [e9]
      refine m_startX (by decide) (Nat.le_of_ble_eq_true rfl) ?_
      intro p e s m below meth c hx hb hr hG hown hlocks hml hnx hB ls hl
      have hl : lv_has ls 7 [(0, .ref (ad 0)), (1, .int (nI (b))), (2, .int (key)), (3, .int (v))] := hl
      obtain ⟨hW, hK, hE, hT, hZ⟩ := hB
      refine lv_aload_n hx hb dX4_add_0 rfl (lv_at hl 0 rfl) ?_
      refine lv_iload_n hx hb dX4_add_1 rfl (lv_at hl 1 rfl) ?_
      refine k3_V hx hb hml hown hG cs_X4_83 (tx_plainBook_q l hst D cI cC ad ta z S N b hb4 h2) (by decide) (pztV hK hE hT hZ (fun _ _ _ => rfl) rfl hW.rc hW) rfl hl.1 rfl (Nat.le_of_ble_eq_true rfl) dX4_add_2 ⟨Nat.le_refl _, Nat.le_refl _⟩ (fun H1 q9 ce h1 h2 h3 h4 h5 => ?_)
      exact k3_out hnx hlocks h1 h2 h3 h4 h5
    · skip
      cases hfu : full S b key with
      | true =>
        have e9 : (sp_add S (nI (b)) key v).1 = 3 := by simp [sp_add, hbk, h2, hfu]
        rw [e9]
        refine m_startX (by decide) (Nat.le_of_ble_eq_true rfl) ?_
        intro p e s m below meth c hx hb hr hG hown hlocks hml hnx hB ls hl
        have hl : lv_has ls 7 [(0, .ref (ad 0)), (1, .int (nI (b))), (2, .int (key)), (3, .int (v))] := hl
        obtain ⟨hW, hK, hE, hT, hZ⟩ := hB
        refine lv_aload_n hx hb dX4_add_0 rfl (lv_at hl 0 rfl) ?_
        refine lv_iload_n hx hb dX4_add_1 rfl (lv_at hl 1 rfl) ?_
        refine k1_V hx hb hml hown hG cs_X4_83 (k_plainBook l D cI cC ad S N b (by omega)) (by decide) (pzV hK rfl hW.rc hW) rfl hl.1 rfl (Nat.le_of_ble_eq_true rfl) dX4_add_2 ⟨Nat.zero_le _, Nat.zero_le _⟩ rfl ?_
        refine lv_astore (lv' := [(4, .ref ((bk_ ad b) 0)), (0, .ref (ad 0)), (1, .int (nI (b))), (2, .int (key)), (3, .int (v))]) hx hb dX4_add_5 hl (by decide) rfl (fun ls hl => ?_)
        refine lv_aload_n hx hb dX4_add_7 rfl (lv_at hl 1 rfl) ?_
        refine lv_aload hx hb dX4_add_8 (lv_at hl 0 rfl) ?_
        refine lv_iload_n hx hb dX4_add_10 rfl (lv_at hl 3 rfl) ?_
        refine k3_V hx hb hml hown hG cs_X4_75 (tx_requireRoomForKey l hst D cI cC ad ta z S N b key (by omega) hfu) (by decide) (pztV hK hE hT hZ (fun _ _ _ => rfl) rfl hW.rc hW) rfl hl.1 rfl (Nat.le_of_ble_eq_true rfl) dX4_add_11 ⟨Nat.le_refl _, Nat.le_refl _⟩ (fun H1 q9 ce h1 h2 h3 h4 h5 => ?_)
        exact k3_out hnx hlocks h1 h2 h3 h4 h5
      | false =>
        exact absurd (by unfold sp_add; rw [hbk]; simp only [h2, hfu, if_false]; repeat' (first | rfl | contradiction | split)) hno
  · skip
    have e9 : (sp_add S x key v).1 = 1 := by simp [sp_add, hbk]
    rw [e9]
    refine m_startX (by decide) (Nat.le_of_ble_eq_true rfl) ?_
    intro p e s m below meth c hx hb hr hG hown hlocks hml hnx hB ls hl
    have hl : lv_has ls 7 [(0, .ref (ad 0)), (1, .int (x)), (2, .int (key)), (3, .int (v))] := hl
    obtain ⟨hW, hK, hE, hT, hZ⟩ := hB
    refine lv_aload_n hx hb dX4_add_0 rfl (lv_at hl 0 rfl) ?_
    refine lv_iload_n hx hb dX4_add_1 rfl (lv_at hl 1 rfl) ?_
    refine k3_V hx hb hml hown hG cs_X4_83 (tx_plainBook_n l hst D cI cC ad ta z S N x hno4) (by decide) (pztV hK hE hT hZ (fun _ _ _ => rfl) rfl hW.rc hW) rfl hl.1 rfl (Nat.le_of_ble_eq_true rfl) dX4_add_2 ⟨Nat.le_refl _, Nat.le_refl _⟩ (fun H1 q9 ce h1 h2 h3 h4 h5 => ?_)
    exact k3_out hnx hlocks h1 h2 h3 h4 h5
set_option maxHeartbeats 4000000 in
set_option maxRecDepth 100000 in
theorem xx_halve (l : Launch) (hst : l.stackTraces = false) (D : va_G) (cI cC : ClassId) (ad ta : Nat → Nat) (z : Nat) (S : St) (N : Nat) (x key : Int32) (hI : Inv S) (hno : (sp_halve S x key).1 ≠ 0) : vx_Met l yX4_halve (ws_ yX4_halve cX4_halve 6 (some .boolean)) (rmX 2) (va_Pc [.ref (ad 0), .int x, .int key] (pzt D [(cI, .int), (cC, .char)] ta z (fun H => Wc D cI cC ad S N H))) Nq (Xq (xn ["java/lang/IndexOutOfBoundsException", "java/lang/IllegalArgumentException"] (sp_halve S x key).1)) 1 6 (fun _ => False) := by
  rcases bkn_cases 4 (by decide) x with ⟨b, hb4, rfl, hbk⟩ | ⟨hbk, hno4⟩
  · skip
    have hN2 := hI.1 b hb4
    by_cases h2 : 2 ≤ b
    · skip
      have e9 : (sp_halve S (nI (b)) key).1 = 2 := by simp [sp_halve, hbk, h2]
      rw [e9]
      refine m_startX (by decide) (Nat.le_of_ble_eq_true rfl) ?_
      intro p e s m below meth c hx hb hr hG hown hlocks hml hnx hB ls hl
      have hl : lv_has ls 6 [(0, .ref (ad 0)), (1, .int (nI (b))), (2, .int (key))] := hl
      obtain ⟨hW, hK, hE, hT, hZ⟩ := hB
      refine lv_aload_n hx hb dX4_halve_0 rfl (lv_at hl 0 rfl) ?_
      refine lv_iload_n hx hb dX4_halve_1 rfl (lv_at hl 1 rfl) ?_
      refine k3_V hx hb hml hown hG cs_X4_83 (tx_plainBook_q l hst D cI cC ad ta z S N b hb4 h2) (by decide) (pztV hK hE hT hZ (fun _ _ _ => rfl) rfl hW.rc hW) rfl hl.1 rfl (Nat.le_of_ble_eq_true rfl) dX4_halve_2 ⟨Nat.le_refl _, Nat.le_refl _⟩ (fun H1 q9 ce h1 h2 h3 h4 h5 => ?_)
      exact k3_out hnx hlocks h1 h2 h3 h4 h5
    · skip
      exact absurd (by unfold sp_halve; rw [hbk]; simp only [h2, if_false]; repeat' (first | rfl | contradiction | split)) hno
  · skip
    have e9 : (sp_halve S x key).1 = 1 := by simp [sp_halve, hbk]
    rw [e9]
    refine m_startX (by decide) (Nat.le_of_ble_eq_true rfl) ?_
    intro p e s m below meth c hx hb hr hG hown hlocks hml hnx hB ls hl
    have hl : lv_has ls 6 [(0, .ref (ad 0)), (1, .int (x)), (2, .int (key))] := hl
    obtain ⟨hW, hK, hE, hT, hZ⟩ := hB
    refine lv_aload_n hx hb dX4_halve_0 rfl (lv_at hl 0 rfl) ?_
    refine lv_iload_n hx hb dX4_halve_1 rfl (lv_at hl 1 rfl) ?_
    refine k3_V hx hb hml hown hG cs_X4_83 (tx_plainBook_n l hst D cI cC ad ta z S N x hno4) (by decide) (pztV hK hE hT hZ (fun _ _ _ => rfl) rfl hW.rc hW) rfl hl.1 rfl (Nat.le_of_ble_eq_true rfl) dX4_halve_2 ⟨Nat.le_refl _, Nat.le_refl _⟩ (fun H1 q9 ce h1 h2 h3 h4 h5 => ?_)
    exact k3_out hnx hlocks h1 h2 h3 h4 h5
set_option maxHeartbeats 4000000 in
set_option maxRecDepth 100000 in
theorem xx_isNothingRefused (l : Launch) (hst : l.stackTraces = false) (D : va_G) (cI cC : ClassId) (ad ta : Nat → Nat) (z : Nat) (S : St) (N : Nat) (x z1 : Int32) (hI : Inv S) (hno : (sp_isNothingRefused S x z1).1 ≠ 0) : vx_Met l yX4_isNothingRefused (ws_ yX4_isNothingRefused cX4_isNothingRefused 3 (some .boolean)) (rmX 2) (va_Pc [.ref (ad 0), .int x, .int z1] (pzt D [(cI, .int), (cC, .char)] ta z (fun H => Wc D cI cC ad S N H))) Nq (Xq (xn ["java/lang/IndexOutOfBoundsException", "java/lang/IllegalArgumentException"] (sp_isNothingRefused S x z1).1)) 1 6 (fun _ => False) := by
  rcases bkn_cases 4 (by decide) x with ⟨b, hb4, rfl, hbk⟩ | ⟨hbk, hno4⟩
  · skip
    have hN2 := hI.1 b hb4
    by_cases h2 : 2 ≤ b
    · skip
      have e9 : (sp_isNothingRefused S (nI (b)) z1).1 = 2 := by simp [sp_isNothingRefused, hbk, h2]
      rw [e9]
      refine m_startX (by decide) (Nat.le_of_ble_eq_true rfl) ?_
      intro p e s m below meth c hx hb hr hG hown hlocks hml hnx hB ls hl
      have hl : lv_has ls 3 [(0, .ref (ad 0)), (1, .int (nI (b))), (2, .int (z1))] := hl
      obtain ⟨hW, hK, hE, hT, hZ⟩ := hB
      refine lv_aload_n hx hb dX4_isNothingRefused_0 rfl (lv_at hl 0 rfl) ?_
      refine lv_iload_n hx hb dX4_isNothingRefused_1 rfl (lv_at hl 1 rfl) ?_
      refine k3_V hx hb hml hown hG cs_X4_83 (tx_plainBook_q l hst D cI cC ad ta z S N b hb4 h2) (by decide) (pztV hK hE hT hZ (fun _ _ _ => rfl) rfl hW.rc hW) rfl hl.1 rfl (Nat.le_of_ble_eq_true rfl) dX4_isNothingRefused_2 ⟨Nat.le_refl _, Nat.le_refl _⟩ (fun H1 q9 ce h1 h2 h3 h4 h5 => ?_)
      exact k3_out hnx hlocks h1 h2 h3 h4 h5
    · skip
      exact absurd (by simp [sp_isNothingRefused, hbk, h2]) hno
  · skip
    have e9 : (sp_isNothingRefused S x z1).1 = 1 := by simp [sp_isNothingRefused, hbk]
    rw [e9]
    refine m_startX (by decide) (Nat.le_of_ble_eq_true rfl) ?_
    intro p e s m below meth c hx hb hr hG hown hlocks hml hnx hB ls hl
    have hl : lv_has ls 3 [(0, .ref (ad 0)), (1, .int (x)), (2, .int (z1))] := hl
    obtain ⟨hW, hK, hE, hT, hZ⟩ := hB
    refine lv_aload_n hx hb dX4_isNothingRefused_0 rfl (lv_at hl 0 rfl) ?_
    refine lv_iload_n hx hb dX4_isNothingRefused_1 rfl (lv_at hl 1 rfl) ?_
    refine k3_V hx hb hml hown hG cs_X4_83 (tx_plainBook_n l hst D cI cC ad ta z S N x hno4) (by decide) (pztV hK hE hT hZ (fun _ _ _ => rfl) rfl hW.rc hW) rfl hl.1 rfl (Nat.le_of_ble_eq_true rfl) dX4_isNothingRefused_2 ⟨Nat.le_refl _, Nat.le_refl _⟩ (fun H1 q9 ce h1 h2 h3 h4 h5 => ?_)
    exact k3_out hnx hlocks h1 h2 h3 h4 h5
set_option maxHeartbeats 4000000 in
set_option maxRecDepth 100000 in
theorem xx_pour (l : Launch) (hst : l.stackTraces = false) (D : va_G) (cI cC : ClassId) (ad ta : Nat → Nat) (z : Nat) (S : St) (N : Nat) (x y : Int32) (hI : Inv S) (hno : (sp_pour S x y).1 ≠ 0) : vx_Met l yX4_pour (ws_ yX4_pour cX4_pour 5 (some .int)) (rmX 2) (va_Pc [.ref (ad 0), .int x, .int y] (pzt D [(cI, .int), (cC, .char)] ta z (fun H => Wc D cI cC ad S N H))) Nq (Xq (xn ["java/lang/IndexOutOfBoundsException", "java/lang/IllegalArgumentException", "java/lang/IllegalStateException"] (sp_pour S x y).1)) 1 6 (fun _ => False) := by
  rcases bkn_cases 4 (by decide) x with ⟨b, hb4, rfl, hbk⟩ | ⟨hbk, hno4⟩
  · skip
    rcases bkn_cases 4 (by decide) y with ⟨q, hq4, rfl, hbq⟩ | ⟨hbq, hno4⟩
    · skip
      by_cases hq3 : q = 3
      · skip
        subst hq3
        have e9 : (sp_pour S (nI (b)) (nI (3))).1 = 2 := by unfold sp_pour; rw [hbk, hbq]; exact congrArg Prod.fst (if_pos (Or.inl rfl))
        rw [e9]
        refine m_startX (by decide) (Nat.le_of_ble_eq_true rfl) ?_
        intro p e s m below meth c hx hb hr hG hown hlocks hml hnx hB ls hl
        have hl : lv_has ls 5 [(0, .ref (ad 0)), (1, .int (nI (b))), (2, .int (nI (3)))] := hl
        obtain ⟨hW, hK, hE, hT, hZ⟩ := hB
        refine lv_aload_n hx hb dX4_pour_0 rfl (lv_at hl 0 rfl) ?_
        refine lv_iload_n hx hb dX4_pour_1 rfl (lv_at hl 1 rfl) ?_
        refine k1_V hx hb hml hown hG cs_X4_113 (k_bookOfNumber l D cI cC ad S N b (by omega)) (by decide) (pzV hK rfl hW.rc hW) rfl hl.1 rfl (Nat.le_of_ble_eq_true rfl) dX4_pour_2 ⟨Nat.zero_le _, Nat.zero_le _⟩ rfl ?_
        refine lv_astore_n (lv' := [(3, .ref ((bk_ ad b) 0)), (0, .ref (ad 0)), (1, .int (nI (b))), (2, .int (nI (3)))]) hx hb dX4_pour_5 rfl hl (by decide) rfl (fun ls hl => ?_)
        refine lv_aload_n hx hb dX4_pour_6 rfl (lv_at hl 1 rfl) ?_
        refine lv_iload_n hx hb dX4_pour_7 rfl (lv_at hl 3 rfl) ?_
        refine k3_V hx hb hml hown hG cs_X4_71 (tx_bookChangedByHand_q l hst D cI cC ad ta z S N ) (by decide) (pztV hK hE hT hZ (fun _ _ _ => rfl) rfl hW.rc hW) rfl hl.1 rfl (Nat.le_of_ble_eq_true rfl) dX4_pour_8 ⟨Nat.le_refl _, Nat.le_refl _⟩ (fun H1 q9 ce h1 h2 h3 h4 h5 => ?_)
        exact k3_out hnx hlocks h1 h2 h3 h4 h5
      · skip
        by_cases hbo : b = q
        · skip
          have e9 : (sp_pour S (nI (b)) (nI (q))).1 = 2 := by unfold sp_pour; rw [hbk, hbq]; exact congrArg Prod.fst (if_pos (Or.inr hbo))
          rw [e9]
          refine m_startX (by decide) (Nat.le_of_ble_eq_true rfl) ?_
          intro p e s m below meth c hx hb hr hG hown hlocks hml hnx hB ls hl
          have hl : lv_has ls 5 [(0, .ref (ad 0)), (1, .int (nI (b))), (2, .int (nI (q)))] := hl
          obtain ⟨hW, hK, hE, hT, hZ⟩ := hB
          refine lv_aload_n hx hb dX4_pour_0 rfl (lv_at hl 0 rfl) ?_
          refine lv_iload_n hx hb dX4_pour_1 rfl (lv_at hl 1 rfl) ?_
          refine k1_V hx hb hml hown hG cs_X4_113 (k_bookOfNumber l D cI cC ad S N b (by omega)) (by decide) (pzV hK rfl hW.rc hW) rfl hl.1 rfl (Nat.le_of_ble_eq_true rfl) dX4_pour_2 ⟨Nat.zero_le _, Nat.zero_le _⟩ rfl ?_
          refine lv_astore_n (lv' := [(3, .ref ((bk_ ad b) 0)), (0, .ref (ad 0)), (1, .int (nI (b))), (2, .int (nI (q)))]) hx hb dX4_pour_5 rfl hl (by decide) rfl (fun ls hl => ?_)
          refine lv_aload_n hx hb dX4_pour_6 rfl (lv_at hl 1 rfl) ?_
          refine lv_iload_n hx hb dX4_pour_7 rfl (lv_at hl 3 rfl) ?_
          refine k1_V hx hb hml hown hG cs_X4_71 (k_bookChangedByHand l D cI cC ad S N q (by omega)) (by decide) (pzV hK rfl hW.rc hW) rfl hl.1 rfl (Nat.le_of_ble_eq_true rfl) dX4_pour_8 ⟨Nat.zero_le _, Nat.zero_le _⟩ rfl ?_
          refine lv_astore (lv' := [(4, .ref ((bk_ ad q) 0)), (3, .ref ((bk_ ad b) 0)), (0, .ref (ad 0)), (1, .int (nI (b))), (2, .int (nI (q)))]) hx hb dX4_pour_11 hl (by decide) rfl (fun ls hl => ?_)
          refine lv_aload_n hx hb dX4_pour_13 rfl (lv_at hl 2 rfl) ?_
          refine lv_iload_n hx hb dX4_pour_14 rfl (lv_at hl 3 rfl) ?_
          refine lv_iload_n hx hb dX4_pour_15 rfl (lv_at hl 4 rfl) ?_
          refine k3_V hx hb hml hown hG cs_X4_116 (tx_requireTwoBooks l hst D cI cC ad ta z S N b q hb4 hbo) (by decide) (pztV hK hE hT hZ (fun _ _ _ => rfl) rfl hW.rc hW) rfl hl.1 rfl (Nat.le_of_ble_eq_true rfl) dX4_pour_16 ⟨Nat.le_refl _, Nat.le_refl _⟩ (fun H1 q9 ce h1 h2 h3 h4 h5 => ?_)
          exact k3_out hnx hlocks h1 h2 h3 h4 h5
        · skip
          have hN2 := hI.1 q hq4
          have hNb := hI.1 b hb4
          have hcm := cms_le (S.1 b) (S.1 q) (S.1 b).length
          by_cases hfl : q ≠ 2 ∧ 200 < (S.1 q).length + cms (S.1 b) (S.1 q) (S.1 b).length
          · skip
            have e9 : (sp_pour S (nI (b)) (nI (q))).1 = 3 := by unfold sp_pour; rw [hbk, hbq]; show (if q = 3 ∨ b = q then _ else if q ≠ 2 ∧ 200 < (S.1 q).length + cms (S.1 b) (S.1 q) (S.1 b).length then _ else _ : Nat × Int32 × St).1 = 3; rw [if_neg (fun h => h.elim hq3 hbo), if_pos hfl]
            rw [e9]
            refine m_startX (by decide) (Nat.le_of_ble_eq_true rfl) ?_
            intro p e s m below meth c hx hb hr hG hown hlocks hml hnx hB ls hl
            have hl : lv_has ls 5 [(0, .ref (ad 0)), (1, .int (nI (b))), (2, .int (nI (q)))] := hl
            obtain ⟨hW, hK, hE, hT, hZ⟩ := hB
            have hbd : bdO S q = 200 := by unfold bdO; rw [if_neg hfl.1]
            refine lv_aload_n hx hb dX4_pour_0 rfl (lv_at hl 0 rfl) ?_
            refine lv_iload_n hx hb dX4_pour_1 rfl (lv_at hl 1 rfl) ?_
            refine k1_V hx hb hml hown hG cs_X4_113 (k_bookOfNumber l D cI cC ad S N b (by omega)) (by decide) (pzV hK rfl hW.rc hW) rfl hl.1 rfl (Nat.le_of_ble_eq_true rfl) dX4_pour_2 ⟨Nat.zero_le _, Nat.zero_le _⟩ rfl ?_
            refine lv_astore_n (lv' := [(3, .ref ((bk_ ad b) 0)), (0, .ref (ad 0)), (1, .int (nI (b))), (2, .int (nI (q)))]) hx hb dX4_pour_5 rfl hl (by decide) rfl (fun ls hl => ?_)
            refine lv_aload_n hx hb dX4_pour_6 rfl (lv_at hl 1 rfl) ?_
            refine lv_iload_n hx hb dX4_pour_7 rfl (lv_at hl 3 rfl) ?_
            refine k1_V hx hb hml hown hG cs_X4_71 (k_bookChangedByHand l D cI cC ad S N q (by omega)) (by decide) (pzV hK rfl hW.rc hW) rfl hl.1 rfl (Nat.le_of_ble_eq_true rfl) dX4_pour_8 ⟨Nat.zero_le _, Nat.zero_le _⟩ rfl ?_
            refine lv_astore (lv' := [(4, .ref ((bk_ ad q) 0)), (3, .ref ((bk_ ad b) 0)), (0, .ref (ad 0)), (1, .int (nI (b))), (2, .int (nI (q)))]) hx hb dX4_pour_11 hl (by decide) rfl (fun ls hl => ?_)
            refine lv_aload_n hx hb dX4_pour_13 rfl (lv_at hl 2 rfl) ?_
            refine lv_iload_n hx hb dX4_pour_14 rfl (lv_at hl 3 rfl) ?_
            refine lv_iload_n hx hb dX4_pour_15 rfl (lv_at hl 4 rfl) ?_
            refine k1_V hx hb hml hown hG cs_X4_116 (k_requireTwoBooks l D cI cC ad S N b q (by omega) (by omega) (by omega)) (by decide) (pzV hK rfl hW.rc hW) rfl hl.1 rfl (Nat.le_of_ble_eq_true rfl) dX4_pour_16 ⟨Nat.zero_le _, Nat.zero_le _⟩ rfl ?_
            refine lv_aload_n hx hb dX4_pour_19 rfl (lv_at hl 2 rfl) ?_
            refine lv_aload hx hb dX4_pour_20 (lv_at hl 0 rfl) ?_
            refine lv_aload_n hx hb dX4_pour_22 rfl (lv_at hl 1 rfl) ?_
            refine lv_aload hx hb dX4_pour_23 (lv_at hl 0 rfl) ?_
            refine k1_V hx hb hml hown hG cs_X4_119 (c_countMissingIn l D cI (bk_ ad b) (bk_ ad q) (lgO b) (bdO S b) (S.1 b) (lgO q) (bdO S q) (S.1 q)) (by decide) (pzV (hK.sub (tys' := [(cI, .int)]) [0] rfl) rfl (hW.bk (b := b) (by omega)).1.rc ⟨(hW.bk (b := b) (by omega)).1, (hW.bk (b := q) (by omega)).1⟩) rfl hl.1 rfl (Nat.le_of_ble_eq_true rfl) dX4_pour_25 ⟨Nat.zero_le _, Nat.zero_le _⟩ rfl ?_
            refine k3_V hx hb hml hown hG cs_X4_110 (tx_requireRoom l hst D cI cC ad ta z S N q (cms (S.1 b) (S.1 q) (S.1 b).length) (by omega) (by omega) (decide_eq_false hfl.1) (by omega) (by omega)) (by decide) (pztV hK hE hT hZ (fun _ _ _ => rfl) rfl hW.rc hW) rfl hl.1 rfl (Nat.le_of_ble_eq_true rfl) dX4_pour_28 ⟨Nat.le_refl _, Nat.le_refl _⟩ (fun H1 q9 ce h1 h2 h3 h4 h5 => ?_)
            exact k3_out hnx hlocks h1 h2 h3 h4 h5
          · skip
            exact absurd (by unfold sp_pour; rw [hbk, hbq]; show (if q = 3 ∨ b = q then _ else if q ≠ 2 ∧ 200 < (S.1 q).length + cms (S.1 b) (S.1 q) (S.1 b).length then _ else _ : Nat × Int32 × St).1 = 0; rw [if_neg (fun h => h.elim hq3 hbo), if_neg hfl]) hno
    · skip
      have e9 : (sp_pour S (nI (b)) y).1 = 1 := by simp [sp_pour, hbk, hbq]
      rw [e9]
      refine m_startX (by decide) (Nat.le_of_ble_eq_true rfl) ?_
      intro p e s m below meth c hx hb hr hG hown hlocks hml hnx hB ls hl
      have hl : lv_has ls 5 [(0, .ref (ad 0)), (1, .int (nI (b))), (2, .int (y))] := hl
      obtain ⟨hW, hK, hE, hT, hZ⟩ := hB
      refine lv_aload_n hx hb dX4_pour_0 rfl (lv_at hl 0 rfl) ?_
      refine lv_iload_n hx hb dX4_pour_1 rfl (lv_at hl 1 rfl) ?_
      refine k1_V hx hb hml hown hG cs_X4_113 (k_bookOfNumber l D cI cC ad S N b (by omega)) (by decide) (pzV hK rfl hW.rc hW) rfl hl.1 rfl (Nat.le_of_ble_eq_true rfl) dX4_pour_2 ⟨Nat.zero_le _, Nat.zero_le _⟩ rfl ?_
      refine lv_astore_n (lv' := [(3, .ref ((bk_ ad b) 0)), (0, .ref (ad 0)), (1, .int (nI (b))), (2, .int (y))]) hx hb dX4_pour_5 rfl hl (by decide) rfl (fun ls hl => ?_)
      refine lv_aload_n hx hb dX4_pour_6 rfl (lv_at hl 1 rfl) ?_
      refine lv_iload_n hx hb dX4_pour_7 rfl (lv_at hl 3 rfl) ?_
      refine k3_V hx hb hml hown hG cs_X4_71 (tx_bookChangedByHand_n l hst D cI cC ad ta z S N y hno4) (by decide) (pztV hK hE hT hZ (fun _ _ _ => rfl) rfl hW.rc hW) rfl hl.1 rfl (Nat.le_of_ble_eq_true rfl) dX4_pour_8 ⟨Nat.le_refl _, Nat.le_refl _⟩ (fun H1 q9 ce h1 h2 h3 h4 h5 => ?_)
      exact k3_out hnx hlocks h1 h2 h3 h4 h5
  · skip
    have e9 : (sp_pour S x y).1 = 1 := by simp [sp_pour, hbk]
    rw [e9]
    refine m_startX (by decide) (Nat.le_of_ble_eq_true rfl) ?_
    intro p e s m below meth c hx hb hr hG hown hlocks hml hnx hB ls hl
    have hl : lv_has ls 5 [(0, .ref (ad 0)), (1, .int (x)), (2, .int (y))] := hl
    obtain ⟨hW, hK, hE, hT, hZ⟩ := hB
    refine lv_aload_n hx hb dX4_pour_0 rfl (lv_at hl 0 rfl) ?_
    refine lv_iload_n hx hb dX4_pour_1 rfl (lv_at hl 1 rfl) ?_
    refine k3_V hx hb hml hown hG cs_X4_113 (tx_bookOfNumber l hst D cI cC ad ta z S N x hno4) (by decide) (pztV hK hE hT hZ (fun _ _ _ => rfl) rfl hW.rc hW) rfl hl.1 rfl (Nat.le_of_ble_eq_true rfl) dX4_pour_2 ⟨Nat.le_refl _, Nat.le_refl _⟩ (fun H1 q9 ce h1 h2 h3 h4 h5 => ?_)
    exact k3_out hnx hlocks h1 h2 h3 h4 h5
set_option maxHeartbeats 4000000 in
set_option maxRecDepth 100000 in
theorem xx_copy (l : Launch) (hst : l.stackTraces = false) (D : va_G) (cI cC : ClassId) (ad ta : Nat → Nat) (z : Nat) (S : St) (N : Nat) (x y : Int32) (hI : Inv S) (hno : (sp_copy S x y).1 ≠ 0) : vx_Met l yX4_copy (ws_ yX4_copy cX4_copy 5 (some .int)) (rmX 2) (va_Pc [.ref (ad 0), .int x, .int y] (pzt D [(cI, .int), (cC, .char)] ta z (fun H => Wc D cI cC ad S N H))) Nq (Xq (xn ["java/lang/IndexOutOfBoundsException", "java/lang/IllegalArgumentException"] (sp_copy S x y).1)) 1 6 (fun _ => False) := by
  rcases bkn_cases 4 (by decide) x with ⟨b, hb4, rfl, hbk⟩ | ⟨hbk, hno4⟩
  · skip
    rcases bkn_cases 4 (by decide) y with ⟨q, hq4, rfl, hbq⟩ | ⟨hbq, hno4⟩
    · skip
      by_cases hq3 : 2 ≤ q
      · skip
        have e9 : (sp_copy S (nI (b)) (nI (q))).1 = 2 := by unfold sp_copy; rw [hbk, hbq]; exact congrArg Prod.fst (if_pos (Or.inl hq3))
        rw [e9]
        refine m_startX (by decide) (Nat.le_of_ble_eq_true rfl) ?_
        intro p e s m below meth c hx hb hr hG hown hlocks hml hnx hB ls hl
        have hl : lv_has ls 5 [(0, .ref (ad 0)), (1, .int (nI (b))), (2, .int (nI (q)))] := hl
        obtain ⟨hW, hK, hE, hT, hZ⟩ := hB
        refine lv_aload_n hx hb dX4_copy_0 rfl (lv_at hl 0 rfl) ?_
        refine lv_iload_n hx hb dX4_copy_1 rfl (lv_at hl 1 rfl) ?_
        refine k1_V hx hb hml hown hG cs_X4_113 (k_bookOfNumber l D cI cC ad S N b (by omega)) (by decide) (pzV hK rfl hW.rc hW) rfl hl.1 rfl (Nat.le_of_ble_eq_true rfl) dX4_copy_2 ⟨Nat.zero_le _, Nat.zero_le _⟩ rfl ?_
        refine lv_astore_n (lv' := [(3, .ref ((bk_ ad b) 0)), (0, .ref (ad 0)), (1, .int (nI (b))), (2, .int (nI (q)))]) hx hb dX4_copy_5 rfl hl (by decide) rfl (fun ls hl => ?_)
        refine lv_aload_n hx hb dX4_copy_6 rfl (lv_at hl 1 rfl) ?_
        refine lv_iload_n hx hb dX4_copy_7 rfl (lv_at hl 3 rfl) ?_
        refine k3_V hx hb hml hown hG cs_X4_83 (tx_plainBook_q l hst D cI cC ad ta z S N q hq4 hq3) (by decide) (pztV hK hE hT hZ (fun _ _ _ => rfl) rfl hW.rc hW) rfl hl.1 rfl (Nat.le_of_ble_eq_true rfl) dX4_copy_8 ⟨Nat.le_refl _, Nat.le_refl _⟩ (fun H1 q9 ce h1 h2 h3 h4 h5 => ?_)
        exact k3_out hnx hlocks h1 h2 h3 h4 h5
      · skip
        by_cases hbo : b = q
        · skip
          have e9 : (sp_copy S (nI (b)) (nI (q))).1 = 2 := by unfold sp_copy; rw [hbk, hbq]; exact congrArg Prod.fst (if_pos (Or.inr hbo))
          rw [e9]
          refine m_startX (by decide) (Nat.le_of_ble_eq_true rfl) ?_
          intro p e s m below meth c hx hb hr hG hown hlocks hml hnx hB ls hl
          have hl : lv_has ls 5 [(0, .ref (ad 0)), (1, .int (nI (b))), (2, .int (nI (q)))] := hl
          obtain ⟨hW, hK, hE, hT, hZ⟩ := hB
          refine lv_aload_n hx hb dX4_copy_0 rfl (lv_at hl 0 rfl) ?_
          refine lv_iload_n hx hb dX4_copy_1 rfl (lv_at hl 1 rfl) ?_
          refine k1_V hx hb hml hown hG cs_X4_113 (k_bookOfNumber l D cI cC ad S N b (by omega)) (by decide) (pzV hK rfl hW.rc hW) rfl hl.1 rfl (Nat.le_of_ble_eq_true rfl) dX4_copy_2 ⟨Nat.zero_le _, Nat.zero_le _⟩ rfl ?_
          refine lv_astore_n (lv' := [(3, .ref ((bk_ ad b) 0)), (0, .ref (ad 0)), (1, .int (nI (b))), (2, .int (nI (q)))]) hx hb dX4_copy_5 rfl hl (by decide) rfl (fun ls hl => ?_)
          refine lv_aload_n hx hb dX4_copy_6 rfl (lv_at hl 1 rfl) ?_
          refine lv_iload_n hx hb dX4_copy_7 rfl (lv_at hl 3 rfl) ?_
          refine k1_V hx hb hml hown hG cs_X4_83 (k_plainBook l D cI cC ad S N q (by omega)) (by decide) (pzV hK rfl hW.rc hW) rfl hl.1 rfl (Nat.le_of_ble_eq_true rfl) dX4_copy_8 ⟨Nat.zero_le _, Nat.zero_le _⟩ rfl ?_
          refine lv_astore (lv' := [(4, .ref ((bk_ ad q) 0)), (3, .ref ((bk_ ad b) 0)), (0, .ref (ad 0)), (1, .int (nI (b))), (2, .int (nI (q)))]) hx hb dX4_copy_11 hl (by decide) rfl (fun ls hl => ?_)
          refine lv_aload_n hx hb dX4_copy_13 rfl (lv_at hl 2 rfl) ?_
          refine lv_iload_n hx hb dX4_copy_14 rfl (lv_at hl 3 rfl) ?_
          refine lv_iload_n hx hb dX4_copy_15 rfl (lv_at hl 4 rfl) ?_
          refine k3_V hx hb hml hown hG cs_X4_116 (tx_requireTwoBooks l hst D cI cC ad ta z S N b q hb4 hbo) (by decide) (pztV hK hE hT hZ (fun _ _ _ => rfl) rfl hW.rc hW) rfl hl.1 rfl (Nat.le_of_ble_eq_true rfl) dX4_copy_16 ⟨Nat.le_refl _, Nat.le_refl _⟩ (fun H1 q9 ce h1 h2 h3 h4 h5 => ?_)
          exact k3_out hnx hlocks h1 h2 h3 h4 h5
        · skip
          exact absurd (by unfold sp_copy; rw [hbk, hbq]; exact congrArg Prod.fst (if_neg (fun h => h.elim hq3 hbo))) hno
    · skip
      have e9 : (sp_copy S (nI (b)) y).1 = 1 := by simp [sp_copy, hbk, hbq]
      rw [e9]
      refine m_startX (by decide) (Nat.le_of_ble_eq_true rfl) ?_
      intro p e s m below meth c hx hb hr hG hown hlocks hml hnx hB ls hl
      have hl : lv_has ls 5 [(0, .ref (ad 0)), (1, .int (nI (b))), (2, .int (y))] := hl
      obtain ⟨hW, hK, hE, hT, hZ⟩ := hB
      refine lv_aload_n hx hb dX4_copy_0 rfl (lv_at hl 0 rfl) ?_
      refine lv_iload_n hx hb dX4_copy_1 rfl (lv_at hl 1 rfl) ?_
      refine k1_V hx hb hml hown hG cs_X4_113 (k_bookOfNumber l D cI cC ad S N b (by omega)) (by decide) (pzV hK rfl hW.rc hW) rfl hl.1 rfl (Nat.le_of_ble_eq_true rfl) dX4_copy_2 ⟨Nat.zero_le _, Nat.zero_le _⟩ rfl ?_
      refine lv_astore_n (lv' := [(3, .ref ((bk_ ad b) 0)), (0, .ref (ad 0)), (1, .int (nI (b))), (2, .int (y))]) hx hb dX4_copy_5 rfl hl (by decide) rfl (fun ls hl => ?_)
      refine lv_aload_n hx hb dX4_copy_6 rfl (lv_at hl 1 rfl) ?_
      refine lv_iload_n hx hb dX4_copy_7 rfl (lv_at hl 3 rfl) ?_
      refine k3_V hx hb hml hown hG cs_X4_83 (tx_plainBook_n l hst D cI cC ad ta z S N y hno4) (by decide) (pztV hK hE hT hZ (fun _ _ _ => rfl) rfl hW.rc hW) rfl hl.1 rfl (Nat.le_of_ble_eq_true rfl) dX4_copy_8 ⟨Nat.le_refl _, Nat.le_refl _⟩ (fun H1 q9 ce h1 h2 h3 h4 h5 => ?_)
      exact k3_out hnx hlocks h1 h2 h3 h4 h5
  · skip
    have e9 : (sp_copy S x y).1 = 1 := by simp [sp_copy, hbk]
    rw [e9]
    refine m_startX (by decide) (Nat.le_of_ble_eq_true rfl) ?_
    intro p e s m below meth c hx hb hr hG hown hlocks hml hnx hB ls hl
    have hl : lv_has ls 5 [(0, .ref (ad 0)), (1, .int (x)), (2, .int (y))] := hl
    obtain ⟨hW, hK, hE, hT, hZ⟩ := hB
    refine lv_aload_n hx hb dX4_copy_0 rfl (lv_at hl 0 rfl) ?_
    refine lv_iload_n hx hb dX4_copy_1 rfl (lv_at hl 1 rfl) ?_
    refine k3_V hx hb hml hown hG cs_X4_113 (tx_bookOfNumber l hst D cI cC ad ta z S N x hno4) (by decide) (pztV hK hE hT hZ (fun _ _ _ => rfl) rfl hW.rc hW) rfl hl.1 rfl (Nat.le_of_ble_eq_true rfl) dX4_copy_2 ⟨Nat.le_refl _, Nat.le_refl _⟩ (fun H1 q9 ce h1 h2 h3 h4 h5 => ?_)
    exact k3_out hnx hlocks h1 h2 h3 h4 h5
set_option maxHeartbeats 4000000 in
set_option maxRecDepth 100000 in
theorem xx_offer (l : Launch) (hst : l.stackTraces = false) (D : va_G) (cI cC : ClassId) (ad ta : Nat → Nat) (z : Nat) (S : St) (N : Nat) (x : Int32) (hI : Inv S) (hno : (sp_offer S x).1 ≠ 0) : vx_Met l yX4_offer (ws_ yX4_offer cX4_offer 3 (some .boolean)) (rmX 2) (va_Pc [.ref (ad 0), .int x] (pzt D [(cI, .int), (cC, .char)] ta z (fun H => Wc D cI cC ad S N H))) Nq (Xq (xn ["java/lang/IllegalStateException"] (sp_offer S x).1)) 1 6 (fun _ => False) := by
  cases hfu : full S 3 x with
  | true =>
    have e9 : (sp_offer S x).1 = 1 := by simp [sp_offer, hfu]
    rw [e9]
    refine m_startX (by decide) (Nat.le_of_ble_eq_true rfl) ?_
    intro p e s m below meth c hx hb hr hG hown hlocks hml hnx hB ls hl
    have hl : lv_has ls 3 [(0, .ref (ad 0)), (1, .int (x))] := hl
    obtain ⟨hW, hK, hE, hT, hZ⟩ := hB
    refine lv_aload_n hx hb dX4_offer_0 rfl (lv_at hl 0 rfl) ?_
    refine lv_aload_n hx hb dX4_offer_1 rfl (lv_at hl 0 rfl) ?_
    refine gf_X4_24 hx hb hG hown hK hW.x 0 rfl rfl dX4_offer_2 ?_
    refine lv_iload_n hx hb dX4_offer_5 rfl (lv_at hl 1 rfl) ?_
    refine k3_V hx hb hml hown hG cs_X4_75 (tx_requireRoomForKey l hst D cI cC ad ta z S N 3 x (by omega) hfu) (by decide) (pztV hK hE hT hZ (fun _ _ _ => rfl) rfl hW.rc hW) rfl hl.1 rfl (Nat.le_of_ble_eq_true rfl) dX4_offer_6 ⟨Nat.le_refl _, Nat.le_refl _⟩ (fun H1 q9 ce h1 h2 h3 h4 h5 => ?_)
    exact k3_out hnx hlocks h1 h2 h3 h4 h5
  | false =>
    exact absurd (by unfold sp_offer; rw [hfu]; cases fx (S.1 3) x <;> rfl) hno
set_option maxHeartbeats 4000000 in
set_option maxRecDepth 100000 in
theorem xx_poll (l : Launch) (hst : l.stackTraces = false) (D : va_G) (cI cC : ClassId) (ad ta : Nat → Nat) (z : Nat) (S : St) (N : Nat) (hI : Inv S) (hno : (sp_poll S).1 ≠ 0) : vx_Met l yX4_poll (ws_ yX4_poll cX4_poll 2 (some .int)) (rmX 2) (va_Pc [.ref (ad 0)] (pzt D [(cI, .int), (cC, .char)] ta z (fun H => Wc D cI cC ad S N H))) Nq (Xq (xn ["java/util/NoSuchElementException"] (sp_poll S).1)) 1 6 (fun _ => False) := by
  by_cases h0 : (S.1 3).length = 0
  · skip
    have e9 : (sp_poll S).1 = 1 := by unfold sp_poll; rw [if_pos h0]
    rw [e9]
    refine m_startX (by decide) (Nat.le_of_ble_eq_true rfl) ?_
    intro p e s m below meth c hx hb hr hG hown hlocks hml hnx hB ls hl
    have hl : lv_has ls 2 [(0, .ref (ad 0))] := hl
    obtain ⟨hW, hK, hE, hT, hZ⟩ := hB
    have hlen := (hI.1 3 (by omega)).2
    refine lv_aload_n hx hb dX4_poll_0 rfl (lv_at hl 0 rfl) ?_
    refine gf_X4_24 hx hb hG hown hK hW.x 0 rfl rfl dX4_poll_1 ?_
    refine gf_X4_57 hx hb hG hown hK (hW.bk (b := 3) (by omega)).1.obj 0 rfl rfl dX4_poll_4 ?_
    refine x_if_ne (tgt := 20) hx hb dX4_poll_7 (by decide) (by omega) (fun zc1 => False.elim (by first | omega | contradiction | exact absurd zc1 (m1_ne _ (by omega)) | exact absurd zc1 (by decide) | exact absurd (Eq.symm zc1) (m1_ne _ (by omega)) | (simp_all; done))) (fun zc1 => ?_)
    refine ns_new hx hb hst hown (by decide +kernel) (hG _ at_NS_l) (hG _ in_NoSuchElementException) (hT (130, "the queue is empty") (by decide)) (at_NS hG hE) at_NS_o hZ.1 hZ.2 va_S.rf (hl.1.trans hml.symm) dX4_poll_10 dX4_poll_13 dX4_poll_14 dX4_poll_16 (Nat.le_of_ble_eq_true rfl) (Nat.le_of_ble_eq_true rfl) (Nat.le_of_ble_eq_true rfl) (Nat.le_of_ble_eq_true rfl) (fun q9 H1 ce h1 h2 h3 h4 h5 => ?_)
    refine vx_athrow hx hb dX4_poll_19 ?_
    exact k3_out hnx hlocks h1 h2 h3 h4 h5
  · skip
    exact absurd (by unfold sp_poll; rw [if_neg h0]) hno
set_option maxHeartbeats 4000000 in
set_option maxRecDepth 100000 in
theorem xx_toEnd (l : Launch) (hst : l.stackTraces = false) (D : va_G) (cI cC : ClassId) (ad ta : Nat → Nat) (z : Nat) (S : St) (N : Nat) (x : Int32) (hI : Inv S) (hno : (sp_toEnd S x).1 ≠ 0) : vx_Met l yX4_toEnd (ws_ yX4_toEnd cX4_toEnd 4 (some .int)) (rmX 2) (va_Pc [.ref (ad 0), .int x] (pzt D [(cI, .int), (cC, .char)] ta z (fun H => Wc D cI cC ad S N H))) Nq (Xq (xn ["java/util/NoSuchElementException"] (sp_toEnd S x).1)) 1 6 (fun _ => False) := by
  cases hf : fx (S.1 3) x with
  | none =>
    have e9 : (sp_toEnd S x).1 = 1 := by simp [sp_toEnd, hf]
    rw [e9]
    refine m_startX (by decide) (Nat.le_of_ble_eq_true rfl) ?_
    intro p e s m below meth c hx hb hr hG hown hlocks hml hnx hB ls hl
    have hl : lv_has ls 4 [(0, .ref (ad 0)), (1, .int (x))] := hl
    obtain ⟨hW, hK, hE, hT, hZ⟩ := hB
    refine lv_aload_n hx hb dX4_toEnd_0 rfl (lv_at hl 0 rfl) ?_
    refine gf_X4_24 hx hb hG hown hK hW.x 0 rfl rfl dX4_toEnd_1 ?_
    refine lv_iload_n hx hb dX4_toEnd_4 rfl (lv_at hl 1 rfl) ?_
    refine k1_V hx hb hml hown hG cs_X4_86 (c_find_no l D cI (bk_ ad 3) (lgO 3) (bdO S 3) (S.1 3) x (hf)) (by decide) (pzV (hK.sub (tys' := [(cI, .int)]) [0] rfl) rfl (hW.bk (b := 3) (by omega)).1.rc (hW.bk (b := 3) (by omega)).1) rfl hl.1 rfl (Nat.le_of_ble_eq_true rfl) dX4_toEnd_5 ⟨Nat.zero_le _, Nat.zero_le _⟩ rfl ?_
    refine lv_istore_n (lv' := [(2, .int ((-1))), (0, .ref (ad 0)), (1, .int (x))]) hx hb dX4_toEnd_8 rfl hl (by decide) rfl (fun ls hl => ?_)
    refine lv_iload_n hx hb dX4_toEnd_9 rfl (lv_at hl 0 rfl) ?_
    refine lv_iconst (v := (-1)) hx hb dX4_toEnd_10 (by decide) ?_
    refine lv_icmp_ne (tgt := 24) hx hb dX4_toEnd_11 (by decide) (fun zc1 => False.elim (by first | exact absurd zc1 (by decide) | omega | (simp_all; done))) (fun zc1 => ?_)
    refine ns_new hx hb hst hown (by decide +kernel) (hG _ at_NS_l) (hG _ in_NoSuchElementException) (hT (135, "not in the queue") (by decide)) (at_NS hG hE) at_NS_o hZ.1 hZ.2 va_S.rf (hl.1.trans hml.symm) dX4_toEnd_14 dX4_toEnd_17 dX4_toEnd_18 dX4_toEnd_20 (Nat.le_of_ble_eq_true rfl) (Nat.le_of_ble_eq_true rfl) (Nat.le_of_ble_eq_true rfl) (Nat.le_of_ble_eq_true rfl) (fun q9 H1 ce h1 h2 h3 h4 h5 => ?_)
    refine vx_athrow hx hb dX4_toEnd_23 ?_
    exact k3_out hnx hlocks h1 h2 h3 h4 h5
  | some i =>
    exact absurd (by simp [sp_toEnd, hf]) hno
set_option maxHeartbeats 4000000 in
set_option maxRecDepth 100000 in
theorem xx_hasNext (l : Launch) (hst : l.stackTraces = false) (D : va_G) (cI cC : ClassId) (ad ta : Nat → Nat) (z : Nat) (S : St) (N : Nat) (x : Int32) (hI : Inv S) (hno : (sp_hasNext S x).1 ≠ 0) : vx_Met l yX4_hasNext (ws_ yX4_hasNext cX4_hasNext 3 (some .boolean)) (rmX 2) (va_Pc [.ref (ad 0), .int x] (pzt D [(cI, .int), (cC, .char)] ta z (fun H => Wc D cI cC ad S N H))) Nq (Xq (xn ["java/lang/IndexOutOfBoundsException", "java/lang/IllegalStateException"] (sp_hasNext S x).1)) 1 6 (fun _ => False) := by
  rcases bkn_cases 3 (by decide) x with ⟨cu, hc3, rfl, hbk⟩ | ⟨hbk, hno4⟩
  · skip
    have hCu0 := hI.2.2.2.2.1 cu hc3
    cases hC : S.2.2.1 cu with
    | none =>
      have e9 : (sp_hasNext S (nI (cu))).1 = 2 := by simp [sp_hasNext, hbk, hC]
      rw [e9]
      refine m_startX (by decide) (Nat.le_of_ble_eq_true rfl) ?_
      intro p e s m below meth c hx hb hr hG hown hlocks hml hnx hB ls hl
      have hl : lv_has ls 3 [(0, .ref (ad 0)), (1, .int (nI (cu)))] := hl
      obtain ⟨hW, hK, hE, hT, hZ⟩ := hB
      refine lv_aload_n hx hb dX4_hasNext_0 rfl (lv_at hl 0 rfl) ?_
      refine lv_iload_n hx hb dX4_hasNext_1 rfl (lv_at hl 1 rfl) ?_
      refine k3_V hx hb hml hown hG cs_X4_147 (tx_openCursor_c l hst D cI cC ad ta z S N cu hc3 hC) (by decide) (pztV hK hE hT hZ (fun _ _ _ => rfl) rfl hW.rc hW) rfl hl.1 rfl (Nat.le_of_ble_eq_true rfl) dX4_hasNext_2 ⟨Nat.le_refl _, Nat.le_refl _⟩ (fun H1 q9 ce h1 h2 h3 h4 h5 => ?_)
      exact k3_out hnx hlocks h1 h2 h3 h4 h5
    | some x9 =>
      obtain ⟨b, k, n, t⟩ := x9
      rw [hC] at hCu0
      obtain ⟨hb4, hk3, hnl, ht1⟩ := hCu0
      have hN2 := hI.1 b hb4
      exact absurd (by simp [sp_hasNext, hbk, hC]) hno
  · skip
    have e9 : (sp_hasNext S x).1 = 1 := by simp [sp_hasNext, hbk]
    rw [e9]
    refine m_startX (by decide) (Nat.le_of_ble_eq_true rfl) ?_
    intro p e s m below meth c hx hb hr hG hown hlocks hml hnx hB ls hl
    have hl : lv_has ls 3 [(0, .ref (ad 0)), (1, .int (x))] := hl
    obtain ⟨hW, hK, hE, hT, hZ⟩ := hB
    refine lv_aload_n hx hb dX4_hasNext_0 rfl (lv_at hl 0 rfl) ?_
    refine lv_iload_n hx hb dX4_hasNext_1 rfl (lv_at hl 1 rfl) ?_
    refine k3_V hx hb hml hown hG cs_X4_147 (tx_openCursor_n l hst D cI cC ad ta z S N x hno4) (by decide) (pztV hK hE hT hZ (fun _ _ _ => rfl) rfl hW.rc hW) rfl hl.1 rfl (Nat.le_of_ble_eq_true rfl) dX4_hasNext_2 ⟨Nat.le_refl _, Nat.le_refl _⟩ (fun H1 q9 ce h1 h2 h3 h4 h5 => ?_)
    exact k3_out hnx hlocks h1 h2 h3 h4 h5
set_option maxHeartbeats 4000000 in
set_option maxRecDepth 100000 in
theorem xx_next (l : Launch) (hst : l.stackTraces = false) (D : va_G) (cI cC : ClassId) (ad ta : Nat → Nat) (z : Nat) (S : St) (N : Nat) (x : Int32) (hI : Inv S) (hno : (sp_next S x).1 ≠ 0) : vx_Met l yX4_next (ws_ yX4_next cX4_next 5 (some .int)) (rmX 2) (va_Pc [.ref (ad 0), .int x] (pzt D [(cI, .int), (cC, .char)] ta z (fun H => Wc D cI cC ad S N H))) Nq (Xq (xn ["java/lang/IndexOutOfBoundsException", "java/lang/IllegalStateException", "java/util/NoSuchElementException"] (sp_next S x).1)) 1 6 (fun _ => False) := by
  rcases bkn_cases 3 (by decide) x with ⟨cu, hc3, rfl, hbk⟩ | ⟨hbk, hno4⟩
  · skip
    have hCu0 := hI.2.2.2.2.1 cu hc3
    cases hC : S.2.2.1 cu with
    | none =>
      have e9 : (sp_next S (nI (cu))).1 = 2 := by simp [sp_next, hbk, hC]
      rw [e9]
      refine m_startX (by decide) (Nat.le_of_ble_eq_true rfl) ?_
      intro p e s m below meth c hx hb hr hG hown hlocks hml hnx hB ls hl
      have hl : lv_has ls 5 [(0, .ref (ad 0)), (1, .int (nI (cu)))] := hl
      obtain ⟨hW, hK, hE, hT, hZ⟩ := hB
      refine lv_aload_n hx hb dX4_next_0 rfl (lv_at hl 0 rfl) ?_
      refine lv_iload_n hx hb dX4_next_1 rfl (lv_at hl 1 rfl) ?_
      refine k3_V hx hb hml hown hG cs_X4_147 (tx_openCursor_c l hst D cI cC ad ta z S N cu hc3 hC) (by decide) (pztV hK hE hT hZ (fun _ _ _ => rfl) rfl hW.rc hW) rfl hl.1 rfl (Nat.le_of_ble_eq_true rfl) dX4_next_2 ⟨Nat.le_refl _, Nat.le_refl _⟩ (fun H1 q9 ce h1 h2 h3 h4 h5 => ?_)
      exact k3_out hnx hlocks h1 h2 h3 h4 h5
    | some x9 =>
      obtain ⟨b, k, n, t⟩ := x9
      rw [hC] at hCu0
      obtain ⟨hb4, hk3, hnl, ht1⟩ := hCu0
      have hN2 := hI.1 b hb4
      by_cases hn0 : n < (S.1 b).length
      · skip
        exact absurd (by simp [sp_next, hbk, hC, hn0]) hno
      · skip
        have e9 : (sp_next S (nI (cu))).1 = 3 := by simp [sp_next, hbk, hC, hn0]
        rw [e9]
        refine m_startX (by decide) (Nat.le_of_ble_eq_true rfl) ?_
        intro p e s m below meth c hx hb hr hG hown hlocks hml hnx hB ls hl
        have hl : lv_has ls 5 [(0, .ref (ad 0)), (1, .int (nI (cu)))] := hl
        obtain ⟨hW, hK, hE, hT, hZ⟩ := hB
        have hCu : CuRaw D (ad (31 + cu)) (nI b) (nI k) (nI n) (bI t) s.heap := by have h := hW.cu (c := cu) (by omega); rw [hC] at h; exact h
        refine lv_aload_n hx hb dX4_next_0 rfl (lv_at hl 0 rfl) ?_
        refine lv_iload_n hx hb dX4_next_1 rfl (lv_at hl 1 rfl) ?_
        refine k1_V hx hb hml hown hG cs_X4_147 (k_openCursor l D cI cC ad S N cu b k n t hc3 hC hb4) (by decide) (pzV hK rfl hW.rc hW) rfl hl.1 rfl (Nat.le_of_ble_eq_true rfl) dX4_next_2 ⟨Nat.zero_le _, Nat.zero_le _⟩ rfl ?_
        refine lv_astore_n (lv' := [(2, .ref (ad (31 + cu))), (0, .ref (ad 0)), (1, .int (nI (cu)))]) hx hb dX4_next_5 rfl hl (by decide) rfl (fun ls hl => ?_)
        refine lv_aload_n hx hb dX4_next_6 rfl (lv_at hl 1 rfl) ?_
        refine lv_aload_n hx hb dX4_next_7 rfl (lv_at hl 0 rfl) ?_
        refine gf_X4_153 hx hb hG hown hK hCu 0 rfl rfl dX4_next_8 ?_
        refine k1_V hx hb hml hown hG cs_X4_113 (k_bookOfNumber l D cI cC ad S N b (by omega)) (by decide) (pzV hK rfl hW.rc hW) rfl hl.1 rfl (Nat.le_of_ble_eq_true rfl) dX4_next_11 ⟨Nat.zero_le _, Nat.zero_le _⟩ rfl ?_
        refine lv_astore_n (lv' := [(3, .ref ((bk_ ad b) 0)), (2, .ref (ad (31 + cu))), (0, .ref (ad 0)), (1, .int (nI (cu)))]) hx hb dX4_next_14 rfl hl (by decide) rfl (fun ls hl => ?_)
        refine lv_aload_n hx hb dX4_next_15 rfl (lv_at hl 1 rfl) ?_
        refine gf_X4_150 hx hb hG hown hK hCu 0 rfl rfl dX4_next_16 ?_
        refine lv_istore (lv' := [(4, .int (nI (n))), (3, .ref ((bk_ ad b) 0)), (2, .ref (ad (31 + cu))), (0, .ref (ad 0)), (1, .int (nI (cu)))]) hx hb dX4_next_19 hl (by decide) rfl (fun ls hl => ?_)
        refine lv_iload hx hb dX4_next_21 (lv_at hl 0 rfl) ?_
        refine lv_aload_n hx hb dX4_next_23 rfl (lv_at hl 1 rfl) ?_
        refine gf_X4_57 hx hb hG hown hK (hW.bk (b := b) (by omega)).1.obj 0 rfl rfl dX4_next_24 ?_
        refine x_cmp_lt (tgt := 40) hx hb dX4_next_27 (by decide) (by omega) (by omega) (fun zc1 => False.elim (by first | omega | contradiction | exact absurd zc1 (m1_ne _ (by omega)) | exact absurd zc1 (by decide) | exact absurd (Eq.symm zc1) (m1_ne _ (by omega)) | (simp_all; done))) (fun zc1 => ?_)
        refine ns_new hx hb hst hown (by decide +kernel) (hG _ at_NS_l) (hG _ in_NoSuchElementException) (hT (156, "no next one") (by decide)) (at_NS hG hE) at_NS_o hZ.1 hZ.2 va_S.rf (hl.1.trans hml.symm) dX4_next_30 dX4_next_33 dX4_next_34 dX4_next_36 (Nat.le_of_ble_eq_true rfl) (Nat.le_of_ble_eq_true rfl) (Nat.le_of_ble_eq_true rfl) (Nat.le_of_ble_eq_true rfl) (fun q9 H1 ce h1 h2 h3 h4 h5 => ?_)
        refine vx_athrow hx hb dX4_next_39 ?_
        exact k3_out hnx hlocks h1 h2 h3 h4 h5
  · skip
    have e9 : (sp_next S x).1 = 1 := by simp [sp_next, hbk]
    rw [e9]
    refine m_startX (by decide) (Nat.le_of_ble_eq_true rfl) ?_
    intro p e s m below meth c hx hb hr hG hown hlocks hml hnx hB ls hl
    have hl : lv_has ls 5 [(0, .ref (ad 0)), (1, .int (x))] := hl
    obtain ⟨hW, hK, hE, hT, hZ⟩ := hB
    refine lv_aload_n hx hb dX4_next_0 rfl (lv_at hl 0 rfl) ?_
    refine lv_iload_n hx hb dX4_next_1 rfl (lv_at hl 1 rfl) ?_
    refine k3_V hx hb hml hown hG cs_X4_147 (tx_openCursor_n l hst D cI cC ad ta z S N x hno4) (by decide) (pztV hK hE hT hZ (fun _ _ _ => rfl) rfl hW.rc hW) rfl hl.1 rfl (Nat.le_of_ble_eq_true rfl) dX4_next_2 ⟨Nat.le_refl _, Nat.le_refl _⟩ (fun H1 q9 ce h1 h2 h3 h4 h5 => ?_)
    exact k3_out hnx hlocks h1 h2 h3 h4 h5
set_option maxHeartbeats 4000000 in
set_option maxRecDepth 100000 in
theorem xx_removeAt (l : Launch) (hst : l.stackTraces = false) (D : va_G) (cI cC : ClassId) (ad ta : Nat → Nat) (z : Nat) (S : St) (N : Nat) (x : Int32) (hI : Inv S) (hno : (sp_removeAt S x).1 ≠ 0) : vx_Met l yX4_removeAt (ws_ yX4_removeAt cX4_removeAt 4 (some .int)) (rmX 2) (va_Pc [.ref (ad 0), .int x] (pzt D [(cI, .int), (cC, .char)] ta z (fun H => Wc D cI cC ad S N H))) Nq (Xq (xn ["java/lang/IndexOutOfBoundsException", "java/lang/IllegalStateException"] (sp_removeAt S x).1)) 1 6 (fun _ => False) := by
  rcases bkn_cases 3 (by decide) x with ⟨cu, hc3, rfl, hbk⟩ | ⟨hbk, hno4⟩
  · skip
    have hCu0 := hI.2.2.2.2.1 cu hc3
    cases hC : S.2.2.1 cu with
    | none =>
      have e9 : (sp_removeAt S (nI (cu))).1 = 2 := by simp [sp_removeAt, hbk, hC]
      rw [e9]
      refine m_startX (by decide) (Nat.le_of_ble_eq_true rfl) ?_
      intro p e s m below meth c hx hb hr hG hown hlocks hml hnx hB ls hl
      have hl : lv_has ls 4 [(0, .ref (ad 0)), (1, .int (nI (cu)))] := hl
      obtain ⟨hW, hK, hE, hT, hZ⟩ := hB
      refine lv_aload_n hx hb dX4_removeAt_0 rfl (lv_at hl 0 rfl) ?_
      refine lv_iload_n hx hb dX4_removeAt_1 rfl (lv_at hl 1 rfl) ?_
      refine k1_V hx hb hml hown hG cs_X4_137 (k_cursorOfNumber l D cI cC ad S N cu (by omega)) (by decide) (pzV hK rfl hW.rc hW) rfl hl.1 rfl (Nat.le_of_ble_eq_true rfl) dX4_removeAt_2 ⟨Nat.zero_le _, Nat.zero_le _⟩ rfl ?_
      refine lv_astore_n (lv' := [(2, .ref (ad (31 + cu))), (0, .ref (ad 0)), (1, .int (nI (cu)))]) hx hb dX4_removeAt_5 rfl hl (by decide) rfl (fun ls hl => ?_)
      refine lv_aload_n hx hb dX4_removeAt_6 rfl (lv_at hl 1 rfl) ?_
      refine lv_aload_n hx hb dX4_removeAt_7 rfl (lv_at hl 0 rfl) ?_
      refine k3_V hx hb hml hown hG cs_X4_164 (tx_requireChangeablePair_c l hst D cI cC ad ta z S N cu hc3 hC) (by decide) (pztV hK hE hT hZ (fun _ _ _ => rfl) rfl hW.rc hW) rfl hl.1 rfl (Nat.le_of_ble_eq_true rfl) dX4_removeAt_8 ⟨Nat.le_refl _, Nat.le_refl _⟩ (fun H1 q9 ce h1 h2 h3 h4 h5 => ?_)
      exact k3_out hnx hlocks h1 h2 h3 h4 h5
    | some x9 =>
      obtain ⟨b, k, n, t⟩ := x9
      rw [hC] at hCu0
      obtain ⟨hb4, hk3, hnl, ht1⟩ := hCu0
      have hN2 := hI.1 b hb4
      by_cases h3 : b = 3
      · skip
        subst h3
        have e9 : (sp_removeAt S (nI (cu))).1 = 2 := by simp [sp_removeAt, hbk, hC]
        rw [e9]
        refine m_startX (by decide) (Nat.le_of_ble_eq_true rfl) ?_
        intro p e s m below meth c hx hb hr hG hown hlocks hml hnx hB ls hl
        have hl : lv_has ls 4 [(0, .ref (ad 0)), (1, .int (nI (cu)))] := hl
        obtain ⟨hW, hK, hE, hT, hZ⟩ := hB
        refine lv_aload_n hx hb dX4_removeAt_0 rfl (lv_at hl 0 rfl) ?_
        refine lv_iload_n hx hb dX4_removeAt_1 rfl (lv_at hl 1 rfl) ?_
        refine k1_V hx hb hml hown hG cs_X4_137 (k_cursorOfNumber l D cI cC ad S N cu (by omega)) (by decide) (pzV hK rfl hW.rc hW) rfl hl.1 rfl (Nat.le_of_ble_eq_true rfl) dX4_removeAt_2 ⟨Nat.zero_le _, Nat.zero_le _⟩ rfl ?_
        refine lv_astore_n (lv' := [(2, .ref (ad (31 + cu))), (0, .ref (ad 0)), (1, .int (nI (cu)))]) hx hb dX4_removeAt_5 rfl hl (by decide) rfl (fun ls hl => ?_)
        refine lv_aload_n hx hb dX4_removeAt_6 rfl (lv_at hl 1 rfl) ?_
        refine lv_aload_n hx hb dX4_removeAt_7 rfl (lv_at hl 0 rfl) ?_
        refine k3_V hx hb hml hown hG cs_X4_164 (tx_requireChangeablePair_q l hst D cI cC ad ta z S N cu k n t hc3 hC) (by decide) (pztV hK hE hT hZ (fun _ _ _ => rfl) rfl hW.rc hW) rfl hl.1 rfl (Nat.le_of_ble_eq_true rfl) dX4_removeAt_8 ⟨Nat.le_refl _, Nat.le_refl _⟩ (fun H1 q9 ce h1 h2 h3 h4 h5 => ?_)
        exact k3_out hnx hlocks h1 h2 h3 h4 h5
      · skip
        cases t with
        | false =>
          have e9 : (sp_removeAt S (nI (cu))).1 = 2 := by simp [sp_removeAt, hbk, hC]
          rw [e9]
          refine m_startX (by decide) (Nat.le_of_ble_eq_true rfl) ?_
          intro p e s m below meth c hx hb hr hG hown hlocks hml hnx hB ls hl
          have hl : lv_has ls 4 [(0, .ref (ad 0)), (1, .int (nI (cu)))] := hl
          obtain ⟨hW, hK, hE, hT, hZ⟩ := hB
          refine lv_aload_n hx hb dX4_removeAt_0 rfl (lv_at hl 0 rfl) ?_
          refine lv_iload_n hx hb dX4_removeAt_1 rfl (lv_at hl 1 rfl) ?_
          refine k1_V hx hb hml hown hG cs_X4_137 (k_cursorOfNumber l D cI cC ad S N cu (by omega)) (by decide) (pzV hK rfl hW.rc hW) rfl hl.1 rfl (Nat.le_of_ble_eq_true rfl) dX4_removeAt_2 ⟨Nat.zero_le _, Nat.zero_le _⟩ rfl ?_
          refine lv_astore_n (lv' := [(2, .ref (ad (31 + cu))), (0, .ref (ad 0)), (1, .int (nI (cu)))]) hx hb dX4_removeAt_5 rfl hl (by decide) rfl (fun ls hl => ?_)
          refine lv_aload_n hx hb dX4_removeAt_6 rfl (lv_at hl 1 rfl) ?_
          refine lv_aload_n hx hb dX4_removeAt_7 rfl (lv_at hl 0 rfl) ?_
          refine k3_V hx hb hml hown hG cs_X4_164 (tx_requireChangeablePair_p l hst D cI cC ad ta z S N cu b k n hc3 hC hb4 h3) (by decide) (pztV hK hE hT hZ (fun _ _ _ => rfl) rfl hW.rc hW) rfl hl.1 rfl (Nat.le_of_ble_eq_true rfl) dX4_removeAt_8 ⟨Nat.le_refl _, Nat.le_refl _⟩ (fun H1 q9 ce h1 h2 h3 h4 h5 => ?_)
          exact k3_out hnx hlocks h1 h2 h3 h4 h5
        | true =>
          exact absurd (by simp [sp_removeAt, hbk, hC, h3]) hno
  · skip
    have e9 : (sp_removeAt S x).1 = 1 := by simp [sp_removeAt, hbk]
    rw [e9]
    refine m_startX (by decide) (Nat.le_of_ble_eq_true rfl) ?_
    intro p e s m below meth c hx hb hr hG hown hlocks hml hnx hB ls hl
    have hl : lv_has ls 4 [(0, .ref (ad 0)), (1, .int (x))] := hl
    obtain ⟨hW, hK, hE, hT, hZ⟩ := hB
    refine lv_aload_n hx hb dX4_removeAt_0 rfl (lv_at hl 0 rfl) ?_
    refine lv_iload_n hx hb dX4_removeAt_1 rfl (lv_at hl 1 rfl) ?_
    refine k3_V hx hb hml hown hG cs_X4_137 (tx_cursorOfNumber l hst D cI cC ad ta z S N x hno4) (by decide) (pztV hK hE hT hZ (fun _ _ _ => rfl) rfl hW.rc hW) rfl hl.1 rfl (Nat.le_of_ble_eq_true rfl) dX4_removeAt_2 ⟨Nat.le_refl _, Nat.le_refl _⟩ (fun H1 q9 ce h1 h2 h3 h4 h5 => ?_)
    exact k3_out hnx hlocks h1 h2 h3 h4 h5
set_option maxHeartbeats 4000000 in
set_option maxRecDepth 100000 in
theorem xx_setAt (l : Launch) (hst : l.stackTraces = false) (D : va_G) (cI cC : ClassId) (ad ta : Nat → Nat) (z : Nat) (S : St) (N : Nat) (x v : Int32) (hI : Inv S) (hno : (sp_setAt S x v).1 ≠ 0) : vx_Met l yX4_setAt (ws_ yX4_setAt cX4_setAt 6 (some .int)) (rmX 2) (va_Pc [.ref (ad 0), .int x, .int v] (pzt D [(cI, .int), (cC, .char)] ta z (fun H => Wc D cI cC ad S N H))) Nq (Xq (xn ["java/lang/IndexOutOfBoundsException", "java/lang/IllegalArgumentException", "java/lang/IllegalStateException"] (sp_setAt S x v).1)) 1 6 (fun _ => False) := by
  rcases bkn_cases 3 (by decide) x with ⟨cu, hc3, rfl, hbk⟩ | ⟨hbk, hno4⟩
  · skip
    have hCu0 := hI.2.2.2.2.1 cu hc3
    cases hC : S.2.2.1 cu with
    | none =>
      have e9 : (sp_setAt S (nI (cu)) v).1 = 3 := by simp [sp_setAt, hbk, hC]
      rw [e9]
      refine m_startX (by decide) (Nat.le_of_ble_eq_true rfl) ?_
      intro p e s m below meth c hx hb hr hG hown hlocks hml hnx hB ls hl
      have hl : lv_has ls 6 [(0, .ref (ad 0)), (1, .int (nI (cu))), (2, .int (v))] := hl
      obtain ⟨hW, hK, hE, hT, hZ⟩ := hB
      have hCu := hW.cu (c := cu) (by omega)
      rw [hC] at hCu
      obtain ⟨x1, y1, z1, hCu⟩ := hCu
      refine lv_aload_n hx hb dX4_setAt_0 rfl (lv_at hl 0 rfl) ?_
      refine lv_iload_n hx hb dX4_setAt_1 rfl (lv_at hl 1 rfl) ?_
      refine k1_V hx hb hml hown hG cs_X4_137 (k_cursorOfNumber l D cI cC ad S N cu (by omega)) (by decide) (pzV hK rfl hW.rc hW) rfl hl.1 rfl (Nat.le_of_ble_eq_true rfl) dX4_setAt_2 ⟨Nat.zero_le _, Nat.zero_le _⟩ rfl ?_
      refine lv_astore_n (lv' := [(3, .ref (ad (31 + cu))), (0, .ref (ad 0)), (1, .int (nI (cu))), (2, .int (v))]) hx hb dX4_setAt_5 rfl hl (by decide) rfl (fun ls hl => ?_)
      refine lv_aload_n hx hb dX4_setAt_6 rfl (lv_at hl 0 rfl) ?_
      refine gf_X4_153 hx hb hG hown hK hCu 0 rfl rfl dX4_setAt_7 ?_
      refine lv_iconst (v := (-1)) hx hb dX4_setAt_10 (by decide) ?_
      refine lv_icmp_eq (tgt := 32) hx hb dX4_setAt_11 (by decide) (fun zc1 => ?_) (fun zc1 => False.elim (by first | exact absurd zc1 (by decide) | omega | (simp_all; done)))
      refine lv_aload_n hx hb dX4_setAt_32 rfl (lv_at hl 1 rfl) ?_
      refine lv_aload_n hx hb dX4_setAt_33 rfl (lv_at hl 0 rfl) ?_
      refine k3_V hx hb hml hown hG cs_X4_164 (tx_requireChangeablePair_c l hst D cI cC ad ta z S N cu hc3 hC) (by decide) (pztV hK hE hT hZ (fun _ _ _ => rfl) rfl hW.rc hW) rfl hl.1 rfl (Nat.le_of_ble_eq_true rfl) dX4_setAt_34 ⟨Nat.le_refl _, Nat.le_refl _⟩ (fun H1 q9 ce h1 h2 h3 h4 h5 => ?_)
      exact k3_out hnx hlocks h1 h2 h3 h4 h5
    | some x9 =>
      obtain ⟨b, k, n, t⟩ := x9
      rw [hC] at hCu0
      obtain ⟨hb4, hk3, hnl, ht1⟩ := hCu0
      have hN2 := hI.1 b hb4
      by_cases hk2 : k = 2
      · skip
        by_cases h3 : b = 3
        · skip
          subst h3
          have e9 : (sp_setAt S (nI (cu)) v).1 = 3 := by simp [sp_setAt, hbk, hC, hk2]
          rw [e9]
          refine m_startX (by decide) (Nat.le_of_ble_eq_true rfl) ?_
          intro p e s m below meth c hx hb hr hG hown hlocks hml hnx hB ls hl
          have hl : lv_has ls 6 [(0, .ref (ad 0)), (1, .int (nI (cu))), (2, .int (v))] := hl
          obtain ⟨hW, hK, hE, hT, hZ⟩ := hB
          have hCu : CuRaw D (ad (31 + cu)) (nI 3) (nI k) (nI n) (bI t) s.heap := by have h := hW.cu (c := cu) (by omega); rw [hC] at h; exact h
          refine lv_aload_n hx hb dX4_setAt_0 rfl (lv_at hl 0 rfl) ?_
          refine lv_iload_n hx hb dX4_setAt_1 rfl (lv_at hl 1 rfl) ?_
          refine k1_V hx hb hml hown hG cs_X4_137 (k_cursorOfNumber l D cI cC ad S N cu (by omega)) (by decide) (pzV hK rfl hW.rc hW) rfl hl.1 rfl (Nat.le_of_ble_eq_true rfl) dX4_setAt_2 ⟨Nat.zero_le _, Nat.zero_le _⟩ rfl ?_
          refine lv_astore_n (lv' := [(3, .ref (ad (31 + cu))), (0, .ref (ad 0)), (1, .int (nI (cu))), (2, .int (v))]) hx hb dX4_setAt_5 rfl hl (by decide) rfl (fun ls hl => ?_)
          refine lv_aload_n hx hb dX4_setAt_6 rfl (lv_at hl 0 rfl) ?_
          refine gf_X4_153 hx hb hG hown hK hCu 0 rfl rfl dX4_setAt_7 ?_
          refine lv_iconst (v := (-1)) hx hb dX4_setAt_10 (by decide) ?_
          refine lv_icmp_eq (tgt := 32) hx hb dX4_setAt_11 (by decide) (fun zc1 => False.elim (by first | exact absurd zc1 (by decide) | omega | (simp_all; done))) (fun zc1 => ?_)
          refine lv_aload_n hx hb dX4_setAt_14 rfl (lv_at hl 0 rfl) ?_
          refine gf_X4_161 hx hb hG hown hK hCu 0 rfl rfl dX4_setAt_15 ?_
          refine lv_iconst (v := nI 2) hx hb dX4_setAt_18 (by decide) ?_
          refine x_cmp_eq (tgt := 32) hx hb dX4_setAt_19 (by decide) (by omega) (by omega) (fun zc2 => ?_) (fun zc2 => False.elim (by first | omega | contradiction | exact absurd zc2 (m1_ne _ (by omega)) | exact absurd zc2 (by decide) | exact absurd (Eq.symm zc2) (m1_ne _ (by omega)) | (simp_all; done)))
          refine lv_aload_n hx hb dX4_setAt_32 rfl (lv_at hl 1 rfl) ?_
          refine lv_aload_n hx hb dX4_setAt_33 rfl (lv_at hl 0 rfl) ?_
          refine k3_V hx hb hml hown hG cs_X4_164 (tx_requireChangeablePair_q l hst D cI cC ad ta z S N cu k n t hc3 hC) (by decide) (pztV hK hE hT hZ (fun _ _ _ => rfl) rfl hW.rc hW) rfl hl.1 rfl (Nat.le_of_ble_eq_true rfl) dX4_setAt_34 ⟨Nat.le_refl _, Nat.le_refl _⟩ (fun H1 q9 ce h1 h2 h3 h4 h5 => ?_)
          exact k3_out hnx hlocks h1 h2 h3 h4 h5
        · skip
          cases t with
          | false =>
            have e9 : (sp_setAt S (nI (cu)) v).1 = 3 := by simp [sp_setAt, hbk, hC, hk2]
            rw [e9]
            refine m_startX (by decide) (Nat.le_of_ble_eq_true rfl) ?_
            intro p e s m below meth c hx hb hr hG hown hlocks hml hnx hB ls hl
            have hl : lv_has ls 6 [(0, .ref (ad 0)), (1, .int (nI (cu))), (2, .int (v))] := hl
            obtain ⟨hW, hK, hE, hT, hZ⟩ := hB
            have hCu : CuRaw D (ad (31 + cu)) (nI b) (nI k) (nI n) (bI false) s.heap := by have h := hW.cu (c := cu) (by omega); rw [hC] at h; exact h
            refine lv_aload_n hx hb dX4_setAt_0 rfl (lv_at hl 0 rfl) ?_
            refine lv_iload_n hx hb dX4_setAt_1 rfl (lv_at hl 1 rfl) ?_
            refine k1_V hx hb hml hown hG cs_X4_137 (k_cursorOfNumber l D cI cC ad S N cu (by omega)) (by decide) (pzV hK rfl hW.rc hW) rfl hl.1 rfl (Nat.le_of_ble_eq_true rfl) dX4_setAt_2 ⟨Nat.zero_le _, Nat.zero_le _⟩ rfl ?_
            refine lv_astore_n (lv' := [(3, .ref (ad (31 + cu))), (0, .ref (ad 0)), (1, .int (nI (cu))), (2, .int (v))]) hx hb dX4_setAt_5 rfl hl (by decide) rfl (fun ls hl => ?_)
            refine lv_aload_n hx hb dX4_setAt_6 rfl (lv_at hl 0 rfl) ?_
            refine gf_X4_153 hx hb hG hown hK hCu 0 rfl rfl dX4_setAt_7 ?_
            refine lv_iconst (v := (-1)) hx hb dX4_setAt_10 (by decide) ?_
            refine lv_icmp_eq (tgt := 32) hx hb dX4_setAt_11 (by decide) (fun zc1 => False.elim (by first | omega | contradiction | exact absurd zc1 (m1_ne _ (by omega)) | exact absurd zc1 (by decide) | exact absurd (Eq.symm zc1) (m1_ne _ (by omega)) | (simp_all; done))) (fun zc1 => ?_)
            refine lv_aload_n hx hb dX4_setAt_14 rfl (lv_at hl 0 rfl) ?_
            refine gf_X4_161 hx hb hG hown hK hCu 0 rfl rfl dX4_setAt_15 ?_
            refine lv_iconst (v := nI 2) hx hb dX4_setAt_18 (by decide) ?_
            refine x_cmp_eq (tgt := 32) hx hb dX4_setAt_19 (by decide) (by omega) (by omega) (fun zc2 => ?_) (fun zc2 => False.elim (by first | omega | contradiction | exact absurd zc2 (m1_ne _ (by omega)) | exact absurd zc2 (by decide) | exact absurd (Eq.symm zc2) (m1_ne _ (by omega)) | (simp_all; done)))
            refine lv_aload_n hx hb dX4_setAt_32 rfl (lv_at hl 1 rfl) ?_
            refine lv_aload_n hx hb dX4_setAt_33 rfl (lv_at hl 0 rfl) ?_
            refine k3_V hx hb hml hown hG cs_X4_164 (tx_requireChangeablePair_p l hst D cI cC ad ta z S N cu b k n hc3 hC hb4 h3) (by decide) (pztV hK hE hT hZ (fun _ _ _ => rfl) rfl hW.rc hW) rfl hl.1 rfl (Nat.le_of_ble_eq_true rfl) dX4_setAt_34 ⟨Nat.le_refl _, Nat.le_refl _⟩ (fun H1 q9 ce h1 h2 h3 h4 h5 => ?_)
            exact k3_out hnx hlocks h1 h2 h3 h4 h5
          | true =>
            exact absurd (by simp [sp_setAt, hbk, hC, hk2, h3]) hno
      · skip
        have e9 : (sp_setAt S (nI (cu)) v).1 = 2 := by simp [sp_setAt, hbk, hC, hk2]
        rw [e9]
        refine m_startX (by decide) (Nat.le_of_ble_eq_true rfl) ?_
        intro p e s m below meth c hx hb hr hG hown hlocks hml hnx hB ls hl
        have hl : lv_has ls 6 [(0, .ref (ad 0)), (1, .int (nI (cu))), (2, .int (v))] := hl
        obtain ⟨hW, hK, hE, hT, hZ⟩ := hB
        have hCu : CuRaw D (ad (31 + cu)) (nI b) (nI k) (nI n) (bI t) s.heap := by have h := hW.cu (c := cu) (by omega); rw [hC] at h; exact h
        refine lv_aload_n hx hb dX4_setAt_0 rfl (lv_at hl 0 rfl) ?_
        refine lv_iload_n hx hb dX4_setAt_1 rfl (lv_at hl 1 rfl) ?_
        refine k1_V hx hb hml hown hG cs_X4_137 (k_cursorOfNumber l D cI cC ad S N cu (by omega)) (by decide) (pzV hK rfl hW.rc hW) rfl hl.1 rfl (Nat.le_of_ble_eq_true rfl) dX4_setAt_2 ⟨Nat.zero_le _, Nat.zero_le _⟩ rfl ?_
        refine lv_astore_n (lv' := [(3, .ref (ad (31 + cu))), (0, .ref (ad 0)), (1, .int (nI (cu))), (2, .int (v))]) hx hb dX4_setAt_5 rfl hl (by decide) rfl (fun ls hl => ?_)
        refine lv_aload_n hx hb dX4_setAt_6 rfl (lv_at hl 0 rfl) ?_
        refine gf_X4_153 hx hb hG hown hK hCu 0 rfl rfl dX4_setAt_7 ?_
        refine lv_iconst (v := (-1)) hx hb dX4_setAt_10 (by decide) ?_
        refine lv_icmp_eq (tgt := 32) hx hb dX4_setAt_11 (by decide) (fun zc1 => False.elim (by first | omega | contradiction | exact absurd zc1 (m1_ne _ (by omega)) | exact absurd zc1 (by decide) | exact absurd (Eq.symm zc1) (m1_ne _ (by omega)) | (simp_all; done))) (fun zc1 => ?_)
        refine lv_aload_n hx hb dX4_setAt_14 rfl (lv_at hl 0 rfl) ?_
        refine gf_X4_161 hx hb hG hown hK hCu 0 rfl rfl dX4_setAt_15 ?_
        refine lv_iconst (v := nI 2) hx hb dX4_setAt_18 (by decide) ?_
        refine x_cmp_eq (tgt := 32) hx hb dX4_setAt_19 (by decide) (by omega) (by omega) (fun zc2 => False.elim (by first | omega | contradiction | exact absurd zc2 (m1_ne _ (by omega)) | exact absurd zc2 (by decide) | exact absurd (Eq.symm zc2) (m1_ne _ (by omega)) | (simp_all; done))) (fun zc2 => ?_)
        exact vx_throwS hx hb hst hown (by decide +kernel) (by decide +kernel) (hG _ at_IA_l) (hG _ in_IllegalArgumentException) (hT (175, "not a cursor of pairs") (by decide)) (at_IA hG hE) at_IA_o hZ.1 hZ.2 va_S.rf (hl.1.trans hml.symm) dX4_setAt_22 dX4_setAt_25 dX4_setAt_26 dX4_setAt_28 dX4_setAt_31 (fun y hy => (hnx y hy).elim) (Nat.le_of_ble_eq_true rfl) (Nat.le_of_ble_eq_true rfl) (Nat.le_of_ble_eq_true rfl) (Nat.le_of_ble_eq_true rfl) hlocks (fun t _ h1 h2 => ⟨rfl, h1, fun q hq _ => h2 q hq⟩) (fun y hy => nomatch hy) (Nat.le_refl _) (Nat.le_refl _)
  · skip
    have e9 : (sp_setAt S x v).1 = 1 := by simp [sp_setAt, hbk]
    rw [e9]
    refine m_startX (by decide) (Nat.le_of_ble_eq_true rfl) ?_
    intro p e s m below meth c hx hb hr hG hown hlocks hml hnx hB ls hl
    have hl : lv_has ls 6 [(0, .ref (ad 0)), (1, .int (x)), (2, .int (v))] := hl
    obtain ⟨hW, hK, hE, hT, hZ⟩ := hB
    refine lv_aload_n hx hb dX4_setAt_0 rfl (lv_at hl 0 rfl) ?_
    refine lv_iload_n hx hb dX4_setAt_1 rfl (lv_at hl 1 rfl) ?_
    refine k3_V hx hb hml hown hG cs_X4_137 (tx_cursorOfNumber l hst D cI cC ad ta z S N x hno4) (by decide) (pztV hK hE hT hZ (fun _ _ _ => rfl) rfl hW.rc hW) rfl hl.1 rfl (Nat.le_of_ble_eq_true rfl) dX4_setAt_2 ⟨Nat.le_refl _, Nat.le_refl _⟩ (fun H1 q9 ce h1 h2 h3 h4 h5 => ?_)
    exact k3_out hnx hlocks h1 h2 h3 h4 h5
set_option maxHeartbeats 4000000 in
set_option maxRecDepth 100000 in
theorem xx_bookOf (l : Launch) (hst : l.stackTraces = false) (D : va_G) (cI cC : ClassId) (ad ta : Nat → Nat) (z : Nat) (S : St) (N : Nat) (x : Int32) (hI : Inv S) (hno : (sp_bookOf S x).1 ≠ 0) : vx_Met l yX4_bookOf (ws_ yX4_bookOf cX4_bookOf 2 (some .int)) (rmX 2) (va_Pc [.ref (ad 0), .int x] (pzt D [(cI, .int), (cC, .char)] ta z (fun H => Wc D cI cC ad S N H))) Nq (Xq (xn ["java/lang/IndexOutOfBoundsException"] (sp_bookOf S x).1)) 1 6 (fun _ => False) := by
  rcases bkn_cases 3 (by decide) x with ⟨cu, hc3, rfl, hbk⟩ | ⟨hbk, hno4⟩
  · skip
    have hCu0 := hI.2.2.2.2.1 cu hc3
    cases hC : S.2.2.1 cu with
    | none =>
      exact absurd (by simp [sp_bookOf, hbk, hC]) hno
    | some x9 =>
      obtain ⟨b, k, n, t⟩ := x9
      rw [hC] at hCu0
      obtain ⟨hb4, hk3, hnl, ht1⟩ := hCu0
      have hN2 := hI.1 b hb4
      exact absurd (by simp [sp_bookOf, hbk, hC]) hno
  · skip
    have e9 : (sp_bookOf S x).1 = 1 := by simp [sp_bookOf, hbk]
    rw [e9]
    refine m_startX (by decide) (Nat.le_of_ble_eq_true rfl) ?_
    intro p e s m below meth c hx hb hr hG hown hlocks hml hnx hB ls hl
    have hl : lv_has ls 2 [(0, .ref (ad 0)), (1, .int (x))] := hl
    obtain ⟨hW, hK, hE, hT, hZ⟩ := hB
    refine lv_aload_n hx hb dX4_bookOf_0 rfl (lv_at hl 0 rfl) ?_
    refine lv_iload_n hx hb dX4_bookOf_1 rfl (lv_at hl 1 rfl) ?_
    refine k3_V hx hb hml hown hG cs_X4_137 (tx_cursorOfNumber l hst D cI cC ad ta z S N x hno4) (by decide) (pztV hK hE hT hZ (fun _ _ _ => rfl) rfl hW.rc hW) rfl hl.1 rfl (Nat.le_of_ble_eq_true rfl) dX4_bookOf_2 ⟨Nat.le_refl _, Nat.le_refl _⟩ (fun H1 q9 ce h1 h2 h3 h4 h5 => ?_)
    exact k3_out hnx hlocks h1 h2 h3 h4 h5
set_option maxHeartbeats 4000000 in
set_option maxRecDepth 100000 in
theorem xx_open (l : Launch) (hst : l.stackTraces = false) (D : va_G) (cI cC : ClassId) (ad ta : Nat → Nat) (z : Nat) (S : St) (N : Nat) (x y z1 : Int32) (hI : Inv S) (hno : (sp_open S x y z1).1 ≠ 0) : vx_Met l yX4_open (ws_ yX4_open cX4_open 6 (some .int)) (rmX 2) (va_Pc [.ref (ad 0), .int x, .int y, .int z1] (pzt D [(cI, .int), (cC, .char)] ta z (fun H => Wc D cI cC ad S N H))) Nq (Xq (xn ["java/lang/IndexOutOfBoundsException", "java/lang/IllegalArgumentException"] (sp_open S x y z1).1)) 1 6 (fun _ => False) := by
  rcases bkn_cases 3 (by decide) x with ⟨cu, hc3, rfl, hbx⟩ | ⟨hbx, hno4⟩
  · skip
    rcases bkn_cases 4 (by decide) y with ⟨b, hb4, rfl, hby⟩ | ⟨hby, hno4⟩
    · skip
      rcases bkn_cases 3 (by decide) z1 with ⟨k, hk3, rfl, hbz⟩ | ⟨hbz, hnoz⟩
      · skip
        exact absurd (by simp [sp_open, hbx, hby, hbz]) hno
      · skip
        have e9 : (sp_open S (nI (cu)) (nI (b)) z1).1 = 2 := by simp [sp_open, hbx, hby, hbz]
        rw [e9]
        refine m_startX (by decide) (Nat.le_of_ble_eq_true rfl) ?_
        intro p e s m below meth c hx hb hr hG hown hlocks hml hnx hB ls hl
        have hl : lv_has ls 6 [(0, .ref (ad 0)), (1, .int (nI (cu))), (2, .int (nI (b))), (3, .int (z1))] := hl
        obtain ⟨hW, hK, hE, hT, hZ⟩ := hB
        refine lv_aload_n hx hb dX4_open_0 rfl (lv_at hl 0 rfl) ?_
        refine lv_iload_n hx hb dX4_open_1 rfl (lv_at hl 1 rfl) ?_
        refine k1_V hx hb hml hown hG cs_X4_137 (k_cursorOfNumber l D cI cC ad S N cu (by omega)) (by decide) (pzV hK rfl hW.rc hW) rfl hl.1 rfl (Nat.le_of_ble_eq_true rfl) dX4_open_2 ⟨Nat.zero_le _, Nat.zero_le _⟩ rfl ?_
        refine lv_astore (lv' := [(4, .ref (ad (31 + cu))), (0, .ref (ad 0)), (1, .int (nI (cu))), (2, .int (nI (b))), (3, .int (z1))]) hx hb dX4_open_5 hl (by decide) rfl (fun ls hl => ?_)
        refine lv_aload_n hx hb dX4_open_7 rfl (lv_at hl 1 rfl) ?_
        refine lv_iload_n hx hb dX4_open_8 rfl (lv_at hl 3 rfl) ?_
        refine k1_V hx hb hml hown hG cs_X4_113 (k_bookOfNumber l D cI cC ad S N b (by omega)) (by decide) (pzV hK rfl hW.rc hW) rfl hl.1 rfl (Nat.le_of_ble_eq_true rfl) dX4_open_9 ⟨Nat.zero_le _, Nat.zero_le _⟩ rfl ?_
        refine lv_astore (lv' := [(5, .ref ((bk_ ad b) 0)), (4, .ref (ad (31 + cu))), (0, .ref (ad 0)), (1, .int (nI (cu))), (2, .int (nI (b))), (3, .int (z1))]) hx hb dX4_open_12 hl (by decide) rfl (fun ls hl => ?_)
        refine lv_aload_n hx hb dX4_open_14 rfl (lv_at hl 2 rfl) ?_
        refine lv_iload_n hx hb dX4_open_15 rfl (lv_at hl 5 rfl) ?_
        refine k3_V hx hb hml hown hG cs_X4_141 (tx_requireKind l hst D cI cC ad ta z S N z1 hnoz) (by decide) (pztV hK hE hT hZ (fun _ _ _ => rfl) rfl hW.rc hW) rfl hl.1 rfl (Nat.le_of_ble_eq_true rfl) dX4_open_16 ⟨Nat.le_refl _, Nat.le_refl _⟩ (fun H1 q9 ce h1 h2 h3 h4 h5 => ?_)
        exact k3_out hnx hlocks h1 h2 h3 h4 h5
    · skip
      have e9 : (sp_open S (nI (cu)) y z1).1 = 1 := by simp [sp_open, hbx, hby]
      rw [e9]
      refine m_startX (by decide) (Nat.le_of_ble_eq_true rfl) ?_
      intro p e s m below meth c hx hb hr hG hown hlocks hml hnx hB ls hl
      have hl : lv_has ls 6 [(0, .ref (ad 0)), (1, .int (nI (cu))), (2, .int (y)), (3, .int (z1))] := hl
      obtain ⟨hW, hK, hE, hT, hZ⟩ := hB
      refine lv_aload_n hx hb dX4_open_0 rfl (lv_at hl 0 rfl) ?_
      refine lv_iload_n hx hb dX4_open_1 rfl (lv_at hl 1 rfl) ?_
      refine k1_V hx hb hml hown hG cs_X4_137 (k_cursorOfNumber l D cI cC ad S N cu (by omega)) (by decide) (pzV hK rfl hW.rc hW) rfl hl.1 rfl (Nat.le_of_ble_eq_true rfl) dX4_open_2 ⟨Nat.zero_le _, Nat.zero_le _⟩ rfl ?_
      refine lv_astore (lv' := [(4, .ref (ad (31 + cu))), (0, .ref (ad 0)), (1, .int (nI (cu))), (2, .int (y)), (3, .int (z1))]) hx hb dX4_open_5 hl (by decide) rfl (fun ls hl => ?_)
      refine lv_aload_n hx hb dX4_open_7 rfl (lv_at hl 1 rfl) ?_
      refine lv_iload_n hx hb dX4_open_8 rfl (lv_at hl 3 rfl) ?_
      refine k3_V hx hb hml hown hG cs_X4_113 (tx_bookOfNumber l hst D cI cC ad ta z S N y hno4) (by decide) (pztV hK hE hT hZ (fun _ _ _ => rfl) rfl hW.rc hW) rfl hl.1 rfl (Nat.le_of_ble_eq_true rfl) dX4_open_9 ⟨Nat.le_refl _, Nat.le_refl _⟩ (fun H1 q9 ce h1 h2 h3 h4 h5 => ?_)
      exact k3_out hnx hlocks h1 h2 h3 h4 h5
  · skip
    have e9 : (sp_open S x y z1).1 = 1 := by simp [sp_open, hbx]
    rw [e9]
    refine m_startX (by decide) (Nat.le_of_ble_eq_true rfl) ?_
    intro p e s m below meth c hx hb hr hG hown hlocks hml hnx hB ls hl
    have hl : lv_has ls 6 [(0, .ref (ad 0)), (1, .int (x)), (2, .int (y)), (3, .int (z1))] := hl
    obtain ⟨hW, hK, hE, hT, hZ⟩ := hB
    refine lv_aload_n hx hb dX4_open_0 rfl (lv_at hl 0 rfl) ?_
    refine lv_iload_n hx hb dX4_open_1 rfl (lv_at hl 1 rfl) ?_
    refine k3_V hx hb hml hown hG cs_X4_137 (tx_cursorOfNumber l hst D cI cC ad ta z S N x hno4) (by decide) (pztV hK hE hT hZ (fun _ _ _ => rfl) rfl hW.rc hW) rfl hl.1 rfl (Nat.le_of_ble_eq_true rfl) dX4_open_2 ⟨Nat.le_refl _, Nat.le_refl _⟩ (fun H1 q9 ce h1 h2 h3 h4 h5 => ?_)
    exact k3_out hnx hlocks h1 h2 h3 h4 h5
set_option maxHeartbeats 4000000 in
set_option maxRecDepth 100000 in
theorem xx_size (l : Launch) (hst : l.stackTraces = false) (D : va_G) (cI cC : ClassId) (ad ta : Nat → Nat) (z : Nat) (S : St) (N : Nat) (x : Int32) (hI : Inv S) (hno : (sp_size S x).1 ≠ 0) : vx_Met l yX4_size (ws_ yX4_size cX4_size 2 (some .int)) (rmX 2) (va_Pc [.ref (ad 0), .int x] (pzt D [(cI, .int), (cC, .char)] ta z (fun H => Wc D cI cC ad S N H))) Nq (Xq (xn ["java/lang/IndexOutOfBoundsException"] (sp_size S x).1)) 1 6 (fun _ => False) := by
  rcases bkn_cases 4 (by decide) x with ⟨b, hb4, rfl, hbk⟩ | ⟨hbk, hno4⟩
  · skip
    exact absurd (by simp [sp_size, askB, hbk]) hno
  · skip
    have e9 : (sp_size S x).1 = 1 := by simp [sp_size, askB, hbk]
    rw [e9]
    refine m_startX (by decide) (Nat.le_of_ble_eq_true rfl) ?_
    intro p e s m below meth c hx hb hr hG hown hlocks hml hnx hB ls hl
    have hl : lv_has ls 2 [(0, .ref (ad 0)), (1, .int (x))] := hl
    obtain ⟨hW, hK, hE, hT, hZ⟩ := hB
    refine lv_aload_n hx hb dX4_size_0 rfl (lv_at hl 0 rfl) ?_
    refine lv_iload_n hx hb dX4_size_1 rfl (lv_at hl 1 rfl) ?_
    refine k3_V hx hb hml hown hG cs_X4_113 (tx_bookOfNumber l hst D cI cC ad ta z S N x hno4) (by decide) (pztV hK hE hT hZ (fun _ _ _ => rfl) rfl hW.rc hW) rfl hl.1 rfl (Nat.le_of_ble_eq_true rfl) dX4_size_2 ⟨Nat.le_refl _, Nat.le_refl _⟩ (fun H1 q9 ce h1 h2 h3 h4 h5 => ?_)
    exact k3_out hnx hlocks h1 h2 h3 h4 h5
set_option maxHeartbeats 4000000 in
set_option maxRecDepth 100000 in
theorem xx_hasKey (l : Launch) (hst : l.stackTraces = false) (D : va_G) (cI cC : ClassId) (ad ta : Nat → Nat) (z : Nat) (S : St) (N : Nat) (x key : Int32) (hI : Inv S) (hno : (sp_hasKey S x key).1 ≠ 0) : vx_Met l yX4_hasKey (ws_ yX4_hasKey cX4_hasKey 3 (some .boolean)) (rmX 2) (va_Pc [.ref (ad 0), .int x, .int key] (pzt D [(cI, .int), (cC, .char)] ta z (fun H => Wc D cI cC ad S N H))) Nq (Xq (xn ["java/lang/IndexOutOfBoundsException"] (sp_hasKey S x key).1)) 1 6 (fun _ => False) := by
  rcases bkn_cases 4 (by decide) x with ⟨b, hb4, rfl, hbk⟩ | ⟨hbk, hno4⟩
  · skip
    exact absurd (by simp [sp_hasKey, askB, hbk]) hno
  · skip
    have e9 : (sp_hasKey S x key).1 = 1 := by simp [sp_hasKey, askB, hbk]
    rw [e9]
    refine m_startX (by decide) (Nat.le_of_ble_eq_true rfl) ?_
    intro p e s m below meth c hx hb hr hG hown hlocks hml hnx hB ls hl
    have hl : lv_has ls 3 [(0, .ref (ad 0)), (1, .int (x)), (2, .int (key))] := hl
    obtain ⟨hW, hK, hE, hT, hZ⟩ := hB
    refine lv_aload_n hx hb dX4_hasKey_0 rfl (lv_at hl 0 rfl) ?_
    refine lv_iload_n hx hb dX4_hasKey_1 rfl (lv_at hl 1 rfl) ?_
    refine k3_V hx hb hml hown hG cs_X4_113 (tx_bookOfNumber l hst D cI cC ad ta z S N x hno4) (by decide) (pztV hK hE hT hZ (fun _ _ _ => rfl) rfl hW.rc hW) rfl hl.1 rfl (Nat.le_of_ble_eq_true rfl) dX4_hasKey_2 ⟨Nat.le_refl _, Nat.le_refl _⟩ (fun H1 q9 ce h1 h2 h3 h4 h5 => ?_)
    exact k3_out hnx hlocks h1 h2 h3 h4 h5
set_option maxHeartbeats 4000000 in
set_option maxRecDepth 100000 in
theorem xx_hasValue (l : Launch) (hst : l.stackTraces = false) (D : va_G) (cI cC : ClassId) (ad ta : Nat → Nat) (z : Nat) (S : St) (N : Nat) (x v : Int32) (hI : Inv S) (hno : (sp_hasValue S x v).1 ≠ 0) : vx_Met l yX4_hasValue (ws_ yX4_hasValue cX4_hasValue 3 (some .boolean)) (rmX 2) (va_Pc [.ref (ad 0), .int x, .int v] (pzt D [(cI, .int), (cC, .char)] ta z (fun H => Wc D cI cC ad S N H))) Nq (Xq (xn ["java/lang/IndexOutOfBoundsException"] (sp_hasValue S x v).1)) 1 6 (fun _ => False) := by
  rcases bkn_cases 4 (by decide) x with ⟨b, hb4, rfl, hbk⟩ | ⟨hbk, hno4⟩
  · skip
    exact absurd (by simp [sp_hasValue, askB, hbk]) hno
  · skip
    have e9 : (sp_hasValue S x v).1 = 1 := by simp [sp_hasValue, askB, hbk]
    rw [e9]
    refine m_startX (by decide) (Nat.le_of_ble_eq_true rfl) ?_
    intro p e s m below meth c hx hb hr hG hown hlocks hml hnx hB ls hl
    have hl : lv_has ls 3 [(0, .ref (ad 0)), (1, .int (x)), (2, .int (v))] := hl
    obtain ⟨hW, hK, hE, hT, hZ⟩ := hB
    refine lv_aload_n hx hb dX4_hasValue_0 rfl (lv_at hl 0 rfl) ?_
    refine lv_iload_n hx hb dX4_hasValue_1 rfl (lv_at hl 1 rfl) ?_
    refine k3_V hx hb hml hown hG cs_X4_113 (tx_bookOfNumber l hst D cI cC ad ta z S N x hno4) (by decide) (pztV hK hE hT hZ (fun _ _ _ => rfl) rfl hW.rc hW) rfl hl.1 rfl (Nat.le_of_ble_eq_true rfl) dX4_hasValue_2 ⟨Nat.le_refl _, Nat.le_refl _⟩ (fun H1 q9 ce h1 h2 h3 h4 h5 => ?_)
    exact k3_out hnx hlocks h1 h2 h3 h4 h5
set_option maxHeartbeats 4000000 in
set_option maxRecDepth 100000 in
theorem xx_get (l : Launch) (hst : l.stackTraces = false) (D : va_G) (cI cC : ClassId) (ad ta : Nat → Nat) (z : Nat) (S : St) (N : Nat) (x key or_ : Int32) (hI : Inv S) (hno : (sp_get S x key or_).1 ≠ 0) : vx_Met l yX4_get (ws_ yX4_get cX4_get 6 (some .int)) (rmX 2) (va_Pc [.ref (ad 0), .int x, .int key, .int or_] (pzt D [(cI, .int), (cC, .char)] ta z (fun H => Wc D cI cC ad S N H))) Nq (Xq (xn ["java/lang/IndexOutOfBoundsException"] (sp_get S x key or_).1)) 1 6 (fun _ => False) := by
  rcases bkn_cases 4 (by decide) x with ⟨b, hb4, rfl, hbk⟩ | ⟨hbk, hno4⟩
  · skip
    exact absurd (by simp [sp_get, askB, hbk]) hno
  · skip
    have e9 : (sp_get S x key or_).1 = 1 := by simp [sp_get, askB, hbk]
    rw [e9]
    refine m_startX (by decide) (Nat.le_of_ble_eq_true rfl) ?_
    intro p e s m below meth c hx hb hr hG hown hlocks hml hnx hB ls hl
    have hl : lv_has ls 6 [(0, .ref (ad 0)), (1, .int (x)), (2, .int (key)), (3, .int (or_))] := hl
    obtain ⟨hW, hK, hE, hT, hZ⟩ := hB
    refine lv_aload_n hx hb dX4_get_0 rfl (lv_at hl 0 rfl) ?_
    refine lv_iload_n hx hb dX4_get_1 rfl (lv_at hl 1 rfl) ?_
    refine k3_V hx hb hml hown hG cs_X4_113 (tx_bookOfNumber l hst D cI cC ad ta z S N x hno4) (by decide) (pztV hK hE hT hZ (fun _ _ _ => rfl) rfl hW.rc hW) rfl hl.1 rfl (Nat.le_of_ble_eq_true rfl) dX4_get_2 ⟨Nat.le_refl _, Nat.le_refl _⟩ (fun H1 q9 ce h1 h2 h3 h4 h5 => ?_)
    exact k3_out hnx hlocks h1 h2 h3 h4 h5
set_option maxHeartbeats 4000000 in
set_option maxRecDepth 100000 in
theorem xx_placeOf (l : Launch) (hst : l.stackTraces = false) (D : va_G) (cI cC : ClassId) (ad ta : Nat → Nat) (z : Nat) (S : St) (N : Nat) (x key : Int32) (hI : Inv S) (hno : (sp_placeOf S x key).1 ≠ 0) : vx_Met l yX4_placeOf (ws_ yX4_placeOf cX4_placeOf 3 (some .int)) (rmX 2) (va_Pc [.ref (ad 0), .int x, .int key] (pzt D [(cI, .int), (cC, .char)] ta z (fun H => Wc D cI cC ad S N H))) Nq (Xq (xn ["java/lang/IndexOutOfBoundsException"] (sp_placeOf S x key).1)) 1 6 (fun _ => False) := by
  rcases bkn_cases 4 (by decide) x with ⟨b, hb4, rfl, hbk⟩ | ⟨hbk, hno4⟩
  · skip
    exact absurd (by simp [sp_placeOf, askB, hbk]) hno
  · skip
    have e9 : (sp_placeOf S x key).1 = 1 := by simp [sp_placeOf, askB, hbk]
    rw [e9]
    refine m_startX (by decide) (Nat.le_of_ble_eq_true rfl) ?_
    intro p e s m below meth c hx hb hr hG hown hlocks hml hnx hB ls hl
    have hl : lv_has ls 3 [(0, .ref (ad 0)), (1, .int (x)), (2, .int (key))] := hl
    obtain ⟨hW, hK, hE, hT, hZ⟩ := hB
    refine lv_aload_n hx hb dX4_placeOf_0 rfl (lv_at hl 0 rfl) ?_
    refine lv_iload_n hx hb dX4_placeOf_1 rfl (lv_at hl 1 rfl) ?_
    refine k3_V hx hb hml hown hG cs_X4_113 (tx_bookOfNumber l hst D cI cC ad ta z S N x hno4) (by decide) (pztV hK hE hT hZ (fun _ _ _ => rfl) rfl hW.rc hW) rfl hl.1 rfl (Nat.le_of_ble_eq_true rfl) dX4_placeOf_2 ⟨Nat.le_refl _, Nat.le_refl _⟩ (fun H1 q9 ce h1 h2 h3 h4 h5 => ?_)
    exact k3_out hnx hlocks h1 h2 h3 h4 h5
set_option maxHeartbeats 4000000 in
set_option maxRecDepth 100000 in
theorem xx_hash (l : Launch) (hst : l.stackTraces = false) (D : va_G) (cI cC : ClassId) (ad ta : Nat → Nat) (z : Nat) (S : St) (N : Nat) (x : Int32) (hI : Inv S) (hno : (sp_hash S x).1 ≠ 0) : vx_Met l yX4_hash (ws_ yX4_hash cX4_hash 2 (some .int)) (rmX 2) (va_Pc [.ref (ad 0), .int x] (pzt D [(cI, .int), (cC, .char)] ta z (fun H => Wc D cI cC ad S N H))) Nq (Xq (xn ["java/lang/IndexOutOfBoundsException"] (sp_hash S x).1)) 1 6 (fun _ => False) := by
  rcases bkn_cases 4 (by decide) x with ⟨b, hb4, rfl, hbk⟩ | ⟨hbk, hno4⟩
  · skip
    exact absurd (by simp [sp_hash, askB, hbk]) hno
  · skip
    have e9 : (sp_hash S x).1 = 1 := by simp [sp_hash, askB, hbk]
    rw [e9]
    refine m_startX (by decide) (Nat.le_of_ble_eq_true rfl) ?_
    intro p e s m below meth c hx hb hr hG hown hlocks hml hnx hB ls hl
    have hl : lv_has ls 2 [(0, .ref (ad 0)), (1, .int (x))] := hl
    obtain ⟨hW, hK, hE, hT, hZ⟩ := hB
    refine lv_aload_n hx hb dX4_hash_0 rfl (lv_at hl 0 rfl) ?_
    refine lv_iload_n hx hb dX4_hash_1 rfl (lv_at hl 1 rfl) ?_
    refine k3_V hx hb hml hown hG cs_X4_113 (tx_bookOfNumber l hst D cI cC ad ta z S N x hno4) (by decide) (pztV hK hE hT hZ (fun _ _ _ => rfl) rfl hW.rc hW) rfl hl.1 rfl (Nat.le_of_ble_eq_true rfl) dX4_hash_2 ⟨Nat.le_refl _, Nat.le_refl _⟩ (fun H1 q9 ce h1 h2 h3 h4 h5 => ?_)
    exact k3_out hnx hlocks h1 h2 h3 h4 h5
set_option maxHeartbeats 4000000 in
set_option maxRecDepth 100000 in
theorem xx_sum (l : Launch) (hst : l.stackTraces = false) (D : va_G) (cI cC : ClassId) (ad ta : Nat → Nat) (z : Nat) (S : St) (N : Nat) (x : Int32) (hI : Inv S) (hno : (sp_sum S x).1 ≠ 0) : vx_Met l yX4_sum (ws_ yX4_sum cX4_sum 6 (some .long)) (rmX 2) (va_Pc [.ref (ad 0), .int x] (pzt D [(cI, .int), (cC, .char)] ta z (fun H => Wc D cI cC ad S N H))) Nq (Xq (xn ["java/lang/IndexOutOfBoundsException"] (sp_sum S x).1)) 1 6 (fun _ => False) := by
  rcases bkn_cases 4 (by decide) x with ⟨b, hb4, rfl, hbk⟩ | ⟨hbk, hno4⟩
  · skip
    exact absurd (by simp [sp_sum, askB, hbk]) hno
  · skip
    have e9 : (sp_sum S x).1 = 1 := by simp [sp_sum, askB, hbk]
    rw [e9]
    refine m_startX (by decide) (Nat.le_of_ble_eq_true rfl) ?_
    intro p e s m below meth c hx hb hr hG hown hlocks hml hnx hB ls hl
    have hl : lv_has ls 6 [(0, .ref (ad 0)), (1, .int (x))] := hl
    obtain ⟨hW, hK, hE, hT, hZ⟩ := hB
    refine lv_aload_n hx hb dX4_sum_0 rfl (lv_at hl 0 rfl) ?_
    refine lv_iload_n hx hb dX4_sum_1 rfl (lv_at hl 1 rfl) ?_
    refine k3_V hx hb hml hown hG cs_X4_113 (tx_bookOfNumber l hst D cI cC ad ta z S N x hno4) (by decide) (pztV hK hE hT hZ (fun _ _ _ => rfl) rfl hW.rc hW) rfl hl.1 rfl (Nat.le_of_ble_eq_true rfl) dX4_sum_2 ⟨Nat.le_refl _, Nat.le_refl _⟩ (fun H1 q9 ce h1 h2 h3 h4 h5 => ?_)
    exact k3_out hnx hlocks h1 h2 h3 h4 h5
set_option maxHeartbeats 4000000 in
set_option maxRecDepth 100000 in
theorem xx_write (l : Launch) (hst : l.stackTraces = false) (D : va_G) (cI cC : ClassId) (ad ta : Nat → Nat) (z : Nat) (S : St) (N : Nat) (x : Int32) (hI : Inv S) (hno : (sp_write S x).1 ≠ 0) : vx_Met l yX4_write (ws_ yX4_write cX4_write 4 (some .int)) (rmX 2) (va_Pc [.ref (ad 0), .int x] (pzt D [(cI, .int), (cC, .char)] ta z (fun H => Wc D cI cC ad S N H))) Nq (Xq (xn ["java/lang/IndexOutOfBoundsException"] (sp_write S x).1)) 1 6 (fun _ => False) := by
  rcases bkn_cases 4 (by decide) x with ⟨b, hb4, rfl, hbk⟩ | ⟨hbk, hno4⟩
  · skip
    exact absurd (by simp [sp_write, hbk]) hno
  · skip
    have e9 : (sp_write S x).1 = 1 := by simp [sp_write, hbk]
    rw [e9]
    refine m_startX (by decide) (Nat.le_of_ble_eq_true rfl) ?_
    intro p e s m below meth c hx hb hr hG hown hlocks hml hnx hB ls hl
    have hl : lv_has ls 4 [(0, .ref (ad 0)), (1, .int (x))] := hl
    obtain ⟨hW, hK, hE, hT, hZ⟩ := hB
    refine lv_aload_n hx hb dX4_write_0 rfl (lv_at hl 0 rfl) ?_
    refine lv_iload_n hx hb dX4_write_1 rfl (lv_at hl 1 rfl) ?_
    refine k3_V hx hb hml hown hG cs_X4_113 (tx_bookOfNumber l hst D cI cC ad ta z S N x hno4) (by decide) (pztV hK hE hT hZ (fun _ _ _ => rfl) rfl hW.rc hW) rfl hl.1 rfl (Nat.le_of_ble_eq_true rfl) dX4_write_2 ⟨Nat.le_refl _, Nat.le_refl _⟩ (fun H1 q9 ce h1 h2 h3 h4 h5 => ?_)
    exact k3_out hnx hlocks h1 h2 h3 h4 h5
set_option maxHeartbeats 4000000 in
set_option maxRecDepth 100000 in
theorem xx_mean (l : Launch) (hst : l.stackTraces = false) (D : va_G) (cI cC : ClassId) (ad ta : Nat → Nat) (z : Nat) (S : St) (N : Nat) (x : Int32) (hI : Inv S) (hno : (sp_mean S x).1 ≠ 0) : vx_Met l yX4_mean (ws_ yX4_mean cX4_mean 6 (some .double)) (rmX 2) (va_Pc [.ref (ad 0), .int x] (pzt D [(cI, .int), (cC, .char)] ta z (fun H => Wc D cI cC ad S N H))) Nq (Xq (xn ["java/lang/IndexOutOfBoundsException"] (sp_mean S x).1)) 1 6 (fun _ => False) := by
  rcases bkn_cases 4 (by decide) x with ⟨b, hb4, rfl, hbk⟩ | ⟨hbk, hno4⟩
  · skip
    exact absurd (by simp [sp_mean, askB, hbk]) hno
  · skip
    have e9 : (sp_mean S x).1 = 1 := by simp [sp_mean, askB, hbk]
    rw [e9]
    refine m_startX (by decide) (Nat.le_of_ble_eq_true rfl) ?_
    intro p e s m below meth c hx hb hr hG hown hlocks hml hnx hB ls hl
    have hl : lv_has ls 6 [(0, .ref (ad 0)), (1, .int (x))] := hl
    obtain ⟨hW, hK, hE, hT, hZ⟩ := hB
    refine lv_aload_n hx hb dX4_mean_0 rfl (lv_at hl 0 rfl) ?_
    refine lv_iload_n hx hb dX4_mean_1 rfl (lv_at hl 1 rfl) ?_
    refine k3_V hx hb hml hown hG cs_X4_113 (tx_bookOfNumber l hst D cI cC ad ta z S N x hno4) (by decide) (pztV hK hE hT hZ (fun _ _ _ => rfl) rfl hW.rc hW) rfl hl.1 rfl (Nat.le_of_ble_eq_true rfl) dX4_mean_2 ⟨Nat.le_refl _, Nat.le_refl _⟩ (fun H1 q9 ce h1 h2 h3 h4 h5 => ?_)
    exact k3_out hnx hlocks h1 h2 h3 h4 h5
set_option maxHeartbeats 4000000 in
set_option maxRecDepth 100000 in
theorem xx_keyAt (l : Launch) (hst : l.stackTraces = false) (D : va_G) (cI cC : ClassId) (ad ta : Nat → Nat) (z : Nat) (S : St) (N : Nat) (x y : Int32) (hI : Inv S) (hno : (sp_keyAt S x y).1 ≠ 0) : vx_Met l yX4_keyAt (ws_ yX4_keyAt cX4_keyAt 4 (some .int)) (rmX 2) (va_Pc [.ref (ad 0), .int x, .int y] (pzt D [(cI, .int), (cC, .char)] ta z (fun H => Wc D cI cC ad S N H))) Nq (Xq (xn ["java/lang/IndexOutOfBoundsException"] (sp_keyAt S x y).1)) 1 6 (fun _ => False) := by
  rcases bkn_cases 4 (by decide) x with ⟨b, hb4, rfl, hbk⟩ | ⟨hbk, hno4⟩
  · skip
    have hN2 := hI.1 b hb4
    rcases bkn_cases (S.1 b).length (by omega) y with ⟨j, hj, rfl, hbj⟩ | ⟨hbj, hnoj⟩
    · skip
      exact absurd (by simp [sp_keyAt, askP, hbk, hbj]) hno
    · skip
      have e9 : (sp_keyAt S (nI (b)) y).1 = 1 := by simp [sp_keyAt, askP, hbk, hbj]
      rw [e9]
      refine m_startX (by decide) (Nat.le_of_ble_eq_true rfl) ?_
      intro p e s m below meth c hx hb hr hG hown hlocks hml hnx hB ls hl
      have hl : lv_has ls 4 [(0, .ref (ad 0)), (1, .int (nI (b))), (2, .int (y))] := hl
      obtain ⟨hW, hK, hE, hT, hZ⟩ := hB
      refine lv_aload_n hx hb dX4_keyAt_0 rfl (lv_at hl 0 rfl) ?_
      refine lv_iload_n hx hb dX4_keyAt_1 rfl (lv_at hl 1 rfl) ?_
      refine k1_V hx hb hml hown hG cs_X4_113 (k_bookOfNumber l D cI cC ad S N b (by omega)) (by decide) (pzV hK rfl hW.rc hW) rfl hl.1 rfl (Nat.le_of_ble_eq_true rfl) dX4_keyAt_2 ⟨Nat.zero_le _, Nat.zero_le _⟩ rfl ?_
      refine lv_astore_n (lv' := [(3, .ref ((bk_ ad b) 0)), (0, .ref (ad 0)), (1, .int (nI (b))), (2, .int (y))]) hx hb dX4_keyAt_5 rfl hl (by decide) rfl (fun ls hl => ?_)
      refine lv_aload_n hx hb dX4_keyAt_6 rfl (lv_at hl 1 rfl) ?_
      refine lv_aload_n hx hb dX4_keyAt_7 rfl (lv_at hl 0 rfl) ?_
      refine lv_iload_n hx hb dX4_keyAt_8 rfl (lv_at hl 3 rfl) ?_
      refine k3_V hx hb hml hown hG cs_X4_181 (tx_requirePlace l hst D cI cC ad ta z S N b y hb4 hnoj) (by decide) (pztV hK hE hT hZ (fun _ _ _ => rfl) rfl hW.rc hW) rfl hl.1 rfl (Nat.le_of_ble_eq_true rfl) dX4_keyAt_9 ⟨Nat.le_refl _, Nat.le_refl _⟩ (fun H1 q9 ce h1 h2 h3 h4 h5 => ?_)
      exact k3_out hnx hlocks h1 h2 h3 h4 h5
  · skip
    have e9 : (sp_keyAt S x y).1 = 1 := by simp [sp_keyAt, askP, hbk]
    rw [e9]
    refine m_startX (by decide) (Nat.le_of_ble_eq_true rfl) ?_
    intro p e s m below meth c hx hb hr hG hown hlocks hml hnx hB ls hl
    have hl : lv_has ls 4 [(0, .ref (ad 0)), (1, .int (x)), (2, .int (y))] := hl
    obtain ⟨hW, hK, hE, hT, hZ⟩ := hB
    refine lv_aload_n hx hb dX4_keyAt_0 rfl (lv_at hl 0 rfl) ?_
    refine lv_iload_n hx hb dX4_keyAt_1 rfl (lv_at hl 1 rfl) ?_
    refine k3_V hx hb hml hown hG cs_X4_113 (tx_bookOfNumber l hst D cI cC ad ta z S N x hno4) (by decide) (pztV hK hE hT hZ (fun _ _ _ => rfl) rfl hW.rc hW) rfl hl.1 rfl (Nat.le_of_ble_eq_true rfl) dX4_keyAt_2 ⟨Nat.le_refl _, Nat.le_refl _⟩ (fun H1 q9 ce h1 h2 h3 h4 h5 => ?_)
    exact k3_out hnx hlocks h1 h2 h3 h4 h5
set_option maxHeartbeats 4000000 in
set_option maxRecDepth 100000 in
theorem xx_valueAt (l : Launch) (hst : l.stackTraces = false) (D : va_G) (cI cC : ClassId) (ad ta : Nat → Nat) (z : Nat) (S : St) (N : Nat) (x y : Int32) (hI : Inv S) (hno : (sp_valueAt S x y).1 ≠ 0) : vx_Met l yX4_valueAt (ws_ yX4_valueAt cX4_valueAt 4 (some .int)) (rmX 2) (va_Pc [.ref (ad 0), .int x, .int y] (pzt D [(cI, .int), (cC, .char)] ta z (fun H => Wc D cI cC ad S N H))) Nq (Xq (xn ["java/lang/IndexOutOfBoundsException"] (sp_valueAt S x y).1)) 1 6 (fun _ => False) := by
  rcases bkn_cases 4 (by decide) x with ⟨b, hb4, rfl, hbk⟩ | ⟨hbk, hno4⟩
  · skip
    have hN2 := hI.1 b hb4
    rcases bkn_cases (S.1 b).length (by omega) y with ⟨j, hj, rfl, hbj⟩ | ⟨hbj, hnoj⟩
    · skip
      exact absurd (by simp [sp_valueAt, askP, hbk, hbj]) hno
    · skip
      have e9 : (sp_valueAt S (nI (b)) y).1 = 1 := by simp [sp_valueAt, askP, hbk, hbj]
      rw [e9]
      refine m_startX (by decide) (Nat.le_of_ble_eq_true rfl) ?_
      intro p e s m below meth c hx hb hr hG hown hlocks hml hnx hB ls hl
      have hl : lv_has ls 4 [(0, .ref (ad 0)), (1, .int (nI (b))), (2, .int (y))] := hl
      obtain ⟨hW, hK, hE, hT, hZ⟩ := hB
      refine lv_aload_n hx hb dX4_valueAt_0 rfl (lv_at hl 0 rfl) ?_
      refine lv_iload_n hx hb dX4_valueAt_1 rfl (lv_at hl 1 rfl) ?_
      refine k1_V hx hb hml hown hG cs_X4_113 (k_bookOfNumber l D cI cC ad S N b (by omega)) (by decide) (pzV hK rfl hW.rc hW) rfl hl.1 rfl (Nat.le_of_ble_eq_true rfl) dX4_valueAt_2 ⟨Nat.zero_le _, Nat.zero_le _⟩ rfl ?_
      refine lv_astore_n (lv' := [(3, .ref ((bk_ ad b) 0)), (0, .ref (ad 0)), (1, .int (nI (b))), (2, .int (y))]) hx hb dX4_valueAt_5 rfl hl (by decide) rfl (fun ls hl => ?_)
      refine lv_aload_n hx hb dX4_valueAt_6 rfl (lv_at hl 1 rfl) ?_
      refine lv_aload_n hx hb dX4_valueAt_7 rfl (lv_at hl 0 rfl) ?_
      refine lv_iload_n hx hb dX4_valueAt_8 rfl (lv_at hl 3 rfl) ?_
      refine k3_V hx hb hml hown hG cs_X4_181 (tx_requirePlace l hst D cI cC ad ta z S N b y hb4 hnoj) (by decide) (pztV hK hE hT hZ (fun _ _ _ => rfl) rfl hW.rc hW) rfl hl.1 rfl (Nat.le_of_ble_eq_true rfl) dX4_valueAt_9 ⟨Nat.le_refl _, Nat.le_refl _⟩ (fun H1 q9 ce h1 h2 h3 h4 h5 => ?_)
      exact k3_out hnx hlocks h1 h2 h3 h4 h5
  · skip
    have e9 : (sp_valueAt S x y).1 = 1 := by simp [sp_valueAt, askP, hbk]
    rw [e9]
    refine m_startX (by decide) (Nat.le_of_ble_eq_true rfl) ?_
    intro p e s m below meth c hx hb hr hG hown hlocks hml hnx hB ls hl
    have hl : lv_has ls 4 [(0, .ref (ad 0)), (1, .int (x)), (2, .int (y))] := hl
    obtain ⟨hW, hK, hE, hT, hZ⟩ := hB
    refine lv_aload_n hx hb dX4_valueAt_0 rfl (lv_at hl 0 rfl) ?_
    refine lv_iload_n hx hb dX4_valueAt_1 rfl (lv_at hl 1 rfl) ?_
    refine k3_V hx hb hml hown hG cs_X4_113 (tx_bookOfNumber l hst D cI cC ad ta z S N x hno4) (by decide) (pztV hK hE hT hZ (fun _ _ _ => rfl) rfl hW.rc hW) rfl hl.1 rfl (Nat.le_of_ble_eq_true rfl) dX4_valueAt_2 ⟨Nat.le_refl _, Nat.le_refl _⟩ (fun H1 q9 ce h1 h2 h3 h4 h5 => ?_)
    exact k3_out hnx hlocks h1 h2 h3 h4 h5
set_option maxHeartbeats 4000000 in
set_option maxRecDepth 100000 in
theorem xx_areEqual (l : Launch) (hst : l.stackTraces = false) (D : va_G) (cI cC : ClassId) (ad ta : Nat → Nat) (z : Nat) (S : St) (N : Nat) (x y : Int32) (hI : Inv S) (hno : (sp_areEqual S x y).1 ≠ 0) : vx_Met l yX4_areEqual (ws_ yX4_areEqual cX4_areEqual 3 (some .boolean)) (rmX 2) (va_Pc [.ref (ad 0), .int x, .int y] (pzt D [(cI, .int), (cC, .char)] ta z (fun H => Wc D cI cC ad S N H))) Nq (Xq (xn ["java/lang/IndexOutOfBoundsException"] (sp_areEqual S x y).1)) 1 6 (fun _ => False) := by
  rcases bkn_cases 4 (by decide) x with ⟨b, hb4, rfl, hbk⟩ | ⟨hbk, hno4⟩
  · skip
    rcases bkn_cases 4 (by decide) y with ⟨q, hq4, rfl, hbq⟩ | ⟨hbq, hno4⟩
    · skip
      exact absurd (by simp [sp_areEqual, ask2, hbk, hbq]) hno
    · skip
      have e9 : (sp_areEqual S (nI (b)) y).1 = 1 := by simp [sp_areEqual, ask2, hbk, hbq]
      rw [e9]
      refine m_startX (by decide) (Nat.le_of_ble_eq_true rfl) ?_
      intro p e s m below meth c hx hb hr hG hown hlocks hml hnx hB ls hl
      have hl : lv_has ls 3 [(0, .ref (ad 0)), (1, .int (nI (b))), (2, .int (y))] := hl
      obtain ⟨hW, hK, hE, hT, hZ⟩ := hB
      refine lv_aload_n hx hb dX4_areEqual_0 rfl (lv_at hl 0 rfl) ?_
      refine lv_iload_n hx hb dX4_areEqual_1 rfl (lv_at hl 1 rfl) ?_
      refine k1_V hx hb hml hown hG cs_X4_113 (k_bookOfNumber l D cI cC ad S N b (by omega)) (by decide) (pzV hK rfl hW.rc hW) rfl hl.1 rfl (Nat.le_of_ble_eq_true rfl) dX4_areEqual_2 ⟨Nat.zero_le _, Nat.zero_le _⟩ rfl ?_
      refine lv_aload_n hx hb dX4_areEqual_5 rfl (lv_at hl 0 rfl) ?_
      refine lv_iload_n hx hb dX4_areEqual_6 rfl (lv_at hl 2 rfl) ?_
      refine k3_V hx hb hml hown hG cs_X4_113 (tx_bookOfNumber l hst D cI cC ad ta z S N y hno4) (by decide) (pztV hK hE hT hZ (fun _ _ _ => rfl) rfl hW.rc hW) rfl hl.1 rfl (Nat.le_of_ble_eq_true rfl) dX4_areEqual_7 ⟨Nat.le_refl _, Nat.le_refl _⟩ (fun H1 q9 ce h1 h2 h3 h4 h5 => ?_)
      exact k3_out hnx hlocks h1 h2 h3 h4 h5
  · skip
    have e9 : (sp_areEqual S x y).1 = 1 := by simp [sp_areEqual, ask2, hbk]
    rw [e9]
    refine m_startX (by decide) (Nat.le_of_ble_eq_true rfl) ?_
    intro p e s m below meth c hx hb hr hG hown hlocks hml hnx hB ls hl
    have hl : lv_has ls 3 [(0, .ref (ad 0)), (1, .int (x)), (2, .int (y))] := hl
    obtain ⟨hW, hK, hE, hT, hZ⟩ := hB
    refine lv_aload_n hx hb dX4_areEqual_0 rfl (lv_at hl 0 rfl) ?_
    refine lv_iload_n hx hb dX4_areEqual_1 rfl (lv_at hl 1 rfl) ?_
    refine k3_V hx hb hml hown hG cs_X4_113 (tx_bookOfNumber l hst D cI cC ad ta z S N x hno4) (by decide) (pztV hK hE hT hZ (fun _ _ _ => rfl) rfl hW.rc hW) rfl hl.1 rfl (Nat.le_of_ble_eq_true rfl) dX4_areEqual_2 ⟨Nat.le_refl _, Nat.le_refl _⟩ (fun H1 q9 ce h1 h2 h3 h4 h5 => ?_)
    exact k3_out hnx hlocks h1 h2 h3 h4 h5
set_option maxHeartbeats 4000000 in
set_option maxRecDepth 100000 in
theorem xx_areAlike (l : Launch) (hst : l.stackTraces = false) (D : va_G) (cI cC : ClassId) (ad ta : Nat → Nat) (z : Nat) (S : St) (N : Nat) (x y : Int32) (hI : Inv S) (hno : (sp_areAlike S x y).1 ≠ 0) : vx_Met l yX4_areAlike (ws_ yX4_areAlike cX4_areAlike 3 (some .boolean)) (rmX 2) (va_Pc [.ref (ad 0), .int x, .int y] (pzt D [(cI, .int), (cC, .char)] ta z (fun H => Wc D cI cC ad S N H))) Nq (Xq (xn ["java/lang/IndexOutOfBoundsException"] (sp_areAlike S x y).1)) 1 6 (fun _ => False) := by
  rcases bkn_cases 4 (by decide) x with ⟨b, hb4, rfl, hbk⟩ | ⟨hbk, hno4⟩
  · skip
    rcases bkn_cases 4 (by decide) y with ⟨q, hq4, rfl, hbq⟩ | ⟨hbq, hno4⟩
    · skip
      exact absurd (by simp [sp_areAlike, ask2, hbk, hbq]) hno
    · skip
      have e9 : (sp_areAlike S (nI (b)) y).1 = 1 := by simp [sp_areAlike, ask2, hbk, hbq]
      rw [e9]
      refine m_startX (by decide) (Nat.le_of_ble_eq_true rfl) ?_
      intro p e s m below meth c hx hb hr hG hown hlocks hml hnx hB ls hl
      have hl : lv_has ls 3 [(0, .ref (ad 0)), (1, .int (nI (b))), (2, .int (y))] := hl
      obtain ⟨hW, hK, hE, hT, hZ⟩ := hB
      refine lv_aload_n hx hb dX4_areAlike_0 rfl (lv_at hl 0 rfl) ?_
      refine lv_iload_n hx hb dX4_areAlike_1 rfl (lv_at hl 1 rfl) ?_
      refine k1_V hx hb hml hown hG cs_X4_113 (k_bookOfNumber l D cI cC ad S N b (by omega)) (by decide) (pzV hK rfl hW.rc hW) rfl hl.1 rfl (Nat.le_of_ble_eq_true rfl) dX4_areAlike_2 ⟨Nat.zero_le _, Nat.zero_le _⟩ rfl ?_
      refine lv_aload_n hx hb dX4_areAlike_5 rfl (lv_at hl 0 rfl) ?_
      refine lv_iload_n hx hb dX4_areAlike_6 rfl (lv_at hl 2 rfl) ?_
      refine k3_V hx hb hml hown hG cs_X4_113 (tx_bookOfNumber l hst D cI cC ad ta z S N y hno4) (by decide) (pztV hK hE hT hZ (fun _ _ _ => rfl) rfl hW.rc hW) rfl hl.1 rfl (Nat.le_of_ble_eq_true rfl) dX4_areAlike_7 ⟨Nat.le_refl _, Nat.le_refl _⟩ (fun H1 q9 ce h1 h2 h3 h4 h5 => ?_)
      exact k3_out hnx hlocks h1 h2 h3 h4 h5
  · skip
    have e9 : (sp_areAlike S x y).1 = 1 := by simp [sp_areAlike, ask2, hbk]
    rw [e9]
    refine m_startX (by decide) (Nat.le_of_ble_eq_true rfl) ?_
    intro p e s m below meth c hx hb hr hG hown hlocks hml hnx hB ls hl
    have hl : lv_has ls 3 [(0, .ref (ad 0)), (1, .int (x)), (2, .int (y))] := hl
    obtain ⟨hW, hK, hE, hT, hZ⟩ := hB
    refine lv_aload_n hx hb dX4_areAlike_0 rfl (lv_at hl 0 rfl) ?_
    refine lv_iload_n hx hb dX4_areAlike_1 rfl (lv_at hl 1 rfl) ?_
    refine k3_V hx hb hml hown hG cs_X4_113 (tx_bookOfNumber l hst D cI cC ad ta z S N x hno4) (by decide) (pztV hK hE hT hZ (fun _ _ _ => rfl) rfl hW.rc hW) rfl hl.1 rfl (Nat.le_of_ble_eq_true rfl) dX4_areAlike_2 ⟨Nat.le_refl _, Nat.le_refl _⟩ (fun H1 q9 ce h1 h2 h3 h4 h5 => ?_)
    exact k3_out hnx hlocks h1 h2 h3 h4 h5
set_option maxHeartbeats 4000000 in
set_option maxRecDepth 100000 in
theorem xx_isAddRefused (l : Launch) (hst : l.stackTraces = false) (D : va_G) (cI cC : ClassId) (ad ta : Nat → Nat) (z : Nat) (S : St) (N : Nat) (x z1 : Int32) (hI : Inv S) (hno : (sp_isAddRefused S x z1).1 ≠ 0) : vx_Met l yX4_isAddRefused (ws_ yX4_isAddRefused cX4_isAddRefused 3 (some .boolean)) (rmX 2) (va_Pc [.ref (ad 0), .int x, .int z1] (pzt D [(cI, .int), (cC, .char)] ta z (fun H => Wc D cI cC ad S N H))) Nq (Xq (xn ["java/lang/IndexOutOfBoundsException", "java/lang/IllegalArgumentException"] (sp_isAddRefused S x z1).1)) 1 6 (fun _ => False) := by
  rcases bkn_cases 4 (by decide) x with ⟨b, hb4, rfl, hbk⟩ | ⟨hbk, hno4⟩
  · skip
    rcases bkn_cases 3 (by decide) z1 with ⟨k, hk3, rfl, hbz⟩ | ⟨hbz, hnoz⟩
    · skip
      exact absurd (by simp [sp_isAddRefused, hbk, hbz]) hno
    · skip
      have e9 : (sp_isAddRefused S (nI (b)) z1).1 = 2 := by simp [sp_isAddRefused, hbk, hbz]
      rw [e9]
      refine m_startX (by decide) (Nat.le_of_ble_eq_true rfl) ?_
      intro p e s m below meth c hx hb hr hG hown hlocks hml hnx hB ls hl
      have hl : lv_has ls 3 [(0, .ref (ad 0)), (1, .int (nI (b))), (2, .int (z1))] := hl
      obtain ⟨hW, hK, hE, hT, hZ⟩ := hB
      refine lv_aload_n hx hb dX4_isAddRefused_0 rfl (lv_at hl 0 rfl) ?_
      refine lv_iload_n hx hb dX4_isAddRefused_1 rfl (lv_at hl 1 rfl) ?_
      refine k1_V hx hb hml hown hG cs_X4_113 (k_bookOfNumber l D cI cC ad S N b (by omega)) (by decide) (pzV hK rfl hW.rc hW) rfl hl.1 rfl (Nat.le_of_ble_eq_true rfl) dX4_isAddRefused_2 ⟨Nat.zero_le _, Nat.zero_le _⟩ rfl ?_
      refine lv_pop hx hb dX4_isAddRefused_5 rfl ?_
      refine lv_aload_n hx hb dX4_isAddRefused_6 rfl (lv_at hl 0 rfl) ?_
      refine lv_iload_n hx hb dX4_isAddRefused_7 rfl (lv_at hl 2 rfl) ?_
      refine k3_V hx hb hml hown hG cs_X4_141 (tx_requireKind l hst D cI cC ad ta z S N z1 hnoz) (by decide) (pztV hK hE hT hZ (fun _ _ _ => rfl) rfl hW.rc hW) rfl hl.1 rfl (Nat.le_of_ble_eq_true rfl) dX4_isAddRefused_8 ⟨Nat.le_refl _, Nat.le_refl _⟩ (fun H1 q9 ce h1 h2 h3 h4 h5 => ?_)
      exact k3_out hnx hlocks h1 h2 h3 h4 h5
  · skip
    have e9 : (sp_isAddRefused S x z1).1 = 1 := by simp [sp_isAddRefused, hbk]
    rw [e9]
    refine m_startX (by decide) (Nat.le_of_ble_eq_true rfl) ?_
    intro p e s m below meth c hx hb hr hG hown hlocks hml hnx hB ls hl
    have hl : lv_has ls 3 [(0, .ref (ad 0)), (1, .int (x)), (2, .int (z1))] := hl
    obtain ⟨hW, hK, hE, hT, hZ⟩ := hB
    refine lv_aload_n hx hb dX4_isAddRefused_0 rfl (lv_at hl 0 rfl) ?_
    refine lv_iload_n hx hb dX4_isAddRefused_1 rfl (lv_at hl 1 rfl) ?_
    refine k3_V hx hb hml hown hG cs_X4_113 (tx_bookOfNumber l hst D cI cC ad ta z S N x hno4) (by decide) (pztV hK hE hT hZ (fun _ _ _ => rfl) rfl hW.rc hW) rfl hl.1 rfl (Nat.le_of_ble_eq_true rfl) dX4_isAddRefused_2 ⟨Nat.le_refl _, Nat.le_refl _⟩ (fun H1 q9 ce h1 h2 h3 h4 h5 => ?_)
    exact k3_out hnx hlocks h1 h2 h3 h4 h5
set_option maxHeartbeats 4000000 in
set_option maxRecDepth 100000 in
theorem xx_outputAt (l : Launch) (hst : l.stackTraces = false) (D : va_G) (cI cC : ClassId) (ad ta : Nat → Nat) (z : Nat) (S : St) (N : Nat) (x : Int32) (hI : Inv S) (hno : (sp_outputAt S x).1 ≠ 0) : vx_Met l yX4_outputAt (ws_ yX4_outputAt cX4_outputAt 2 (some .int)) (rmX 2) (va_Pc [.ref (ad 0), .int x] (pzt D [(cI, .int), (cC, .char)] ta z (fun H => Wc D cI cC ad S N H))) Nq (Xq (xn ["java/util/NoSuchElementException"] (sp_outputAt S x).1)) 1 6 (fun _ => False) := by
  have hOl := hI.2.2.2.2.2
  rcases bkn_cases S.2.2.2.length (by omega) x with ⟨j, hj, rfl, hbk⟩ | ⟨hbk, hnoj⟩
  · skip
    exact absurd (by unfold sp_outputAt; rw [hbk]) hno
  · skip
    have e9 : (sp_outputAt S x).1 = 1 := by unfold sp_outputAt; rw [hbk]
    rw [e9]
    refine m_startX (by decide) (Nat.le_of_ble_eq_true rfl) ?_
    intro p e s m below meth c hx hb hr hG hown hlocks hml hnx hB ls hl
    have hl : lv_has ls 2 [(0, .ref (ad 0)), (1, .int (x))] := hl
    obtain ⟨hW, hK, hE, hT, hZ⟩ := hB
    refine lv_aload_n hx hb dX4_outputAt_0 rfl (lv_at hl 0 rfl) ?_
    refine gf_X4_46 hx hb hG hown hK hW.x 0 rfl rfl dX4_outputAt_1 ?_
    refine lv_iload_n hx hb dX4_outputAt_4 rfl (lv_at hl 1 rfl) ?_
    refine k1_V hx hb hml hown hG cs_X4_209 (by have h := c_oreaches l D (ou_ ad) S.2.2.2.length x; rw [hnoj] at h; exact h) (by decide) (pzV (hK.sub (tys' := []) [] rfl) rfl hW.ou.rc hW.ou.obj) rfl hl.1 rfl (Nat.le_of_ble_eq_true rfl) dX4_outputAt_5 ⟨Nat.zero_le _, Nat.zero_le _⟩ rfl ?_
    refine x_ifb_ne (tgt := 21) hx hb dX4_outputAt_8 (by decide) (fun zc1 => False.elim (by first | exact absurd zc1 (by decide) | omega | (simp_all; done))) (fun zc1 => ?_)
    refine ns_new hx hb hst hown (by decide +kernel) (hG _ at_NS_l) (hG _ in_NoSuchElementException) (hT (212, "no such character") (by decide)) (at_NS hG hE) at_NS_o hZ.1 hZ.2 va_S.rf (hl.1.trans hml.symm) dX4_outputAt_11 dX4_outputAt_14 dX4_outputAt_15 dX4_outputAt_17 (Nat.le_of_ble_eq_true rfl) (Nat.le_of_ble_eq_true rfl) (Nat.le_of_ble_eq_true rfl) (Nat.le_of_ble_eq_true rfl) (fun q9 H1 ce h1 h2 h3 h4 h5 => ?_)
    refine vx_athrow hx hb dX4_outputAt_20 ?_
    exact k3_out hnx hlocks h1 h2 h3 h4 h5
