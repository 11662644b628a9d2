set_option maxHeartbeats 4000000 in
set_option maxRecDepth 100000 in
theorem ok_offer (l : Launch) (D : va_G) (cI cC : ClassId) (ad : Nat → Nat) (S : St) (N : Nat) (x : Int32) (hI : Inv S) (hN : N + 2000 < 2 ^ 31) (hap : Ap ad 36) (hok : (sp_offer S x).1 = 0) : Met l yX4_offer (ws_ yX4_offer cX4_offer 3 (some .boolean)) (rmN 6) (va_Pc [.ref (ad 0), .int x] (pz D [(cI, .int), (cC, .char)] (fun H => Wc D cI cC ad S N H))) (Wq (some (.int (bI (sp_offer S x).2.1))) (fun H => Wc D cI cC ad (sp_offer S x).2.2 (N + 2000) H) (Ao ad 36)) 0 0 (Ao ad 36) := by
  have hbd2 : S.2.1 ≤ 40 := hI.2.2.2.1
  have hCC : ∀ cu, cu < 3 → ∀ y, S.2.2.1 cu = some y → y.1 < 4 := fun cu hcu y hy => by have h := hI.2.2.2.2.1 cu hcu; rw [hy] at h; exact h.1
  have hN2 := hI.1 3 (by omega)
  have hb4 : 3 < 4 := by decide
  cases hfu : full S 3 x with
  | true =>
    exact absurd hok (by unfold sp_offer; simp [hfu])
  | false =>
    cases hf : fx (S.1 3) x with
    | none =>
      have e9 : sp_offer S x = (0, true, clB (upB S 3 (S.1 3 ++ [(x, 1)])) 3 (-1)) := by simp [sp_offer, hfu, hf]
      rw [e9]
      refine m_start (by decide) (Nat.le_of_ble_eq_true rfl) ?_
      intro p e s m below meth c hx hb hr hG hown hlocks hml hB ls hl
      have hl : lv_has ls 3 [(0, .ref (ad 0)), (1, .int (x))] := hl
      obtain ⟨hW, hK⟩ := hB
      have hS : va_S (Ao ad 36) s.heap s.heap [] := va_S.rf
      have es : stq (lgO 3) S.2.1 (S.1 3) x (nI (1)) = (S.1 3 ++ [(x, 1)]) := by rw [stq_no hf, show lgO 3 = false from rfl, ent_plain]; rfl
      refine lv_aload_n hx hb dX4_offer_0 rfl (lv_at hl 0 rfl) ?_
      refine lv_aload_n hx hb dX4_offer_1 rfl (lv_at hl 0 rfl) ?_
      refine gf_X4_24 hx hb hG hown hK hW.x 0 rfl rfl dX4_offer_2 ?_
      refine lv_iload_n hx hb dX4_offer_5 rfl (lv_at hl 1 rfl) ?_
      refine k1_V hx hb hml hown hG cs_X4_75 (k_requireRoomForKey l D cI cC ad S N 3 x (by omega) hI hfu) (by decide) (pzV hK rfl hW.rc hW) rfl hl.1 rfl (Nat.le_of_ble_eq_true rfl) dX4_offer_6 ⟨Nat.zero_le _, Nat.zero_le _⟩ rfl ?_
      refine lv_aload_n hx hb dX4_offer_9 rfl (lv_at hl 0 rfl) ?_
      refine lv_iconst (v := nI 3) hx hb dX4_offer_10 (by decide) ?_
      refine lv_iconst (v := (-1)) hx hb dX4_offer_11 (by decide) ?_
      refine k2_V hx hb hml hown hG cs_X4_67 (k_closeCursors l D cI cC ad S N 3 (-1) (by omega) hCC hap) (by decide) (pzV hK rfl hW.rc hW) rfl hl.1 rfl (Nat.le_of_ble_eq_true rfl) dX4_offer_12 ⟨Nat.zero_le _, Nat.zero_le _⟩ rfl hS (fun q h => h) (fun H locs hW hz hk hS => ?_)
      refine lv_aload_n hx hb dX4_offer_15 rfl (lv_at hl 0 rfl) ?_
      refine gf_X4_24 hx hb hG hown hK hW.x 0 rfl rfl dX4_offer_16 ?_
      refine lv_iload_n hx hb dX4_offer_19 rfl (lv_at hl 1 rfl) ?_
      refine k1_V hx hb hml hown hG cs_X4_86 (c_find_no l D cI (bk_ ad 3) (lgO 3) (bdO S 3) (S.1 3) x (hf)) (by decide) (pzV (hK.sub (tys' := [(cI, .int)]) [0] rfl) rfl (hW.bk (b := 3) (by omega)).1.rc (hW.bk (b := 3) (by omega)).1) rfl hl.1 rfl (Nat.le_of_ble_eq_true rfl) dX4_offer_20 ⟨Nat.zero_le _, Nat.zero_le _⟩ rfl ?_
      refine lv_istore_n (lv' := [(2, .int ((-1))), (0, .ref (ad 0)), (1, .int (x))]) hx hb dX4_offer_23 rfl hl (by decide) rfl (fun ls hl => ?_)
      refine lv_aload_n hx hb dX4_offer_24 rfl (lv_at hl 1 rfl) ?_
      refine gf_X4_24 hx hb hG hown hK hW.x 0 rfl rfl dX4_offer_25 ?_
      refine lv_iload_n hx hb dX4_offer_28 rfl (lv_at hl 2 rfl) ?_
      refine lv_iload_n hx hb dX4_offer_29 rfl (lv_at hl 0 rfl) ?_
      refine lv_iconst (v := (-1)) hx hb dX4_offer_30 (by decide) ?_
      refine lv_icmp_ne (tgt := 38) hx hb dX4_offer_31 (by decide) (fun zc1 => False.elim (by first | exact absurd zc1 (by decide) | omega | (simp_all; done))) (fun zc1 => ?_)
      refine lv_iconst (v := nI 1) hx hb dX4_offer_34 (by decide) ?_
      refine lv_goto (tgt := 48) hx hb dX4_offer_35 (by decide) ?_
      refine k2_V hx hb hml hown hG cs_X4_79 (c_store_no l D cI (bk_ ad 3) (lgO 3) (bdO S 3) (S.1 3) N x (nI (1)) (hf) (full_r200 hI hb4 hfu hf) (hN2.1) (bdO_le hI 3) (by omega) (bk_Ap (by omega) hap)) (by decide) (pzV (hK.sub (tys' := [(cI, .int)]) [0] rfl) rfl (hW.bk (b := 3) (by omega)).1.rc (hW.bk (b := 3) (by omega))) rfl hl.1 rfl (Nat.le_of_ble_eq_true rfl) dX4_offer_48 ⟨Nat.zero_le _, Nat.zero_le _⟩ rfl hS (bk_Ao (by omega)) (fun H locs hB0 hz hk hS => ?_)
      rw [stq_bd] at hB0
      have hW := hW.book hap (b := 3) (by omega) bk_A hk (M := N + 1) (L := (stq (lgO 3) S.2.1 (S.1 3) x (nI (1)))) (by omega) hB0
      rw [es] at hW
      refine lv_pop hx hb dX4_offer_51 rfl ?_
      refine lv_iload_n hx hb dX4_offer_52 rfl (lv_at hl 0 rfl) ?_
      refine lv_iconst (v := (-1)) hx hb dX4_offer_53 (by decide) ?_
      refine lv_icmp_ne (tgt := 61) hx hb dX4_offer_54 (by decide) (fun zc2 => False.elim (by first | exact absurd zc2 (by decide) | omega | (simp_all; done))) (fun zc2 => ?_)
      refine lv_iconst (v := nI 1) hx hb dX4_offer_57 (by decide) ?_
      refine lv_goto (tgt := 62) hx hb dX4_offer_58 (by decide) ?_
      exact w_z (PB := (fun H => Wc D cI cC ad (clB (upB S 3 (S.1 3 ++ [(x, 1)])) 3 (-1)) (N + 2000) H)) rfl (hW.mono (by omega)) hS hx hb hr hlocks dX4_offer_62
    | some i =>
      have hi := (fx_some hf).1
      have e9 : sp_offer S x = (0, false, clB (upB S 3 (sv (S.1 3) i (vf (S.1 3) i + 1))) 3 (-1)) := by simp [sp_offer, hfu, hf]
      rw [e9]
      refine m_start (by decide) (Nat.le_of_ble_eq_true rfl) ?_
      intro p e s m below meth c hx hb hr hG hown hlocks hml hB ls hl
      have hl : lv_has ls 3 [(0, .ref (ad 0)), (1, .int (x))] := hl
      obtain ⟨hW, hK⟩ := hB
      have hS : va_S (Ao ad 36) s.heap s.heap [] := va_S.rf
      have es : stq (lgO 3) S.2.1 (S.1 3) x (vf (S.1 3) i + (nI (1))) = (sv (S.1 3) i (vf (S.1 3) i + 1)) := stq_at hf
      refine lv_aload_n hx hb dX4_offer_0 rfl (lv_at hl 0 rfl) ?_
      refine lv_aload_n hx hb dX4_offer_1 rfl (lv_at hl 0 rfl) ?_
      refine gf_X4_24 hx hb hG hown hK hW.x 0 rfl rfl dX4_offer_2 ?_
      refine lv_iload_n hx hb dX4_offer_5 rfl (lv_at hl 1 rfl) ?_
      refine k1_V hx hb hml hown hG cs_X4_75 (k_requireRoomForKey l D cI cC ad S N 3 x (by omega) hI hfu) (by decide) (pzV hK rfl hW.rc hW) rfl hl.1 rfl (Nat.le_of_ble_eq_true rfl) dX4_offer_6 ⟨Nat.zero_le _, Nat.zero_le _⟩ rfl ?_
      refine lv_aload_n hx hb dX4_offer_9 rfl (lv_at hl 0 rfl) ?_
      refine lv_iconst (v := nI 3) hx hb dX4_offer_10 (by decide) ?_
      refine lv_iconst (v := (-1)) hx hb dX4_offer_11 (by decide) ?_
      refine k2_V hx hb hml hown hG cs_X4_67 (k_closeCursors l D cI cC ad S N 3 (-1) (by omega) hCC hap) (by decide) (pzV hK rfl hW.rc hW) rfl hl.1 rfl (Nat.le_of_ble_eq_true rfl) dX4_offer_12 ⟨Nat.zero_le _, Nat.zero_le _⟩ rfl hS (fun q h => h) (fun H locs hW hz hk hS => ?_)
      refine lv_aload_n hx hb dX4_offer_15 rfl (lv_at hl 0 rfl) ?_
      refine gf_X4_24 hx hb hG hown hK hW.x 0 rfl rfl dX4_offer_16 ?_
      refine lv_iload_n hx hb dX4_offer_19 rfl (lv_at hl 1 rfl) ?_
      refine k1_V hx hb hml hown hG cs_X4_86 (c_find_at l D cI (bk_ ad 3) (lgO 3) (bdO S 3) (S.1 3) x (hi := (hf))) (by decide) (pzV (hK.sub (tys' := [(cI, .int)]) [0] rfl) rfl (hW.bk (b := 3) (by omega)).1.rc (hW.bk (b := 3) (by omega)).1) rfl hl.1 rfl (Nat.le_of_ble_eq_true rfl) dX4_offer_20 ⟨Nat.zero_le _, Nat.zero_le _⟩ rfl ?_
      refine lv_istore_n (lv' := [(2, .int (nI (i))), (0, .ref (ad 0)), (1, .int (x))]) hx hb dX4_offer_23 rfl hl (by decide) rfl (fun ls hl => ?_)
      refine lv_aload_n hx hb dX4_offer_24 rfl (lv_at hl 1 rfl) ?_
      refine gf_X4_24 hx hb hG hown hK hW.x 0 rfl rfl dX4_offer_25 ?_
      refine lv_iload_n hx hb dX4_offer_28 rfl (lv_at hl 2 rfl) ?_
      refine lv_iload_n hx hb dX4_offer_29 rfl (lv_at hl 0 rfl) ?_
      refine lv_iconst (v := (-1)) hx hb dX4_offer_30 (by decide) ?_
      refine lv_icmp_ne (tgt := 38) hx hb dX4_offer_31 (by decide) (fun zc1 => ?_) (fun zc1 => False.elim (by first | omega | contradiction | exact absurd zc1 (m1_ne _ (by omega)) | exact absurd zc1 (by decide) | exact absurd (Eq.symm zc1) (m1_ne _ (by omega)) | (simp_all; done)))
      refine lv_aload_n hx hb dX4_offer_38 rfl (lv_at hl 1 rfl) ?_
      refine gf_X4_24 hx hb hG hown hK hW.x 0 rfl rfl dX4_offer_39 ?_
      refine lv_iload_n hx hb dX4_offer_42 rfl (lv_at hl 0 rfl) ?_
      refine k1_V hx hb hml hown hG cs_X4_93 (c_valueOn l D cI (bk_ ad 3) (lgO 3) (bdO S 3) (S.1 3) i (by omega)) (by decide) (pzV (hK.sub (tys' := [(cI, .int)]) [0] rfl) rfl (hW.bk (b := 3) (by omega)).1.rc (hW.bk (b := 3) (by omega)).1) rfl hl.1 rfl (Nat.le_of_ble_eq_true rfl) dX4_offer_43 ⟨Nat.zero_le _, Nat.zero_le _⟩ rfl ?_
      refine lv_iconst (v := nI 1) hx hb dX4_offer_46 (by decide) ?_
      refine x_iadd (v := (vf (S.1 3) i) + (nI (1))) hx hb dX4_offer_47 rfl ?_
      refine k2_V hx hb hml hown hG cs_X4_79 (c_store_at l D cI (bk_ ad 3) (lgO 3) (bdO S 3) (S.1 3) N x ((vf (S.1 3) i) + (nI (1))) i (hf) (hN2.1) (bdO_le hI 3) (by omega) (bk_Ap (by omega) hap)) (by decide) (pzV (hK.sub (tys' := [(cI, .int)]) [0] rfl) rfl (hW.bk (b := 3) (by omega)).1.rc (hW.bk (b := 3) (by omega))) rfl hl.1 rfl (Nat.le_of_ble_eq_true rfl) dX4_offer_48 ⟨Nat.zero_le _, Nat.zero_le _⟩ rfl hS (bk_Ao (by omega)) (fun H locs hB0 hz hk hS => ?_)
      rw [stq_bd] at hB0
      have hW := hW.book hap (b := 3) (by omega) bk_A hk (M := N + 1) (L := (stq (lgO 3) S.2.1 (S.1 3) x ((vf (S.1 3) i) + (nI (1))))) (by omega) hB0
      rw [es] at hW
      refine lv_pop hx hb dX4_offer_51 rfl ?_
      refine lv_iload_n hx hb dX4_offer_52 rfl (lv_at hl 0 rfl) ?_
      refine lv_iconst (v := (-1)) hx hb dX4_offer_53 (by decide) ?_
      refine lv_icmp_ne (tgt := 61) hx hb dX4_offer_54 (by decide) (fun zc2 => ?_) (fun zc2 => False.elim (by first | omega | contradiction | exact absurd zc2 (m1_ne _ (by omega)) | exact absurd zc2 (by decide) | exact absurd (Eq.symm zc2) (m1_ne _ (by omega)) | (simp_all; done)))
      refine lv_iconst (v := nI 0) hx hb dX4_offer_61 (by decide) ?_
      exact w_z (PB := (fun H => Wc D cI cC ad (clB (upB S 3 (sv (S.1 3) i (vf (S.1 3) i + 1))) 3 (-1)) (N + 2000) H)) rfl (hW.mono (by omega)) hS hx hb hr hlocks dX4_offer_62
set_option maxHeartbeats 4000000 in
set_option maxRecDepth 100000 in
theorem ok_poll (l : Launch) (D : va_G) (cI cC : ClassId) (ad : Nat → Nat) (S : St) (N : Nat) (hI : Inv S) (hN : N + 2000 < 2 ^ 31) (hap : Ap ad 36) (hok : (sp_poll S).1 = 0) : Met l yX4_poll (ws_ yX4_poll cX4_poll 2 (some .int)) (rmN 6) (va_Pc [.ref (ad 0)] (pz D [(cI, .int), (cC, .char)] (fun H => Wc D cI cC ad S N H))) (Wq (some (.int (sp_poll S).2.1)) (fun H => Wc D cI cC ad (sp_poll S).2.2 (N + 2000) H) (Ao ad 36)) 0 0 (Ao ad 36) := by
  have hbd2 : S.2.1 ≤ 40 := hI.2.2.2.1
  have hCC : ∀ cu, cu < 3 → ∀ y, S.2.2.1 cu = some y → y.1 < 4 := fun cu hcu y hy => by have h := hI.2.2.2.2.1 cu hcu; rw [hy] at h; exact h.1
  have hN2 := hI.1 3 (by omega)
  have hb4 : 3 < 4 := by decide
  by_cases h0 : (S.1 3).length = 0
  · skip
    exact absurd hok (by unfold sp_poll; simp [h0])
  · skip
    have e9 : sp_poll S = (0, kf (S.1 3) 0, clB (upB S 3 ((S.1 3).eraseIdx 0)) 3 (-1)) := by unfold sp_poll; rw [if_neg h0]
    rw [e9]
    refine m_start (by decide) (Nat.le_of_ble_eq_true rfl) ?_
    intro p e s m below meth c hx hb hr hG hown hlocks hml hB ls hl
    have hl : lv_has ls 2 [(0, .ref (ad 0))] := hl
    obtain ⟨hW, hK⟩ := hB
    have hS : va_S (Ao ad 36) s.heap s.heap [] := va_S.rf
    refine lv_aload_n hx hb dX4_poll_0 rfl (lv_at hl 0 rfl) ?_
    refine gf_X4_24 hx hb hG hown hK hW.x 0 rfl rfl dX4_poll_1 ?_
    refine gf_X4_57 hx hb hG hown hK (hW.bk (b := 3) (by omega)).1.obj 0 rfl rfl dX4_poll_4 ?_
    refine x_if_ne (tgt := 20) hx hb dX4_poll_7 (by decide) (by omega) (fun zc1 => ?_) (fun zc1 => False.elim (by first | omega | contradiction | exact absurd zc1 (m1_ne _ (by omega)) | exact absurd zc1 (by decide) | exact absurd (Eq.symm zc1) (m1_ne _ (by omega)) | (simp_all; done)))
    refine lv_aload_n hx hb dX4_poll_20 rfl (lv_at hl 0 rfl) ?_
    refine lv_iconst (v := nI 3) hx hb dX4_poll_21 (by decide) ?_
    refine lv_iconst (v := (-1)) hx hb dX4_poll_22 (by decide) ?_
    refine k2_V hx hb hml hown hG cs_X4_67 (k_closeCursors l D cI cC ad S N 3 (-1) (by omega) hCC hap) (by decide) (pzV hK rfl hW.rc hW) rfl hl.1 rfl (Nat.le_of_ble_eq_true rfl) dX4_poll_23 ⟨Nat.zero_le _, Nat.zero_le _⟩ rfl hS (fun q h => h) (fun H locs hW hz hk hS => ?_)
    refine lv_aload_n hx hb dX4_poll_26 rfl (lv_at hl 0 rfl) ?_
    refine gf_X4_24 hx hb hG hown hK hW.x 0 rfl rfl dX4_poll_27 ?_
    refine lv_iconst (v := nI 0) hx hb dX4_poll_30 (by decide) ?_
    refine k1_V hx hb hml hown hG cs_X4_132 (c_keyOn l D cI (bk_ ad 3) (lgO 3) (bdO S 3) (S.1 3) 0 (by omega)) (by decide) (pzV (hK.sub (tys' := [(cI, .int)]) [0] rfl) rfl (hW.bk (b := 3) (by omega)).1.rc (hW.bk (b := 3) (by omega)).1) rfl hl.1 rfl (Nat.le_of_ble_eq_true rfl) dX4_poll_31 ⟨Nat.zero_le _, Nat.zero_le _⟩ rfl ?_
    refine lv_istore_n (lv' := [(1, .int (kf (S.1 3) 0)), (0, .ref (ad 0))]) hx hb dX4_poll_34 rfl hl (by decide) rfl (fun ls hl => ?_)
    refine lv_aload_n hx hb dX4_poll_35 rfl (lv_at hl 1 rfl) ?_
    refine gf_X4_24 hx hb hG hown hK hW.x 0 rfl rfl dX4_poll_36 ?_
    refine lv_iconst (v := nI 0) hx hb dX4_poll_39 (by decide) ?_
    refine k2_V hx hb hml hown hG cs_X4_96 (c_leave l D cI (bk_ ad 3) (lgO 3) (bdO S 3) (S.1 3) N 0 (hN2.1) (by omega) (bk_Ap (by omega) hap)) (by decide) (pzV (hK.sub (tys' := [(cI, .int)]) [0] rfl) rfl (hW.bk (b := 3) (by omega)).1.rc (hW.bk (b := 3) (by omega))) rfl hl.1 rfl (Nat.le_of_ble_eq_true rfl) dX4_poll_40 ⟨Nat.zero_le _, Nat.zero_le _⟩ rfl hS (bk_Ao (by omega)) (fun H locs hB0 hz hk hS => ?_)
    have hW := hW.book hap (b := 3) (by omega) bk_A hk (M := N + 0) (L := ((S.1 3).eraseIdx 0)) (by omega) hB0
    refine lv_iload_n hx hb dX4_poll_43 rfl (lv_at hl 0 rfl) ?_
    exact w_i (PB := (fun H => Wc D cI cC ad (clB (upB S 3 ((S.1 3).eraseIdx 0)) 3 (-1)) (N + 2000) H)) rfl (hW.mono (by omega)) hS hx hb hr hlocks dX4_poll_44
set_option maxHeartbeats 4000000 in
set_option maxRecDepth 100000 in
theorem ok_toEnd (l : Launch) (D : va_G) (cI cC : ClassId) (ad : Nat → Nat) (S : St) (N : Nat) (x : Int32) (hI : Inv S) (hN : N + 2000 < 2 ^ 31) (hap : Ap ad 36) (hok : (sp_toEnd S x).1 = 0) : Met l yX4_toEnd (ws_ yX4_toEnd cX4_toEnd 4 (some .int)) (rmN 6) (va_Pc [.ref (ad 0), .int x] (pz D [(cI, .int), (cC, .char)] (fun H => Wc D cI cC ad S N H))) (Wq (some (.int (sp_toEnd S x).2.1)) (fun H => Wc D cI cC ad (sp_toEnd S x).2.2 (N + 2000) H) (Ao ad 36)) 0 0 (Ao ad 36) := by
  have hbd2 : S.2.1 ≤ 40 := hI.2.2.2.1
  have hCC : ∀ cu, cu < 3 → ∀ y, S.2.2.1 cu = some y → y.1 < 4 := fun cu hcu y hy => by have h := hI.2.2.2.2.1 cu hcu; rw [hy] at h; exact h.1
  have hN2 := hI.1 3 (by omega)
  have hb4 : 3 < 4 := by decide
  cases hf : fx (S.1 3) x with
  | none =>
    exact absurd hok (by unfold sp_toEnd; simp [hf])
  | some i =>
    have hi := (fx_some hf).1
    have hkx := (fx_some hf).2.1
    have e9 : sp_toEnd S x = (0, nI i, clB (upB S 3 ((S.1 3).eraseIdx i ++ [(x, vf (S.1 3) i)])) 3 (-1)) := by simp [sp_toEnd, hf]
    rw [e9]
    refine m_start (by decide) (Nat.le_of_ble_eq_true rfl) ?_
    intro p e s m below meth c hx hb hr hG hown hlocks hml hB ls hl
    have hl : lv_has ls 4 [(0, .ref (ad 0)), (1, .int (x))] := hl
    obtain ⟨hW, hK⟩ := hB
    have hS : va_S (Ao ad 36) s.heap s.heap [] := va_S.rf
    refine lv_aload_n hx hb dX4_toEnd_0 rfl (lv_at hl 0 rfl) ?_
    refine gf_X4_24 hx hb hG hown hK hW.x 0 rfl rfl dX4_toEnd_1 ?_
    refine lv_iload_n hx hb dX4_toEnd_4 rfl (lv_at hl 1 rfl) ?_
    refine k1_V hx hb hml hown hG cs_X4_86 (c_find_at l D cI (bk_ ad 3) (lgO 3) (bdO S 3) (S.1 3) x (hi := (hf))) (by decide) (pzV (hK.sub (tys' := [(cI, .int)]) [0] rfl) rfl (hW.bk (b := 3) (by omega)).1.rc (hW.bk (b := 3) (by omega)).1) rfl hl.1 rfl (Nat.le_of_ble_eq_true rfl) dX4_toEnd_5 ⟨Nat.zero_le _, Nat.zero_le _⟩ rfl ?_
    refine lv_istore_n (lv' := [(2, .int (nI (i))), (0, .ref (ad 0)), (1, .int (x))]) hx hb dX4_toEnd_8 rfl hl (by decide) rfl (fun ls hl => ?_)
    refine lv_iload_n hx hb dX4_toEnd_9 rfl (lv_at hl 0 rfl) ?_
    refine lv_iconst (v := (-1)) hx hb dX4_toEnd_10 (by decide) ?_
    refine lv_icmp_ne (tgt := 24) hx hb dX4_toEnd_11 (by decide) (fun zc1 => ?_) (fun zc1 => False.elim (by first | omega | contradiction | exact absurd zc1 (m1_ne _ (by omega)) | exact absurd zc1 (by decide) | exact absurd (Eq.symm zc1) (m1_ne _ (by omega)) | (simp_all; done)))
    refine lv_aload_n hx hb dX4_toEnd_24 rfl (lv_at hl 1 rfl) ?_
    refine lv_iconst (v := nI 3) hx hb dX4_toEnd_25 (by decide) ?_
    refine lv_iconst (v := (-1)) hx hb dX4_toEnd_26 (by decide) ?_
    refine k2_V hx hb hml hown hG cs_X4_67 (k_closeCursors l D cI cC ad S N 3 (-1) (by omega) hCC hap) (by decide) (pzV hK rfl hW.rc hW) rfl hl.1 rfl (Nat.le_of_ble_eq_true rfl) dX4_toEnd_27 ⟨Nat.zero_le _, Nat.zero_le _⟩ rfl hS (fun q h => h) (fun H locs hW hz hk hS => ?_)
    refine lv_aload_n hx hb dX4_toEnd_30 rfl (lv_at hl 1 rfl) ?_
    refine gf_X4_24 hx hb hG hown hK hW.x 0 rfl rfl dX4_toEnd_31 ?_
    refine lv_iload_n hx hb dX4_toEnd_34 rfl (lv_at hl 0 rfl) ?_
    refine k1_V hx hb hml hown hG cs_X4_93 (c_valueOn l D cI (bk_ ad 3) (lgO 3) (bdO S 3) (S.1 3) i (by omega)) (by decide) (pzV (hK.sub (tys' := [(cI, .int)]) [0] rfl) rfl (hW.bk (b := 3) (by omega)).1.rc (hW.bk (b := 3) (by omega)).1) rfl hl.1 rfl (Nat.le_of_ble_eq_true rfl) dX4_toEnd_35 ⟨Nat.zero_le _, Nat.zero_le _⟩ rfl ?_
    refine lv_istore_n (lv' := [(3, .int (vf (S.1 3) i)), (2, .int (nI (i))), (0, .ref (ad 0)), (1, .int (x))]) hx hb dX4_toEnd_38 rfl hl (by decide) rfl (fun ls hl => ?_)
    refine lv_aload_n hx hb dX4_toEnd_39 rfl (lv_at hl 2 rfl) ?_
    refine gf_X4_24 hx hb hG hown hK hW.x 0 rfl rfl dX4_toEnd_40 ?_
    refine lv_iload_n hx hb dX4_toEnd_43 rfl (lv_at hl 1 rfl) ?_
    refine k2_V hx hb hml hown hG cs_X4_96 (c_leave l D cI (bk_ ad 3) (lgO 3) (bdO S 3) (S.1 3) N i (hN2.1) (by omega) (bk_Ap (by omega) hap)) (by decide) (pzV (hK.sub (tys' := [(cI, .int)]) [0] rfl) rfl (hW.bk (b := 3) (by omega)).1.rc (hW.bk (b := 3) (by omega))) rfl hl.1 rfl (Nat.le_of_ble_eq_true rfl) dX4_toEnd_44 ⟨Nat.zero_le _, Nat.zero_le _⟩ rfl hS (bk_Ao (by omega)) (fun H locs hB0 hz hk hS => ?_)
    have hW := hW.book hap (b := 3) (by omega) bk_A hk (M := N + 0) (L := ((S.1 3).eraseIdx i)) (by omega) hB0
    refine lv_aload_n hx hb dX4_toEnd_47 rfl (lv_at hl 2 rfl) ?_
    refine gf_X4_24 hx hb hG hown hK hW.x 0 rfl rfl dX4_toEnd_48 ?_
    refine lv_iload_n hx hb dX4_toEnd_51 rfl (lv_at hl 3 rfl) ?_
    refine lv_iload_n hx hb dX4_toEnd_52 rfl (lv_at hl 0 rfl) ?_
    refine k2_V hx hb hml hown hG cs_X4_90 (c_enter l D cI (bk_ ad 3) (lgO 3) (bdO S 3) ((S.1 3).eraseIdx i) N x (vf (S.1 3) i) (ND_era hN2.1 hi) (by rw [← hkx]; exact fx_era hN2.1 hi) (by rw [era_len hi]; omega) (bdO_le hI 3) (by omega) (bk_Ap (by omega) hap)) (by decide) (pzV (hK.sub (tys' := [(cI, .int)]) [0] rfl) rfl (hW.bk (b := 3) (by omega)).1.rc (hW.bk (b := 3) (by omega))) rfl hl.1 rfl (Nat.le_of_ble_eq_true rfl) dX4_toEnd_53 ⟨Nat.zero_le _, Nat.zero_le _⟩ rfl hS (bk_Ao (by omega)) (fun H locs hB0 hz hk hS => ?_)
    rw [show ent (lgO 3) (bdO S 3) ((S.1 3).eraseIdx i) x (vf (S.1 3) i) = (((S.1 3).eraseIdx i) ++ [(x, (vf (S.1 3) i))]) from by rw [show lgO 3 = false from rfl, ent_plain]] at hB0
    have hW := hW.book hap (b := 3) (by omega) bk_A hk (M := N + 1) (L := (((S.1 3).eraseIdx i) ++ [(x, (vf (S.1 3) i))])) (by omega) hB0
    skip
    rw [upB_up] at hW
    refine lv_iload_n hx hb dX4_toEnd_56 rfl (lv_at hl 1 rfl) ?_
    exact w_i (PB := (fun H => Wc D cI cC ad (clB (upB S 3 ((S.1 3).eraseIdx i ++ [(x, vf (S.1 3) i)])) 3 (-1)) (N + 2000) H)) rfl (hW.mono (by omega)) hS hx hb hr hlocks dX4_toEnd_57
set_option maxHeartbeats 4000000 in
set_option maxRecDepth 100000 in
theorem ok_hasNext (l : Launch) (D : va_G) (cI cC : ClassId) (ad : Nat → Nat) (S : St) (N : Nat) (x : Int32) (hI : Inv S) (hN : N + 2000 < 2 ^ 31) (hap : Ap ad 36) (hok : (sp_hasNext S x).1 = 0) : Met l yX4_hasNext (ws_ yX4_hasNext cX4_hasNext 3 (some .boolean)) (rmN 6) (va_Pc [.ref (ad 0), .int x] (pz D [(cI, .int), (cC, .char)] (fun H => Wc D cI cC ad S N H))) (Wq (some (.int (bI (sp_hasNext S x).2.1))) (fun H => Wc D cI cC ad (sp_hasNext S x).2.2 (N + 2000) H) (Ao ad 36)) 0 0 (Ao ad 36) := by
  have hbd2 : S.2.1 ≤ 40 := hI.2.2.2.1
  have hCC : ∀ cu, cu < 3 → ∀ y, S.2.2.1 cu = some y → y.1 < 4 := fun cu hcu y hy => by have h := hI.2.2.2.2.1 cu hcu; rw [hy] at h; exact h.1
  rcases bkn_cases 3 (by decide) x with ⟨cu, hc3, rfl, hbk⟩ | ⟨hbk, hno⟩
  · skip
    have hCu0 := hI.2.2.2.2.1 cu hc3
    cases hC : S.2.2.1 cu with
    | none =>
      exact absurd hok (by unfold sp_hasNext; rw [hbk]; simp [hC])
    | some x9 =>
      obtain ⟨b, k, n, t⟩ := x9
      rw [hC] at hCu0
      obtain ⟨hb4, hk3, hnl, ht1⟩ := hCu0
      have hN2 := hI.1 b hb4
      by_cases hlt : n < (S.1 b).length
      · skip
        have e9 : sp_hasNext S (nI (cu)) = (0, true, S) := by simp [sp_hasNext, hbk, hC, hlt]
        rw [e9]
        refine m_start (by decide) (Nat.le_of_ble_eq_true rfl) ?_
        intro p e s m below meth c hx hb hr hG hown hlocks hml hB ls hl
        have hl : lv_has ls 3 [(0, .ref (ad 0)), (1, .int (nI (cu)))] := hl
        obtain ⟨hW, hK⟩ := hB
        have hS : va_S (Ao ad 36) s.heap s.heap [] := va_S.rf
        refine lv_aload_n hx hb dX4_hasNext_0 rfl (lv_at hl 0 rfl) ?_
        refine lv_iload_n hx hb dX4_hasNext_1 rfl (lv_at hl 1 rfl) ?_
        refine k1_V hx hb hml hown hG cs_X4_147 (k_openCursor l D cI cC ad S N cu b k n t (by omega) hC (by omega)) (by decide) (pzV hK rfl hW.rc hW) rfl hl.1 rfl (Nat.le_of_ble_eq_true rfl) dX4_hasNext_2 ⟨Nat.zero_le _, Nat.zero_le _⟩ rfl ?_
        have hCu : CuRaw D (ad (31 + cu)) (nI b) (nI k) (nI n) (bI t) s.heap := by
          have h := hW.cu (c := cu) (by omega)
          rw [show S.2.2.1 cu = some (b, k, n, t) from hC] at h
          exact h
        refine lv_astore_n (lv' := [(2, .ref (ad (31 + cu))), (0, .ref (ad 0)), (1, .int (nI (cu)))]) hx hb dX4_hasNext_5 rfl hl (by decide) rfl (fun ls hl => ?_)
        refine lv_aload_n hx hb dX4_hasNext_6 rfl (lv_at hl 0 rfl) ?_
        refine gf_X4_150 hx hb hG hown hK hCu 0 rfl rfl dX4_hasNext_7 ?_
        refine lv_aload_n hx hb dX4_hasNext_10 rfl (lv_at hl 1 rfl) ?_
        refine lv_aload_n hx hb dX4_hasNext_11 rfl (lv_at hl 0 rfl) ?_
        refine gf_X4_153 hx hb hG hown hK hCu 0 rfl rfl dX4_hasNext_12 ?_
        refine k1_V hx hb hml hown hG cs_X4_113 (k_bookOfNumber l D cI cC ad S N b (by omega)) (by decide) (pzV hK rfl hW.rc hW) rfl hl.1 rfl (Nat.le_of_ble_eq_true rfl) dX4_hasNext_15 ⟨Nat.zero_le _, Nat.zero_le _⟩ rfl ?_
        refine gf_X4_57 hx hb hG hown hK (hW.bk (b := b) (by omega)).1.obj 0 rfl rfl dX4_hasNext_18 ?_
        refine x_cmp_ge (tgt := 28) hx hb dX4_hasNext_21 (by decide) (by omega) (by omega) (fun zc1 => False.elim (by first | omega | contradiction | exact absurd zc1 (m1_ne _ (by omega)) | exact absurd zc1 (by decide) | exact absurd (Eq.symm zc1) (m1_ne _ (by omega)) | (simp_all; done))) (fun zc1 => ?_)
        refine lv_iconst (v := nI 1) hx hb dX4_hasNext_24 (by decide) ?_
        refine lv_goto (tgt := 29) hx hb dX4_hasNext_25 (by decide) ?_
        exact w_z (PB := (fun H => Wc D cI cC ad S (N + 2000) H)) rfl (hW.mono (by omega)) hS hx hb hr hlocks dX4_hasNext_29
      · skip
        have e9 : sp_hasNext S (nI (cu)) = (0, false, S) := by simp [sp_hasNext, hbk, hC, hlt]
        rw [e9]
        refine m_start (by decide) (Nat.le_of_ble_eq_true rfl) ?_
        intro p e s m below meth c hx hb hr hG hown hlocks hml hB ls hl
        have hl : lv_has ls 3 [(0, .ref (ad 0)), (1, .int (nI (cu)))] := hl
        obtain ⟨hW, hK⟩ := hB
        have hS : va_S (Ao ad 36) s.heap s.heap [] := va_S.rf
        refine lv_aload_n hx hb dX4_hasNext_0 rfl (lv_at hl 0 rfl) ?_
        refine lv_iload_n hx hb dX4_hasNext_1 rfl (lv_at hl 1 rfl) ?_
        refine k1_V hx hb hml hown hG cs_X4_147 (k_openCursor l D cI cC ad S N cu b k n t (by omega) hC (by omega)) (by decide) (pzV hK rfl hW.rc hW) rfl hl.1 rfl (Nat.le_of_ble_eq_true rfl) dX4_hasNext_2 ⟨Nat.zero_le _, Nat.zero_le _⟩ rfl ?_
        have hCu : CuRaw D (ad (31 + cu)) (nI b) (nI k) (nI n) (bI t) s.heap := by
          have h := hW.cu (c := cu) (by omega)
          rw [show S.2.2.1 cu = some (b, k, n, t) from hC] at h
          exact h
        refine lv_astore_n (lv' := [(2, .ref (ad (31 + cu))), (0, .ref (ad 0)), (1, .int (nI (cu)))]) hx hb dX4_hasNext_5 rfl hl (by decide) rfl (fun ls hl => ?_)
        refine lv_aload_n hx hb dX4_hasNext_6 rfl (lv_at hl 0 rfl) ?_
        refine gf_X4_150 hx hb hG hown hK hCu 0 rfl rfl dX4_hasNext_7 ?_
        refine lv_aload_n hx hb dX4_hasNext_10 rfl (lv_at hl 1 rfl) ?_
        refine lv_aload_n hx hb dX4_hasNext_11 rfl (lv_at hl 0 rfl) ?_
        refine gf_X4_153 hx hb hG hown hK hCu 0 rfl rfl dX4_hasNext_12 ?_
        refine k1_V hx hb hml hown hG cs_X4_113 (k_bookOfNumber l D cI cC ad S N b (by omega)) (by decide) (pzV hK rfl hW.rc hW) rfl hl.1 rfl (Nat.le_of_ble_eq_true rfl) dX4_hasNext_15 ⟨Nat.zero_le _, Nat.zero_le _⟩ rfl ?_
        refine gf_X4_57 hx hb hG hown hK (hW.bk (b := b) (by omega)).1.obj 0 rfl rfl dX4_hasNext_18 ?_
        refine x_cmp_ge (tgt := 28) hx hb dX4_hasNext_21 (by decide) (by omega) (by omega) (fun zc1 => ?_) (fun zc1 => False.elim (by first | omega | contradiction | exact absurd zc1 (m1_ne _ (by omega)) | exact absurd zc1 (by decide) | exact absurd (Eq.symm zc1) (m1_ne _ (by omega)) | (simp_all; done)))
        refine lv_iconst (v := nI 0) hx hb dX4_hasNext_28 (by decide) ?_
        exact w_z (PB := (fun H => Wc D cI cC ad S (N + 2000) H)) rfl (hW.mono (by omega)) hS hx hb hr hlocks dX4_hasNext_29
  · skip
    exact absurd hok (by unfold sp_hasNext; rw [hbk]; simp)
set_option maxHeartbeats 4000000 in
set_option maxRecDepth 100000 in
theorem ok_next (l : Launch) (D : va_G) (cI cC : ClassId) (ad : Nat → Nat) (S : St) (N : Nat) (x : Int32) (hI : Inv S) (hN : N + 2000 < 2 ^ 31) (hap : Ap ad 36) (hok : (sp_next S x).1 = 0) : Met l yX4_next (ws_ yX4_next cX4_next 5 (some .int)) (rmN 6) (va_Pc [.ref (ad 0), .int x] (pz D [(cI, .int), (cC, .char)] (fun H => Wc D cI cC ad S N H))) (Wq (some (.int (sp_next S x).2.1)) (fun H => Wc D cI cC ad (sp_next S x).2.2 (N + 2000) H) (Ao ad 36)) 0 0 (Ao ad 36) := by
  have hbd2 : S.2.1 ≤ 40 := hI.2.2.2.1
  have hCC : ∀ cu, cu < 3 → ∀ y, S.2.2.1 cu = some y → y.1 < 4 := fun cu hcu y hy => by have h := hI.2.2.2.2.1 cu hcu; rw [hy] at h; exact h.1
  rcases bkn_cases 3 (by decide) x with ⟨cu, hc3, rfl, hbk⟩ | ⟨hbk, hno⟩
  · skip
    have hCu0 := hI.2.2.2.2.1 cu hc3
    cases hC : S.2.2.1 cu with
    | none =>
      exact absurd hok (by unfold sp_next; rw [hbk]; simp [hC])
    | some x9 =>
      obtain ⟨b, k, n, t⟩ := x9
      rw [hC] at hCu0
      obtain ⟨hb4, hk3, hnl, ht1⟩ := hCu0
      have hN2 := hI.1 b hb4
      by_cases hlt : n < (S.1 b).length
      · by_cases hk1 : k = 1
        · skip
          have e9 : sp_next S (nI (cu)) = (0, vf (S.1 b) n, stC S cu (some (b, k, n + 1, true))) := by simp [sp_next, hbk, hC, hlt, hk1]
          rw [e9]
          refine m_start (by decide) (Nat.le_of_ble_eq_true rfl) ?_
          intro p e s m below meth c hx hb hr hG hown hlocks hml hB ls hl
          have hl : lv_has ls 5 [(0, .ref (ad 0)), (1, .int (nI (cu)))] := hl
          obtain ⟨hW, hK⟩ := hB
          have hS : va_S (Ao ad 36) s.heap s.heap [] := va_S.rf
          refine lv_aload_n hx hb dX4_next_0 rfl (lv_at hl 0 rfl) ?_
          refine lv_iload_n hx hb dX4_next_1 rfl (lv_at hl 1 rfl) ?_
          refine k1_V hx hb hml hown hG cs_X4_147 (k_openCursor l D cI cC ad S N cu b k n t (by omega) hC (by omega)) (by decide) (pzV hK rfl hW.rc hW) rfl hl.1 rfl (Nat.le_of_ble_eq_true rfl) dX4_next_2 ⟨Nat.zero_le _, Nat.zero_le _⟩ rfl ?_
          have hCu : CuRaw D (ad (31 + cu)) (nI b) (nI k) (nI n) (bI t) s.heap := by
            have h := hW.cu (c := cu) (by omega)
            rw [show S.2.2.1 cu = some (b, k, n, t) from hC] at h
            exact h
          refine lv_astore_n (lv' := [(2, .ref (ad (31 + cu))), (0, .ref (ad 0)), (1, .int (nI (cu)))]) hx hb dX4_next_5 rfl hl (by decide) rfl (fun ls hl => ?_)
          refine lv_aload_n hx hb dX4_next_6 rfl (lv_at hl 1 rfl) ?_
          refine lv_aload_n hx hb dX4_next_7 rfl (lv_at hl 0 rfl) ?_
          refine gf_X4_153 hx hb hG hown hK hCu 0 rfl rfl dX4_next_8 ?_
          refine k1_V hx hb hml hown hG cs_X4_113 (k_bookOfNumber l D cI cC ad S N b (by omega)) (by decide) (pzV hK rfl hW.rc hW) rfl hl.1 rfl (Nat.le_of_ble_eq_true rfl) dX4_next_11 ⟨Nat.zero_le _, Nat.zero_le _⟩ rfl ?_
          refine lv_astore_n (lv' := [(3, .ref ((bk_ ad b) 0)), (2, .ref (ad (31 + cu))), (0, .ref (ad 0)), (1, .int (nI (cu)))]) hx hb dX4_next_14 rfl hl (by decide) rfl (fun ls hl => ?_)
          refine lv_aload_n hx hb dX4_next_15 rfl (lv_at hl 1 rfl) ?_
          refine gf_X4_150 hx hb hG hown hK hCu 0 rfl rfl dX4_next_16 ?_
          refine lv_istore (lv' := [(4, .int (nI (n))), (3, .ref ((bk_ ad b) 0)), (2, .ref (ad (31 + cu))), (0, .ref (ad 0)), (1, .int (nI (cu)))]) hx hb dX4_next_19 hl (by decide) rfl (fun ls hl => ?_)
          refine lv_iload hx hb dX4_next_21 (lv_at hl 0 rfl) ?_
          refine lv_aload_n hx hb dX4_next_23 rfl (lv_at hl 1 rfl) ?_
          refine gf_X4_57 hx hb hG hown hK (hW.bk (b := b) (by omega)).1.obj 0 rfl rfl dX4_next_24 ?_
          refine x_cmp_lt (tgt := 40) hx hb dX4_next_27 (by decide) (by omega) (by omega) (fun zc1 => ?_) (fun zc1 => False.elim (by first | omega | contradiction | exact absurd zc1 (m1_ne _ (by omega)) | exact absurd zc1 (by decide) | exact absurd (Eq.symm zc1) (m1_ne _ (by omega)) | (simp_all; done)))
          refine lv_aload_n hx hb dX4_next_40 rfl (lv_at hl 2 rfl) ?_
          refine k2_V hx hb hml hown hG cs_X4_158 (c_goOn l D (ad (31 + cu)) b k n t) (by decide) (pzV (hK.sub (tys' := []) [] rfl) rfl hCu.rc hCu) rfl hl.1 rfl (Nat.le_of_ble_eq_true rfl) dX4_next_41 ⟨Nat.zero_le _, Nat.zero_le _⟩ rfl hS (cu_Ao (by omega)) (fun H locs hB0 hz hk hS => ?_)
          have hW := hW.cur hap (c := cu) (by omega) (fun q z => z) hk (x := some (b, k, n + 1, true)) hB0
          refine lv_aload_n hx hb dX4_next_44 rfl (lv_at hl 2 rfl) ?_
          refine gf_X4_161 hx hb hG hown hK hB0 0 rfl rfl dX4_next_45 ?_
          refine lv_iconst (v := nI 1) hx hb dX4_next_48 (by decide) ?_
          refine x_cmp_ne (tgt := 61) hx hb dX4_next_49 (by decide) (by omega) (by omega) (fun zc2 => False.elim (by first | omega | contradiction | exact absurd zc2 (m1_ne _ (by omega)) | exact absurd zc2 (by decide) | exact absurd (Eq.symm zc2) (m1_ne _ (by omega)) | (simp_all; done))) (fun zc2 => ?_)
          refine lv_aload_n hx hb dX4_next_52 rfl (lv_at hl 1 rfl) ?_
          refine lv_iload hx hb dX4_next_53 (lv_at hl 0 rfl) ?_
          refine k1_V hx hb hml hown hG cs_X4_93 (c_valueOn l D cI (bk_ ad b) (lgO b) (bdO S b) (S.1 b) n (by omega)) (by decide) (pzV (hK.sub (tys' := [(cI, .int)]) [0] rfl) rfl (hW.bk (b := b) (by omega)).1.rc (hW.bk (b := b) (by omega)).1) rfl hl.1 rfl (Nat.le_of_ble_eq_true rfl) dX4_next_55 ⟨Nat.zero_le _, Nat.zero_le _⟩ rfl ?_
          refine lv_goto (tgt := 67) hx hb dX4_next_58 (by decide) ?_
          exact w_i (PB := (fun H => Wc D cI cC ad (stC S cu (some (b, k, n + 1, true))) (N + 2000) H)) rfl (hW.mono (by omega)) hS hx hb hr hlocks dX4_next_67
        · skip
          have e9 : sp_next S (nI (cu)) = (0, kf (S.1 b) n, stC S cu (some (b, k, n + 1, true))) := by simp [sp_next, hbk, hC, hlt, hk1]
          rw [e9]
          refine m_start (by decide) (Nat.le_of_ble_eq_true rfl) ?_
          intro p e s m below meth c hx hb hr hG hown hlocks hml hB ls hl
          have hl : lv_has ls 5 [(0, .ref (ad 0)), (1, .int (nI (cu)))] := hl
          obtain ⟨hW, hK⟩ := hB
          have hS : va_S (Ao ad 36) s.heap s.heap [] := va_S.rf
          refine lv_aload_n hx hb dX4_next_0 rfl (lv_at hl 0 rfl) ?_
          refine lv_iload_n hx hb dX4_next_1 rfl (lv_at hl 1 rfl) ?_
          refine k1_V hx hb hml hown hG cs_X4_147 (k_openCursor l D cI cC ad S N cu b k n t (by omega) hC (by omega)) (by decide) (pzV hK rfl hW.rc hW) rfl hl.1 rfl (Nat.le_of_ble_eq_true rfl) dX4_next_2 ⟨Nat.zero_le _, Nat.zero_le _⟩ rfl ?_
          have hCu : CuRaw D (ad (31 + cu)) (nI b) (nI k) (nI n) (bI t) s.heap := by
            have h := hW.cu (c := cu) (by omega)
            rw [show S.2.2.1 cu = some (b, k, n, t) from hC] at h
            exact h
          refine lv_astore_n (lv' := [(2, .ref (ad (31 + cu))), (0, .ref (ad 0)), (1, .int (nI (cu)))]) hx hb dX4_next_5 rfl hl (by decide) rfl (fun ls hl => ?_)
          refine lv_aload_n hx hb dX4_next_6 rfl (lv_at hl 1 rfl) ?_
          refine lv_aload_n hx hb dX4_next_7 rfl (lv_at hl 0 rfl) ?_
          refine gf_X4_153 hx hb hG hown hK hCu 0 rfl rfl dX4_next_8 ?_
          refine k1_V hx hb hml hown hG cs_X4_113 (k_bookOfNumber l D cI cC ad S N b (by omega)) (by decide) (pzV hK rfl hW.rc hW) rfl hl.1 rfl (Nat.le_of_ble_eq_true rfl) dX4_next_11 ⟨Nat.zero_le _, Nat.zero_le _⟩ rfl ?_
          refine lv_astore_n (lv' := [(3, .ref ((bk_ ad b) 0)), (2, .ref (ad (31 + cu))), (0, .ref (ad 0)), (1, .int (nI (cu)))]) hx hb dX4_next_14 rfl hl (by decide) rfl (fun ls hl => ?_)
          refine lv_aload_n hx hb dX4_next_15 rfl (lv_at hl 1 rfl) ?_
          refine gf_X4_150 hx hb hG hown hK hCu 0 rfl rfl dX4_next_16 ?_
          refine lv_istore (lv' := [(4, .int (nI (n))), (3, .ref ((bk_ ad b) 0)), (2, .ref (ad (31 + cu))), (0, .ref (ad 0)), (1, .int (nI (cu)))]) hx hb dX4_next_19 hl (by decide) rfl (fun ls hl => ?_)
          refine lv_iload hx hb dX4_next_21 (lv_at hl 0 rfl) ?_
          refine lv_aload_n hx hb dX4_next_23 rfl (lv_at hl 1 rfl) ?_
          refine gf_X4_57 hx hb hG hown hK (hW.bk (b := b) (by omega)).1.obj 0 rfl rfl dX4_next_24 ?_
          refine x_cmp_lt (tgt := 40) hx hb dX4_next_27 (by decide) (by omega) (by omega) (fun zc1 => ?_) (fun zc1 => False.elim (by first | omega | contradiction | exact absurd zc1 (m1_ne _ (by omega)) | exact absurd zc1 (by decide) | exact absurd (Eq.symm zc1) (m1_ne _ (by omega)) | (simp_all; done)))
          refine lv_aload_n hx hb dX4_next_40 rfl (lv_at hl 2 rfl) ?_
          refine k2_V hx hb hml hown hG cs_X4_158 (c_goOn l D (ad (31 + cu)) b k n t) (by decide) (pzV (hK.sub (tys' := []) [] rfl) rfl hCu.rc hCu) rfl hl.1 rfl (Nat.le_of_ble_eq_true rfl) dX4_next_41 ⟨Nat.zero_le _, Nat.zero_le _⟩ rfl hS (cu_Ao (by omega)) (fun H locs hB0 hz hk hS => ?_)
          have hW := hW.cur hap (c := cu) (by omega) (fun q z => z) hk (x := some (b, k, n + 1, true)) hB0
          refine lv_aload_n hx hb dX4_next_44 rfl (lv_at hl 2 rfl) ?_
          refine gf_X4_161 hx hb hG hown hK hB0 0 rfl rfl dX4_next_45 ?_
          refine lv_iconst (v := nI 1) hx hb dX4_next_48 (by decide) ?_
          refine x_cmp_ne (tgt := 61) hx hb dX4_next_49 (by decide) (by omega) (by omega) (fun zc2 => ?_) (fun zc2 => False.elim (by first | omega | contradiction | exact absurd zc2 (m1_ne _ (by omega)) | exact absurd zc2 (by decide) | exact absurd (Eq.symm zc2) (m1_ne _ (by omega)) | (simp_all; done)))
          refine lv_aload_n hx hb dX4_next_61 rfl (lv_at hl 1 rfl) ?_
          refine lv_iload hx hb dX4_next_62 (lv_at hl 0 rfl) ?_
          refine k1_V hx hb hml hown hG cs_X4_132 (c_keyOn l D cI (bk_ ad b) (lgO b) (bdO S b) (S.1 b) n (by omega)) (by decide) (pzV (hK.sub (tys' := [(cI, .int)]) [0] rfl) rfl (hW.bk (b := b) (by omega)).1.rc (hW.bk (b := b) (by omega)).1) rfl hl.1 rfl (Nat.le_of_ble_eq_true rfl) dX4_next_64 ⟨Nat.zero_le _, Nat.zero_le _⟩ rfl ?_
          exact w_i (PB := (fun H => Wc D cI cC ad (stC S cu (some (b, k, n + 1, true))) (N + 2000) H)) rfl (hW.mono (by omega)) hS hx hb hr hlocks dX4_next_67
      · skip
        exact absurd hok (by unfold sp_next; rw [hbk]; simp [hC, hlt])
  · skip
    exact absurd hok (by unfold sp_next; rw [hbk]; simp)
set_option maxHeartbeats 4000000 in
set_option maxRecDepth 100000 in
theorem ok_removeAt (l : Launch) (D : va_G) (cI cC : ClassId) (ad : Nat → Nat) (S : St) (N : Nat) (x : Int32) (hI : Inv S) (hN : N + 2000 < 2 ^ 31) (hap : Ap ad 36) (hok : (sp_removeAt S x).1 = 0) : Met l yX4_removeAt (ws_ yX4_removeAt cX4_removeAt 4 (some .int)) (rmN 6) (va_Pc [.ref (ad 0), .int x] (pz D [(cI, .int), (cC, .char)] (fun H => Wc D cI cC ad S N H))) (Wq (some (.int (sp_removeAt S x).2.1)) (fun H => Wc D cI cC ad (sp_removeAt S x).2.2 (N + 2000) H) (Ao ad 36)) 0 0 (Ao ad 36) := by
  have hbd2 : S.2.1 ≤ 40 := hI.2.2.2.1
  have hCC : ∀ cu, cu < 3 → ∀ y, S.2.2.1 cu = some y → y.1 < 4 := fun cu hcu y hy => by have h := hI.2.2.2.2.1 cu hcu; rw [hy] at h; exact h.1
  rcases bkn_cases 3 (by decide) x with ⟨cu, hc3, rfl, hbk⟩ | ⟨hbk, hno⟩
  · skip
    have hCu0 := hI.2.2.2.2.1 cu hc3
    cases hC : S.2.2.1 cu with
    | none =>
      exact absurd hok (by unfold sp_removeAt; rw [hbk]; simp [hC])
    | some x9 =>
      obtain ⟨b, k, n, t⟩ := x9
      rw [hC] at hCu0
      obtain ⟨hb4, hk3, hnl, ht1⟩ := hCu0
      have hN2 := hI.1 b hb4
      by_cases h3 : b = 3
      · skip
        exact absurd hok (by unfold sp_removeAt; rw [hbk]; simp [hC, h3])
      · cases ht : t with
        | false =>
          exact absurd hok (by unfold sp_removeAt; rw [hbk]; simp [hC, h3, ht])
        | true =>
          have hn1 := ht1 ht
          subst ht
          have e9 : sp_removeAt S (nI (cu)) = (0, nI ((S.1 b).length - 1), clB (stC (upB S b ((S.1 b).eraseIdx (n - 1))) cu (some (b, k, n - 1, false))) b (nI cu)) := by simp [sp_removeAt, hbk, hC, h3]
          rw [e9]
          refine m_start (by decide) (Nat.le_of_ble_eq_true rfl) ?_
          intro p e s m below meth c hx hb hr hG hown hlocks hml hB ls hl
          have hl : lv_has ls 4 [(0, .ref (ad 0)), (1, .int (nI (cu)))] := hl
          obtain ⟨hW, hK⟩ := hB
          have hS : va_S (Ao ad 36) s.heap s.heap [] := va_S.rf
          refine lv_aload_n hx hb dX4_removeAt_0 rfl (lv_at hl 0 rfl) ?_
          refine lv_iload_n hx hb dX4_removeAt_1 rfl (lv_at hl 1 rfl) ?_
          refine k1_V hx hb hml hown hG cs_X4_137 (k_cursorOfNumber l D cI cC ad S N cu (by omega)) (by decide) (pzV hK rfl hW.rc hW) rfl hl.1 rfl (Nat.le_of_ble_eq_true rfl) dX4_removeAt_2 ⟨Nat.zero_le _, Nat.zero_le _⟩ rfl ?_
          have hCu : CuRaw D (ad (31 + cu)) (nI b) (nI k) (nI n) (bI true) s.heap := by
            have h := hW.cu (c := cu) (by omega)
            rw [show S.2.2.1 cu = some (b, k, n, true) from hC] at h
            exact h
          refine lv_astore_n (lv' := [(2, .ref (ad (31 + cu))), (0, .ref (ad 0)), (1, .int (nI (cu)))]) hx hb dX4_removeAt_5 rfl hl (by decide) rfl (fun ls hl => ?_)
          refine lv_aload_n hx hb dX4_removeAt_6 rfl (lv_at hl 1 rfl) ?_
          refine lv_aload_n hx hb dX4_removeAt_7 rfl (lv_at hl 0 rfl) ?_
          refine k1_V hx hb hml hown hG cs_X4_164 (k_requireChangeablePair l D cI cC ad S N cu b k n (by omega) hC (by omega)) (by decide) (pzV hK rfl hW.rc hW) rfl hl.1 rfl (Nat.le_of_ble_eq_true rfl) dX4_removeAt_8 ⟨Nat.zero_le _, Nat.zero_le _⟩ rfl ?_
          refine lv_aload_n hx hb dX4_removeAt_11 rfl (lv_at hl 1 rfl) ?_
          refine lv_aload_n hx hb dX4_removeAt_12 rfl (lv_at hl 0 rfl) ?_
          refine gf_X4_153 hx hb hG hown hK hCu 0 rfl rfl dX4_removeAt_13 ?_
          refine k1_V hx hb hml hown hG cs_X4_113 (k_bookOfNumber l D cI cC ad S N b (by omega)) (by decide) (pzV hK rfl hW.rc hW) rfl hl.1 rfl (Nat.le_of_ble_eq_true rfl) dX4_removeAt_16 ⟨Nat.zero_le _, Nat.zero_le _⟩ rfl ?_
          refine lv_astore_n (lv' := [(3, .ref ((bk_ ad b) 0)), (2, .ref (ad (31 + cu))), (0, .ref (ad 0)), (1, .int (nI (cu)))]) hx hb dX4_removeAt_19 rfl hl (by decide) rfl (fun ls hl => ?_)
          refine lv_aload_n hx hb dX4_removeAt_20 rfl (lv_at hl 0 rfl) ?_
          refine lv_aload_n hx hb dX4_removeAt_21 rfl (lv_at hl 1 rfl) ?_
          refine k1_V hx hb hml hown hG cs_X4_168 (c_lastPlace l D (ad (31 + cu)) b k n true hn1) (by decide) (pzV (hK.sub (tys' := []) [] rfl) rfl hCu.rc hCu) rfl hl.1 rfl (Nat.le_of_ble_eq_true rfl) dX4_removeAt_22 ⟨Nat.zero_le _, Nat.zero_le _⟩ rfl ?_
          refine k2_V hx hb hml hown hG cs_X4_96 (c_leave l D cI (bk_ ad b) (lgO b) (bdO S b) (S.1 b) N (n - 1) (hN2.1) (by omega) (bk_Ap (by omega) hap)) (by decide) (pzV (hK.sub (tys' := [(cI, .int)]) [0] rfl) rfl (hW.bk (b := b) (by omega)).1.rc (hW.bk (b := b) (by omega))) rfl hl.1 rfl (Nat.le_of_ble_eq_true rfl) dX4_removeAt_25 ⟨Nat.zero_le _, Nat.zero_le _⟩ rfl hS (bk_Ao (by omega)) (fun H locs hB0 hz hk hS => ?_)
          have hW := hW.book hap (b := b) (by omega) bk_A hk (M := N + 0) (L := ((S.1 b).eraseIdx (n - 1))) (by omega) hB0
          have hCu : CuRaw D (ad (31 + cu)) (nI b) (nI k) (nI n) (bI true) H := by
            have h := hW.cu (c := cu) (by omega)
            rw [show (upB S b ((S.1 b).eraseIdx (n - 1))).2.2.1 cu = some (b, k, n, true) from hC] at h
            exact h
          refine lv_aload_n hx hb dX4_removeAt_28 rfl (lv_at hl 1 rfl) ?_
          refine k2_V hx hb hml hown hG cs_X4_172 (c_stepBack l D (ad (31 + cu)) b k n true hn1) (by decide) (pzV (hK.sub (tys' := []) [] rfl) rfl hCu.rc hCu) rfl hl.1 rfl (Nat.le_of_ble_eq_true rfl) dX4_removeAt_29 ⟨Nat.zero_le _, Nat.zero_le _⟩ rfl hS (cu_Ao (by omega)) (fun H locs hB0 hz hk hS => ?_)
          have hW := hW.cur hap (c := cu) (by omega) (fun q z => z) hk (x := some (b, k, n - 1, false)) hB0
          have hCC : ∀ c9, c9 < 3 → ∀ y, (stC S cu (some (b, k, n - 1, false))).2.2.1 c9 = some y → y.1 < 4 := fun c9 h9 y hy => by
            have hy : va_up S.2.2.1 cu (some (b, k, n - 1, false)) c9 = some y := hy
            rw [up_at] at hy
            by_cases e9 : c9 = cu
            · rw [if_pos e9] at hy; cases hy; exact hb4
            · rw [if_neg e9] at hy; exact hCC c9 h9 y hy
          refine lv_aload_n hx hb dX4_removeAt_32 rfl (lv_at hl 2 rfl) ?_
          refine lv_aload_n hx hb dX4_removeAt_33 rfl (lv_at hl 1 rfl) ?_
          refine gf_X4_153 hx hb hG hown hK hB0 0 rfl rfl dX4_removeAt_34 ?_
          refine lv_iload_n hx hb dX4_removeAt_37 rfl (lv_at hl 3 rfl) ?_
          refine k2_V hx hb hml hown hG cs_X4_67 (k_closeCursors l D cI cC ad (stC (upB S b ((S.1 b).eraseIdx (n - 1))) cu (some (b, k, n - 1, false))) N b (nI (cu)) (by omega) hCC hap) (by decide) (pzV hK rfl hW.rc hW) rfl hl.1 rfl (Nat.le_of_ble_eq_true rfl) dX4_removeAt_38 ⟨Nat.zero_le _, Nat.zero_le _⟩ rfl hS (fun q h => h) (fun H locs hW hz hk hS => ?_)
          refine lv_aload_n hx hb dX4_removeAt_41 rfl (lv_at hl 0 rfl) ?_
          refine gf_X4_57 hx hb hG hown hK (hW.bk (b := b) (by omega)).1.obj 0 rfl rfl dX4_removeAt_42 ?_
          exact w_i (PB := (fun H => Wc D cI cC ad (clB (stC (upB S b ((S.1 b).eraseIdx (n - 1))) cu (some (b, k, n - 1, false))) b (nI cu)) (N + 2000) H)) (by show nI (va_up S.1 b ((S.1 b).eraseIdx (n - 1)) b).length = _; rw [up_at, if_pos rfl, era_len (by omega)]) (hW.mono (by omega)) hS hx hb hr hlocks dX4_removeAt_45
  · skip
    exact absurd hok (by unfold sp_removeAt; rw [hbk]; simp)
set_option maxHeartbeats 4000000 in
set_option maxRecDepth 100000 in
theorem ok_setAt (l : Launch) (D : va_G) (cI cC : ClassId) (ad : Nat → Nat) (S : St) (N : Nat) (x v : Int32) (hI : Inv S) (hN : N + 2000 < 2 ^ 31) (hap : Ap ad 36) (hok : (sp_setAt S x v).1 = 0) : Met l yX4_setAt (ws_ yX4_setAt cX4_setAt 6 (some .int)) (rmN 6) (va_Pc [.ref (ad 0), .int x, .int v] (pz D [(cI, .int), (cC, .char)] (fun H => Wc D cI cC ad S N H))) (Wq (some (.int (sp_setAt S x v).2.1)) (fun H => Wc D cI cC ad (sp_setAt S x v).2.2 (N + 2000) H) (Ao ad 36)) 0 0 (Ao ad 36) := by
  have hbd2 : S.2.1 ≤ 40 := hI.2.2.2.1
  have hCC : ∀ cu, cu < 3 → ∀ y, S.2.2.1 cu = some y → y.1 < 4 := fun cu hcu y hy => by have h := hI.2.2.2.2.1 cu hcu; rw [hy] at h; exact h.1
  rcases bkn_cases 3 (by decide) x with ⟨cu, hc3, rfl, hbk⟩ | ⟨hbk, hno⟩
  · skip
    have hCu0 := hI.2.2.2.2.1 cu hc3
    cases hC : S.2.2.1 cu with
    | none =>
      exact absurd hok (by unfold sp_setAt; rw [hbk]; simp [hC])
    | some x9 =>
      obtain ⟨b, k, n, t⟩ := x9
      rw [hC] at hCu0
      obtain ⟨hb4, hk3, hnl, ht1⟩ := hCu0
      have hN2 := hI.1 b hb4
      by_cases hk2 : k = 2
      · skip
        by_cases h3 : b = 3
        · skip
          exact absurd hok (by unfold sp_setAt; rw [hbk]; simp [hC, hk2, h3])
        · cases ht : t with
          | false =>
            exact absurd hok (by unfold sp_setAt; rw [hbk]; simp [hC, hk2, h3, ht])
          | true =>
            have hn1 := ht1 ht
            subst ht
            have e9 : sp_setAt S (nI (cu)) v = (0, vf (S.1 b) (n - 1), clB (upB S b (sv (S.1 b) (n - 1) v)) b (nI cu)) := by simp [sp_setAt, hbk, hC, hk2, h3]
            rw [e9]
            refine m_start (by decide) (Nat.le_of_ble_eq_true rfl) ?_
            intro p e s m below meth c hx hb hr hG hown hlocks hml hB ls hl
            have hl : lv_has ls 6 [(0, .ref (ad 0)), (1, .int (nI (cu))), (2, .int (v))] := hl
            obtain ⟨hW, hK⟩ := hB
            have hS : va_S (Ao ad 36) s.heap s.heap [] := va_S.rf
            refine lv_aload_n hx hb dX4_setAt_0 rfl (lv_at hl 0 rfl) ?_
            refine lv_iload_n hx hb dX4_setAt_1 rfl (lv_at hl 1 rfl) ?_
            refine k1_V hx hb hml hown hG cs_X4_137 (k_cursorOfNumber l D cI cC ad S N cu (by omega)) (by decide) (pzV hK rfl hW.rc hW) rfl hl.1 rfl (Nat.le_of_ble_eq_true rfl) dX4_setAt_2 ⟨Nat.zero_le _, Nat.zero_le _⟩ rfl ?_
            have hCu : CuRaw D (ad (31 + cu)) (nI b) (nI k) (nI n) (bI true) s.heap := by
              have h := hW.cu (c := cu) (by omega)
              rw [show S.2.2.1 cu = some (b, k, n, true) from hC] at h
              exact h
            refine lv_astore_n (lv' := [(3, .ref (ad (31 + cu))), (0, .ref (ad 0)), (1, .int (nI (cu))), (2, .int (v))]) hx hb dX4_setAt_5 rfl hl (by decide) rfl (fun ls hl => ?_)
            refine lv_aload_n hx hb dX4_setAt_6 rfl (lv_at hl 0 rfl) ?_
            refine gf_X4_153 hx hb hG hown hK hCu 0 rfl rfl dX4_setAt_7 ?_
            refine lv_iconst (v := (-1)) hx hb dX4_setAt_10 (by decide) ?_
            refine lv_icmp_eq (tgt := 32) hx hb dX4_setAt_11 (by decide) (fun zc1 => False.elim (by first | omega | contradiction | exact absurd zc1 (m1_ne _ (by omega)) | exact absurd zc1 (by decide) | exact absurd (Eq.symm zc1) (m1_ne _ (by omega)) | (simp_all; done))) (fun zc1 => ?_)
            refine lv_aload_n hx hb dX4_setAt_14 rfl (lv_at hl 0 rfl) ?_
            refine gf_X4_161 hx hb hG hown hK hCu 0 rfl rfl dX4_setAt_15 ?_
            refine lv_iconst (v := nI 2) hx hb dX4_setAt_18 (by decide) ?_
            refine x_cmp_eq (tgt := 32) hx hb dX4_setAt_19 (by decide) (by omega) (by omega) (fun zc2 => ?_) (fun zc2 => False.elim (by first | omega | contradiction | exact absurd zc2 (m1_ne _ (by omega)) | exact absurd zc2 (by decide) | exact absurd (Eq.symm zc2) (m1_ne _ (by omega)) | (simp_all; done)))
            refine lv_aload_n hx hb dX4_setAt_32 rfl (lv_at hl 1 rfl) ?_
            refine lv_aload_n hx hb dX4_setAt_33 rfl (lv_at hl 0 rfl) ?_
            refine k1_V hx hb hml hown hG cs_X4_164 (k_requireChangeablePair l D cI cC ad S N cu b k n (by omega) hC (by omega)) (by decide) (pzV hK rfl hW.rc hW) rfl hl.1 rfl (Nat.le_of_ble_eq_true rfl) dX4_setAt_34 ⟨Nat.zero_le _, Nat.zero_le _⟩ rfl ?_
            refine lv_aload_n hx hb dX4_setAt_37 rfl (lv_at hl 1 rfl) ?_
            refine lv_aload_n hx hb dX4_setAt_38 rfl (lv_at hl 0 rfl) ?_
            refine gf_X4_153 hx hb hG hown hK hCu 0 rfl rfl dX4_setAt_39 ?_
            refine k1_V hx hb hml hown hG cs_X4_113 (k_bookOfNumber l D cI cC ad S N b (by omega)) (by decide) (pzV hK rfl hW.rc hW) rfl hl.1 rfl (Nat.le_of_ble_eq_true rfl) dX4_setAt_42 ⟨Nat.zero_le _, Nat.zero_le _⟩ rfl ?_
            refine lv_astore (lv' := [(4, .ref ((bk_ ad b) 0)), (3, .ref (ad (31 + cu))), (0, .ref (ad 0)), (1, .int (nI (cu))), (2, .int (v))]) hx hb dX4_setAt_45 hl (by decide) rfl (fun ls hl => ?_)
            refine lv_aload hx hb dX4_setAt_47 (lv_at hl 0 rfl) ?_
            refine lv_aload_n hx hb dX4_setAt_49 rfl (lv_at hl 1 rfl) ?_
            refine k1_V hx hb hml hown hG cs_X4_168 (c_lastPlace l D (ad (31 + cu)) b k n true hn1) (by decide) (pzV (hK.sub (tys' := []) [] rfl) rfl hCu.rc hCu) rfl hl.1 rfl (Nat.le_of_ble_eq_true rfl) dX4_setAt_50 ⟨Nat.zero_le _, Nat.zero_le _⟩ rfl ?_
            refine k1_V hx hb hml hown hG cs_X4_93 (c_valueOn l D cI (bk_ ad b) (lgO b) (bdO S b) (S.1 b) (n - 1) (by omega)) (by decide) (pzV (hK.sub (tys' := [(cI, .int)]) [0] rfl) rfl (hW.bk (b := b) (by omega)).1.rc (hW.bk (b := b) (by omega)).1) rfl hl.1 rfl (Nat.le_of_ble_eq_true rfl) dX4_setAt_53 ⟨Nat.zero_le _, Nat.zero_le _⟩ rfl ?_
            refine lv_istore (lv' := [(5, .int (vf (S.1 b) (n - 1))), (4, .ref ((bk_ ad b) 0)), (3, .ref (ad (31 + cu))), (0, .ref (ad 0)), (1, .int (nI (cu))), (2, .int (v))]) hx hb dX4_setAt_56 hl (by decide) rfl (fun ls hl => ?_)
            refine lv_aload hx hb dX4_setAt_58 (lv_at hl 1 rfl) ?_
            refine lv_aload_n hx hb dX4_setAt_60 rfl (lv_at hl 2 rfl) ?_
            refine k1_V hx hb hml hown hG cs_X4_168 (c_lastPlace l D (ad (31 + cu)) b k n true hn1) (by decide) (pzV (hK.sub (tys' := []) [] rfl) rfl hCu.rc hCu) rfl hl.1 rfl (Nat.le_of_ble_eq_true rfl) dX4_setAt_61 ⟨Nat.zero_le _, Nat.zero_le _⟩ rfl ?_
            refine lv_iload_n hx hb dX4_setAt_64 rfl (lv_at hl 5 rfl) ?_
            refine k2_V hx hb hml hown hG cs_X4_100 (c_give l D cI (bk_ ad b) (lgO b) (bdO S b) (S.1 b) (n - 1) v (by omega) ((bk_Ap (by omega) hap).sub (by decide))) (by decide) (pzV (hK.sub (tys' := [(cI, .int)]) [0] rfl) rfl (hW.bk (b := b) (by omega)).1.rc (hW.bk (b := b) (by omega)).1) rfl hl.1 rfl (Nat.le_of_ble_eq_true rfl) dX4_setAt_65 ⟨Nat.zero_le _, Nat.zero_le _⟩ rfl hS (bk_Ao3 (by omega)) (fun H locs hB0 hz hk hS => ?_)
            have hB0 := (hW.bk (b := b) (by omega)).give (bk_Ap (by omega) hap) hk hB0
            have hW := hW.book hap (b := b) (by omega) bk_A3 hk (M := N + 0) (L := (sv (S.1 b) (n - 1) v)) (by omega) hB0
            have hCu : CuRaw D (ad (31 + cu)) (nI b) (nI k) (nI n) (bI true) H := by
              have h := hW.cu (c := cu) (by omega)
              rw [show (upB S b (sv (S.1 b) (n - 1) v)).2.2.1 cu = some (b, k, n, true) from hC] at h
              exact h
            refine lv_aload_n hx hb dX4_setAt_68 rfl (lv_at hl 3 rfl) ?_
            refine lv_aload_n hx hb dX4_setAt_69 rfl (lv_at hl 2 rfl) ?_
            refine gf_X4_153 hx hb hG hown hK hCu 0 rfl rfl dX4_setAt_70 ?_
            refine lv_iload_n hx hb dX4_setAt_73 rfl (lv_at hl 4 rfl) ?_
            refine k2_V hx hb hml hown hG cs_X4_67 (k_closeCursors l D cI cC ad (upB S b (sv (S.1 b) (n - 1) v)) N b (nI (cu)) (by omega) hCC hap) (by decide) (pzV hK rfl hW.rc hW) rfl hl.1 rfl (Nat.le_of_ble_eq_true rfl) dX4_setAt_74 ⟨Nat.zero_le _, Nat.zero_le _⟩ rfl hS (fun q h => h) (fun H locs hW hz hk hS => ?_)
            refine lv_iload hx hb dX4_setAt_77 (lv_at hl 0 rfl) ?_
            exact w_i (PB := (fun H => Wc D cI cC ad (clB (upB S b (sv (S.1 b) (n - 1) v)) b (nI cu)) (N + 2000) H)) rfl (hW.mono (by omega)) hS hx hb hr hlocks dX4_setAt_79
      · skip
        exact absurd hok (by unfold sp_setAt; rw [hbk]; simp [hC, hk2])
  · skip
    exact absurd hok (by unfold sp_setAt; rw [hbk]; simp)
set_option maxHeartbeats 4000000 in
set_option maxRecDepth 100000 in
theorem ok_bookOf (l : Launch) (D : va_G) (cI cC : ClassId) (ad : Nat → Nat) (S : St) (N : Nat) (x : Int32) (hI : Inv S) (hN : N + 2000 < 2 ^ 31) (hap : Ap ad 36) (hok : (sp_bookOf S x).1 = 0) : Met l yX4_bookOf (ws_ yX4_bookOf cX4_bookOf 2 (some .int)) (rmN 6) (va_Pc [.ref (ad 0), .int x] (pz D [(cI, .int), (cC, .char)] (fun H => Wc D cI cC ad S N H))) (Wq (some (.int (sp_bookOf S x).2.1)) (fun H => Wc D cI cC ad (sp_bookOf S x).2.2 (N + 2000) H) (Ao ad 36)) 0 0 (Ao ad 36) := by
  have hbd2 : S.2.1 ≤ 40 := hI.2.2.2.1
  have hCC : ∀ cu, cu < 3 → ∀ y, S.2.2.1 cu = some y → y.1 < 4 := fun cu hcu y hy => by have h := hI.2.2.2.2.1 cu hcu; rw [hy] at h; exact h.1
  rcases bkn_cases 3 (by decide) x with ⟨cu, hc3, rfl, hbk⟩ | ⟨hbk, hno⟩
  · skip
    have hCu0 := hI.2.2.2.2.1 cu hc3
    cases hC : S.2.2.1 cu with
    | none =>
      have e9 : sp_bookOf S (nI (cu)) = (0, -1, S) := by simp [sp_bookOf, hbk, hC]
      rw [e9]
      refine m_start (by decide) (Nat.le_of_ble_eq_true rfl) ?_
      intro p e s m below meth c hx hb hr hG hown hlocks hml hB ls hl
      have hl : lv_has ls 2 [(0, .ref (ad 0)), (1, .int (nI (cu)))] := hl
      obtain ⟨hW, hK⟩ := hB
      have hS : va_S (Ao ad 36) s.heap s.heap [] := va_S.rf
      have hCu := hW.cu (c := cu) (by omega)
      rw [hC] at hCu
      obtain ⟨x1, y1, z1, hCu⟩ := hCu
      refine lv_aload_n hx hb dX4_bookOf_0 rfl (lv_at hl 0 rfl) ?_
      refine lv_iload_n hx hb dX4_bookOf_1 rfl (lv_at hl 1 rfl) ?_
      refine k1_V hx hb hml hown hG cs_X4_137 (k_cursorOfNumber l D cI cC ad S N cu (by omega)) (by decide) (pzV hK rfl hW.rc hW) rfl hl.1 rfl (Nat.le_of_ble_eq_true rfl) dX4_bookOf_2 ⟨Nat.zero_le _, Nat.zero_le _⟩ rfl ?_
      refine gf_X4_153 hx hb hG hown hK hCu 0 rfl rfl dX4_bookOf_5 ?_
      exact w_i (PB := (fun H => Wc D cI cC ad S (N + 2000) H)) rfl (hW.mono (by omega)) hS hx hb hr hlocks dX4_bookOf_8
    | some x9 =>
      obtain ⟨b, k, n, t⟩ := x9
      rw [hC] at hCu0
      obtain ⟨hb4, hk3, hnl, ht1⟩ := hCu0
      have hN2 := hI.1 b hb4
      have e9 : sp_bookOf S (nI (cu)) = (0, nI b, S) := by simp [sp_bookOf, hbk, hC]
      rw [e9]
      refine m_start (by decide) (Nat.le_of_ble_eq_true rfl) ?_
      intro p e s m below meth c hx hb hr hG hown hlocks hml hB ls hl
      have hl : lv_has ls 2 [(0, .ref (ad 0)), (1, .int (nI (cu)))] := hl
      obtain ⟨hW, hK⟩ := hB
      have hS : va_S (Ao ad 36) s.heap s.heap [] := va_S.rf
      have hCu : CuRaw D (ad (31 + cu)) (nI b) (nI k) (nI n) (bI t) s.heap := by
        have h := hW.cu (c := cu) (by omega)
        rw [show S.2.2.1 cu = some (b, k, n, t) from hC] at h
        exact h
      refine lv_aload_n hx hb dX4_bookOf_0 rfl (lv_at hl 0 rfl) ?_
      refine lv_iload_n hx hb dX4_bookOf_1 rfl (lv_at hl 1 rfl) ?_
      refine k1_V hx hb hml hown hG cs_X4_137 (k_cursorOfNumber l D cI cC ad S N cu (by omega)) (by decide) (pzV hK rfl hW.rc hW) rfl hl.1 rfl (Nat.le_of_ble_eq_true rfl) dX4_bookOf_2 ⟨Nat.zero_le _, Nat.zero_le _⟩ rfl ?_
      refine gf_X4_153 hx hb hG hown hK hCu 0 rfl rfl dX4_bookOf_5 ?_
      exact w_i (PB := (fun H => Wc D cI cC ad S (N + 2000) H)) rfl (hW.mono (by omega)) hS hx hb hr hlocks dX4_bookOf_8
  · skip
    exact absurd hok (by unfold sp_bookOf; rw [hbk]; simp)
set_option maxHeartbeats 4000000 in
set_option maxRecDepth 100000 in
theorem ok_open (l : Launch) (D : va_G) (cI cC : ClassId) (ad : Nat → Nat) (S : St) (N : Nat) (x y z : Int32) (hI : Inv S) (hN : N + 2000 < 2 ^ 31) (hap : Ap ad 36) (hok : (sp_open S x y z).1 = 0) : Met l yX4_open (ws_ yX4_open cX4_open 6 (some .int)) (rmN 6) (va_Pc [.ref (ad 0), .int x, .int y, .int z] (pz D [(cI, .int), (cC, .char)] (fun H => Wc D cI cC ad S N H))) (Wq (some (.int (sp_open S x y z).2.1)) (fun H => Wc D cI cC ad (sp_open S x y z).2.2 (N + 2000) H) (Ao ad 36)) 0 0 (Ao ad 36) := by
  have hbd2 : S.2.1 ≤ 40 := hI.2.2.2.1
  have hCC : ∀ cu, cu < 3 → ∀ y, S.2.2.1 cu = some y → y.1 < 4 := fun cu hcu y hy => by have h := hI.2.2.2.2.1 cu hcu; rw [hy] at h; exact h.1
  rcases bkn_cases 3 (by decide) x with ⟨cu, hc3, rfl, hbx⟩ | ⟨hbx, hnox⟩
  · rcases bkn_cases 4 (by decide) y with ⟨b, hb4, rfl, hby⟩ | ⟨hby, hnoy⟩
    · rcases bkn_cases 3 (by decide) z with ⟨k, hk3, rfl, hbz⟩ | ⟨hbz, hnoz⟩
      · skip
        have e9 : sp_open S (nI (cu)) (nI (b)) (nI (k)) = (0, nI (S.1 b).length, stC S cu (some (b, k, 0, false))) := by simp [sp_open, hbx, hby, hbz]
        rw [e9]
        refine m_start (by decide) (Nat.le_of_ble_eq_true rfl) ?_
        intro p e s m below meth c hx hb hr hG hown hlocks hml hB ls hl
        have hl : lv_has ls 6 [(0, .ref (ad 0)), (1, .int (nI (cu))), (2, .int (nI (b))), (3, .int (nI (k)))] := hl
        obtain ⟨hW, hK⟩ := hB
        have hS : va_S (Ao ad 36) s.heap s.heap [] := va_S.rf
        obtain ⟨w9, x1, y1, z1, hCu⟩ := (hW.cu (c := cu) (by omega)).raw
        refine lv_aload_n hx hb dX4_open_0 rfl (lv_at hl 0 rfl) ?_
        refine lv_iload_n hx hb dX4_open_1 rfl (lv_at hl 1 rfl) ?_
        refine k1_V hx hb hml hown hG cs_X4_137 (k_cursorOfNumber l D cI cC ad S N cu (by omega)) (by decide) (pzV hK rfl hW.rc hW) rfl hl.1 rfl (Nat.le_of_ble_eq_true rfl) dX4_open_2 ⟨Nat.zero_le _, Nat.zero_le _⟩ rfl ?_
        refine lv_astore (lv' := [(4, .ref (ad (31 + cu))), (0, .ref (ad 0)), (1, .int (nI (cu))), (2, .int (nI (b))), (3, .int (nI (k)))]) hx hb dX4_open_5 hl (by decide) rfl (fun ls hl => ?_)
        refine lv_aload_n hx hb dX4_open_7 rfl (lv_at hl 1 rfl) ?_
        refine lv_iload_n hx hb dX4_open_8 rfl (lv_at hl 3 rfl) ?_
        refine k1_V hx hb hml hown hG cs_X4_113 (k_bookOfNumber l D cI cC ad S N b (by omega)) (by decide) (pzV hK rfl hW.rc hW) rfl hl.1 rfl (Nat.le_of_ble_eq_true rfl) dX4_open_9 ⟨Nat.zero_le _, Nat.zero_le _⟩ rfl ?_
        refine lv_astore (lv' := [(5, .ref ((bk_ ad b) 0)), (4, .ref (ad (31 + cu))), (0, .ref (ad 0)), (1, .int (nI (cu))), (2, .int (nI (b))), (3, .int (nI (k)))]) hx hb dX4_open_12 hl (by decide) rfl (fun ls hl => ?_)
        refine lv_aload_n hx hb dX4_open_14 rfl (lv_at hl 2 rfl) ?_
        refine lv_iload_n hx hb dX4_open_15 rfl (lv_at hl 5 rfl) ?_
        refine k1_V hx hb hml hown hG cs_X4_141 (k_requireKind l D cI cC ad S N k (by omega)) (by decide) (pzV hK rfl hW.rc hW) rfl hl.1 rfl (Nat.le_of_ble_eq_true rfl) dX4_open_16 ⟨Nat.zero_le _, Nat.zero_le _⟩ rfl ?_
        refine lv_aload hx hb dX4_open_19 (lv_at hl 1 rfl) ?_
        refine lv_iload_n hx hb dX4_open_21 rfl (lv_at hl 4 rfl) ?_
        refine lv_iload_n hx hb dX4_open_22 rfl (lv_at hl 5 rfl) ?_
        refine k2_V hx hb hml hown hG cs_X4_144 (c_openAt l D (ad (31 + cu)) w9 x1 y1 z1 b k) (by decide) (pzV (hK.sub (tys' := []) [] rfl) rfl hCu.rc hCu) rfl hl.1 rfl (Nat.le_of_ble_eq_true rfl) dX4_open_23 ⟨Nat.zero_le _, Nat.zero_le _⟩ rfl hS (cu_Ao (by omega)) (fun H locs hB0 hz hk hS => ?_)
        have hW := hW.cur hap (c := cu) (by omega) (fun q z => z) hk (x := some (b, k, 0, false)) hB0
        refine lv_aload hx hb dX4_open_26 (lv_at hl 0 rfl) ?_
        refine gf_X4_57 hx hb hG hown hK (hW.bk (b := b) (by omega)).1.obj 0 rfl rfl dX4_open_28 ?_
        exact w_i (PB := (fun H => Wc D cI cC ad (stC S cu (some (b, k, 0, false))) (N + 2000) H)) rfl (hW.mono (by omega)) hS hx hb hr hlocks dX4_open_31
      · skip
        exact absurd hok (by simp [sp_open, hbx, hby, hbz])
    · skip
      exact absurd hok (by simp [sp_open, hbx, hby])
  · skip
    exact absurd hok (by simp [sp_open, hbx])
set_option maxHeartbeats 4000000 in
set_option maxRecDepth 100000 in
theorem ok_size (l : Launch) (D : va_G) (cI cC : ClassId) (ad : Nat → Nat) (S : St) (N : Nat) (x : Int32) (hI : Inv S) (hN : N + 2000 < 2 ^ 31) (hap : Ap ad 36) (hok : (sp_size S x).1 = 0) : Met l yX4_size (ws_ yX4_size cX4_size 2 (some .int)) (rmN 6) (va_Pc [.ref (ad 0), .int x] (pz D [(cI, .int), (cC, .char)] (fun H => Wc D cI cC ad S N H))) (Wq (some (.int (sp_size S x).2.1)) (fun H => Wc D cI cC ad (sp_size S x).2.2 (N + 2000) H) (Ao ad 36)) 0 0 (Ao ad 36) := by
  have hbd2 : S.2.1 ≤ 40 := hI.2.2.2.1
  have hCC : ∀ cu, cu < 3 → ∀ y, S.2.2.1 cu = some y → y.1 < 4 := fun cu hcu y hy => by have h := hI.2.2.2.2.1 cu hcu; rw [hy] at h; exact h.1
  rcases bkn_cases 4 (by decide) x with ⟨b, hb4, rfl, hbk⟩ | ⟨hbk, hno⟩
  · skip
    have hN2 := hI.1 b hb4
    have e9 : sp_size S (nI (b)) = (0, nI (S.1 b).length, S) := by simp [sp_size, askB, hbk]
    rw [e9]
    refine m_start (by decide) (Nat.le_of_ble_eq_true rfl) ?_
    intro p e s m below meth c hx hb hr hG hown hlocks hml hB ls hl
    have hl : lv_has ls 2 [(0, .ref (ad 0)), (1, .int (nI (b)))] := hl
    obtain ⟨hW, hK⟩ := hB
    have hS : va_S (Ao ad 36) s.heap s.heap [] := va_S.rf
    refine lv_aload_n hx hb dX4_size_0 rfl (lv_at hl 0 rfl) ?_
    refine lv_iload_n hx hb dX4_size_1 rfl (lv_at hl 1 rfl) ?_
    refine k1_V hx hb hml hown hG cs_X4_113 (k_bookOfNumber l D cI cC ad S N b (by omega)) (by decide) (pzV hK rfl hW.rc hW) rfl hl.1 rfl (Nat.le_of_ble_eq_true rfl) dX4_size_2 ⟨Nat.zero_le _, Nat.zero_le _⟩ rfl ?_
    refine gf_X4_57 hx hb hG hown hK (hW.bk (b := b) (by omega)).1.obj 0 rfl rfl dX4_size_5 ?_
    exact w_i (PB := (fun H => Wc D cI cC ad S (N + 2000) H)) rfl (hW.mono (by omega)) hS hx hb hr hlocks dX4_size_8
  · skip
    exact absurd hok (by simp [sp_size, askB, hbk])
set_option maxHeartbeats 4000000 in
set_option maxRecDepth 100000 in
theorem ok_hash (l : Launch) (D : va_G) (cI cC : ClassId) (ad : Nat → Nat) (S : St) (N : Nat) (x : Int32) (hI : Inv S) (hN : N + 2000 < 2 ^ 31) (hap : Ap ad 36) (hok : (sp_hash S x).1 = 0) : Met l yX4_hash (ws_ yX4_hash cX4_hash 2 (some .int)) (rmN 6) (va_Pc [.ref (ad 0), .int x] (pz D [(cI, .int), (cC, .char)] (fun H => Wc D cI cC ad S N H))) (Wq (some (.int (sp_hash S x).2.1)) (fun H => Wc D cI cC ad (sp_hash S x).2.2 (N + 2000) H) (Ao ad 36)) 0 0 (Ao ad 36) := by
  have hbd2 : S.2.1 ≤ 40 := hI.2.2.2.1
  have hCC : ∀ cu, cu < 3 → ∀ y, S.2.2.1 cu = some y → y.1 < 4 := fun cu hcu y hy => by have h := hI.2.2.2.2.1 cu hcu; rw [hy] at h; exact h.1
  rcases bkn_cases 4 (by decide) x with ⟨b, hb4, rfl, hbk⟩ | ⟨hbk, hno⟩
  · skip
    have hN2 := hI.1 b hb4
    have e9 : sp_hash S (nI (b)) = (0, hsL (S.1 b) (S.1 b).length, S) := by simp [sp_hash, askB, hbk]
    rw [e9]
    refine m_start (by decide) (Nat.le_of_ble_eq_true rfl) ?_
    intro p e s m below meth c hx hb hr hG hown hlocks hml hB ls hl
    have hl : lv_has ls 2 [(0, .ref (ad 0)), (1, .int (nI (b)))] := hl
    obtain ⟨hW, hK⟩ := hB
    have hS : va_S (Ao ad 36) s.heap s.heap [] := va_S.rf
    refine lv_aload_n hx hb dX4_hash_0 rfl (lv_at hl 0 rfl) ?_
    refine lv_iload_n hx hb dX4_hash_1 rfl (lv_at hl 1 rfl) ?_
    refine k1_V hx hb hml hown hG cs_X4_113 (k_bookOfNumber l D cI cC ad S N b (by omega)) (by decide) (pzV hK rfl hW.rc hW) rfl hl.1 rfl (Nat.le_of_ble_eq_true rfl) dX4_hash_2 ⟨Nat.zero_le _, Nat.zero_le _⟩ rfl ?_
    refine k1_V hx hb hml hown hG cs_X4_191 (c_mixed l D cI (bk_ ad b) (lgO b) (bdO S b) (S.1 b)) (by decide) (pzV (hK.sub (tys' := [(cI, .int)]) [0] rfl) rfl (hW.bk (b := b) (by omega)).1.rc (hW.bk (b := b) (by omega)).1) rfl hl.1 rfl (Nat.le_of_ble_eq_true rfl) dX4_hash_5 ⟨Nat.zero_le _, Nat.zero_le _⟩ rfl ?_
    exact w_i (PB := (fun H => Wc D cI cC ad S (N + 2000) H)) rfl (hW.mono (by omega)) hS hx hb hr hlocks dX4_hash_8
  · skip
    exact absurd hok (by simp [sp_hash, askB, hbk])
set_option maxHeartbeats 4000000 in
set_option maxRecDepth 100000 in
theorem ok_hasValue (l : Launch) (D : va_G) (cI cC : ClassId) (ad : Nat → Nat) (S : St) (N : Nat) (x v : Int32) (hI : Inv S) (hN : N + 2000 < 2 ^ 31) (hap : Ap ad 36) (hok : (sp_hasValue S x v).1 = 0) : Met l yX4_hasValue (ws_ yX4_hasValue cX4_hasValue 3 (some .boolean)) (rmN 6) (va_Pc [.ref (ad 0), .int x, .int v] (pz D [(cI, .int), (cC, .char)] (fun H => Wc D cI cC ad S N H))) (Wq (some (.int (bI (sp_hasValue S x v).2.1))) (fun H => Wc D cI cC ad (sp_hasValue S x v).2.2 (N + 2000) H) (Ao ad 36)) 0 0 (Ao ad 36) := by
  have hbd2 : S.2.1 ≤ 40 := hI.2.2.2.1
  have hCC : ∀ cu, cu < 3 → ∀ y, S.2.2.1 cu = some y → y.1 < 4 := fun cu hcu y hy => by have h := hI.2.2.2.2.1 cu hcu; rw [hy] at h; exact h.1
  rcases bkn_cases 4 (by decide) x with ⟨b, hb4, rfl, hbk⟩ | ⟨hbk, hno⟩
  · skip
    have hN2 := hI.1 b hb4
    have e9 : sp_hasValue S (nI (b)) v = (0, hasV (S.1 b) v, S) := by simp [sp_hasValue, askB, hbk]
    rw [e9]
    refine m_start (by decide) (Nat.le_of_ble_eq_true rfl) ?_
    intro p e s m below meth c hx hb hr hG hown hlocks hml hB ls hl
    have hl : lv_has ls 3 [(0, .ref (ad 0)), (1, .int (nI (b))), (2, .int (v))] := hl
    obtain ⟨hW, hK⟩ := hB
    have hS : va_S (Ao ad 36) s.heap s.heap [] := va_S.rf
    refine lv_aload_n hx hb dX4_hasValue_0 rfl (lv_at hl 0 rfl) ?_
    refine lv_iload_n hx hb dX4_hasValue_1 rfl (lv_at hl 1 rfl) ?_
    refine k1_V hx hb hml hown hG cs_X4_113 (k_bookOfNumber l D cI cC ad S N b (by omega)) (by decide) (pzV hK rfl hW.rc hW) rfl hl.1 rfl (Nat.le_of_ble_eq_true rfl) dX4_hasValue_2 ⟨Nat.zero_le _, Nat.zero_le _⟩ rfl ?_
    refine lv_iload_n hx hb dX4_hasValue_5 rfl (lv_at hl 2 rfl) ?_
    refine k1_V hx hb hml hown hG cs_X4_177 (c_holdsValue l D cI (bk_ ad b) (lgO b) (bdO S b) (S.1 b) v) (by decide) (pzV (hK.sub (tys' := [(cI, .int)]) [0] rfl) rfl (hW.bk (b := b) (by omega)).1.rc (hW.bk (b := b) (by omega)).1) rfl hl.1 rfl (Nat.le_of_ble_eq_true rfl) dX4_hasValue_6 ⟨Nat.zero_le _, Nat.zero_le _⟩ rfl ?_
    exact w_z (PB := (fun H => Wc D cI cC ad S (N + 2000) H)) rfl (hW.mono (by omega)) hS hx hb hr hlocks dX4_hasValue_9
  · skip
    exact absurd hok (by simp [sp_hasValue, askB, hbk])
set_option maxHeartbeats 4000000 in
set_option maxRecDepth 100000 in
theorem ok_hasKey (l : Launch) (D : va_G) (cI cC : ClassId) (ad : Nat → Nat) (S : St) (N : Nat) (x key : Int32) (hI : Inv S) (hN : N + 2000 < 2 ^ 31) (hap : Ap ad 36) (hok : (sp_hasKey S x key).1 = 0) : Met l yX4_hasKey (ws_ yX4_hasKey cX4_hasKey 3 (some .boolean)) (rmN 6) (va_Pc [.ref (ad 0), .int x, .int key] (pz D [(cI, .int), (cC, .char)] (fun H => Wc D cI cC ad S N H))) (Wq (some (.int (bI (sp_hasKey S x key).2.1))) (fun H => Wc D cI cC ad (sp_hasKey S x key).2.2 (N + 2000) H) (Ao ad 36)) 0 0 (Ao ad 36) := by
  have hbd2 : S.2.1 ≤ 40 := hI.2.2.2.1
  have hCC : ∀ cu, cu < 3 → ∀ y, S.2.2.1 cu = some y → y.1 < 4 := fun cu hcu y hy => by have h := hI.2.2.2.2.1 cu hcu; rw [hy] at h; exact h.1
  rcases bkn_cases 4 (by decide) x with ⟨b, hb4, rfl, hbk⟩ | ⟨hbk, hno⟩
  · skip
    have hN2 := hI.1 b hb4
    cases hf : fx (S.1 b) key with
    | none =>
      have e9 : sp_hasKey S (nI (b)) key = (0, false, S) := by simp [sp_hasKey, askB, hbk, hf, oI]
      rw [e9]
      refine m_start (by decide) (Nat.le_of_ble_eq_true rfl) ?_
      intro p e s m below meth c hx hb hr hG hown hlocks hml hB ls hl
      have hl : lv_has ls 3 [(0, .ref (ad 0)), (1, .int (nI (b))), (2, .int (key))] := hl
      obtain ⟨hW, hK⟩ := hB
      have hS : va_S (Ao ad 36) s.heap s.heap [] := va_S.rf
      refine lv_aload_n hx hb dX4_hasKey_0 rfl (lv_at hl 0 rfl) ?_
      refine lv_iload_n hx hb dX4_hasKey_1 rfl (lv_at hl 1 rfl) ?_
      refine k1_V hx hb hml hown hG cs_X4_113 (k_bookOfNumber l D cI cC ad S N b (by omega)) (by decide) (pzV hK rfl hW.rc hW) rfl hl.1 rfl (Nat.le_of_ble_eq_true rfl) dX4_hasKey_2 ⟨Nat.zero_le _, Nat.zero_le _⟩ rfl ?_
      refine lv_iload_n hx hb dX4_hasKey_5 rfl (lv_at hl 2 rfl) ?_
      refine k1_V hx hb hml hown hG cs_X4_86 (c_find_no l D cI (bk_ ad b) (lgO b) (bdO S b) (S.1 b) key (hf)) (by decide) (pzV (hK.sub (tys' := [(cI, .int)]) [0] rfl) rfl (hW.bk (b := b) (by omega)).1.rc (hW.bk (b := b) (by omega)).1) rfl hl.1 rfl (Nat.le_of_ble_eq_true rfl) dX4_hasKey_6 ⟨Nat.zero_le _, Nat.zero_le _⟩ rfl ?_
      refine lv_iconst (v := (-1)) hx hb dX4_hasKey_9 (by decide) ?_
      refine lv_icmp_eq (tgt := 17) hx hb dX4_hasKey_10 (by decide) (fun zc1 => ?_) (fun zc1 => False.elim (by first | exact absurd zc1 (by decide) | omega | (simp_all; done)))
      refine lv_iconst (v := nI 0) hx hb dX4_hasKey_17 (by decide) ?_
      exact w_z (PB := (fun H => Wc D cI cC ad S (N + 2000) H)) rfl (hW.mono (by omega)) hS hx hb hr hlocks dX4_hasKey_18
    | some i =>
      have hi := (fx_some hf).1
      have e9 : sp_hasKey S (nI (b)) key = (0, true, S) := by simp [sp_hasKey, askB, hbk, hf, oI]
      rw [e9]
      refine m_start (by decide) (Nat.le_of_ble_eq_true rfl) ?_
      intro p e s m below meth c hx hb hr hG hown hlocks hml hB ls hl
      have hl : lv_has ls 3 [(0, .ref (ad 0)), (1, .int (nI (b))), (2, .int (key))] := hl
      obtain ⟨hW, hK⟩ := hB
      have hS : va_S (Ao ad 36) s.heap s.heap [] := va_S.rf
      refine lv_aload_n hx hb dX4_hasKey_0 rfl (lv_at hl 0 rfl) ?_
      refine lv_iload_n hx hb dX4_hasKey_1 rfl (lv_at hl 1 rfl) ?_
      refine k1_V hx hb hml hown hG cs_X4_113 (k_bookOfNumber l D cI cC ad S N b (by omega)) (by decide) (pzV hK rfl hW.rc hW) rfl hl.1 rfl (Nat.le_of_ble_eq_true rfl) dX4_hasKey_2 ⟨Nat.zero_le _, Nat.zero_le _⟩ rfl ?_
      refine lv_iload_n hx hb dX4_hasKey_5 rfl (lv_at hl 2 rfl) ?_
      refine k1_V hx hb hml hown hG cs_X4_86 (c_find_at l D cI (bk_ ad b) (lgO b) (bdO S b) (S.1 b) key (hi := (hf))) (by decide) (pzV (hK.sub (tys' := [(cI, .int)]) [0] rfl) rfl (hW.bk (b := b) (by omega)).1.rc (hW.bk (b := b) (by omega)).1) rfl hl.1 rfl (Nat.le_of_ble_eq_true rfl) dX4_hasKey_6 ⟨Nat.zero_le _, Nat.zero_le _⟩ rfl ?_
      refine lv_iconst (v := (-1)) hx hb dX4_hasKey_9 (by decide) ?_
      refine lv_icmp_eq (tgt := 17) hx hb dX4_hasKey_10 (by decide) (fun zc1 => False.elim (by first | omega | contradiction | exact absurd zc1 (m1_ne _ (by omega)) | exact absurd zc1 (by decide) | exact absurd (Eq.symm zc1) (m1_ne _ (by omega)) | (simp_all; done))) (fun zc1 => ?_)
      refine lv_iconst (v := nI 1) hx hb dX4_hasKey_13 (by decide) ?_
      refine lv_goto (tgt := 18) hx hb dX4_hasKey_14 (by decide) ?_
      exact w_z (PB := (fun H => Wc D cI cC ad S (N + 2000) H)) rfl (hW.mono (by omega)) hS hx hb hr hlocks dX4_hasKey_18
  · skip
    exact absurd hok (by simp [sp_hasKey, askB, hbk])
set_option maxHeartbeats 4000000 in
set_option maxRecDepth 100000 in
theorem ok_get (l : Launch) (D : va_G) (cI cC : ClassId) (ad : Nat → Nat) (S : St) (N : Nat) (x key or_ : Int32) (hI : Inv S) (hN : N + 2000 < 2 ^ 31) (hap : Ap ad 36) (hok : (sp_get S x key or_).1 = 0) : Met l yX4_get (ws_ yX4_get cX4_get 6 (some .int)) (rmN 6) (va_Pc [.ref (ad 0), .int x, .int key, .int or_] (pz D [(cI, .int), (cC, .char)] (fun H => Wc D cI cC ad S N H))) (Wq (some (.int (sp_get S x key or_).2.1)) (fun H => Wc D cI cC ad (sp_get S x key or_).2.2 (N + 2000) H) (Ao ad 36)) 0 0 (Ao ad 36) := by
  have hbd2 : S.2.1 ≤ 40 := hI.2.2.2.1
  have hCC : ∀ cu, cu < 3 → ∀ y, S.2.2.1 cu = some y → y.1 < 4 := fun cu hcu y hy => by have h := hI.2.2.2.2.1 cu hcu; rw [hy] at h; exact h.1
  rcases bkn_cases 4 (by decide) x with ⟨b, hb4, rfl, hbk⟩ | ⟨hbk, hno⟩
  · skip
    have hN2 := hI.1 b hb4
    cases hf : fx (S.1 b) key with
    | none =>
      have e9 : sp_get S (nI (b)) key or_ = (0, or_, S) := by simp [sp_get, askB, hbk, hf, oI]
      rw [e9]
      refine m_start (by decide) (Nat.le_of_ble_eq_true rfl) ?_
      intro p e s m below meth c hx hb hr hG hown hlocks hml hB ls hl
      have hl : lv_has ls 6 [(0, .ref (ad 0)), (1, .int (nI (b))), (2, .int (key)), (3, .int (or_))] := hl
      obtain ⟨hW, hK⟩ := hB
      have hS : va_S (Ao ad 36) s.heap s.heap [] := va_S.rf
      refine lv_aload_n hx hb dX4_get_0 rfl (lv_at hl 0 rfl) ?_
      refine lv_iload_n hx hb dX4_get_1 rfl (lv_at hl 1 rfl) ?_
      refine k1_V hx hb hml hown hG cs_X4_113 (k_bookOfNumber l D cI cC ad S N b (by omega)) (by decide) (pzV hK rfl hW.rc hW) rfl hl.1 rfl (Nat.le_of_ble_eq_true rfl) dX4_get_2 ⟨Nat.zero_le _, Nat.zero_le _⟩ rfl ?_
      refine lv_astore (lv' := [(4, .ref ((bk_ ad b) 0)), (0, .ref (ad 0)), (1, .int (nI (b))), (2, .int (key)), (3, .int (or_))]) hx hb dX4_get_5 hl (by decide) rfl (fun ls hl => ?_)
      refine lv_aload hx hb dX4_get_7 (lv_at hl 0 rfl) ?_
      refine lv_iload_n hx hb dX4_get_9 rfl (lv_at hl 3 rfl) ?_
      refine k1_V hx hb hml hown hG cs_X4_86 (c_find_no l D cI (bk_ ad b) (lgO b) (bdO S b) (S.1 b) key (hf)) (by decide) (pzV (hK.sub (tys' := [(cI, .int)]) [0] rfl) rfl (hW.bk (b := b) (by omega)).1.rc (hW.bk (b := b) (by omega)).1) rfl hl.1 rfl (Nat.le_of_ble_eq_true rfl) dX4_get_10 ⟨Nat.zero_le _, Nat.zero_le _⟩ rfl ?_
      refine lv_istore (lv' := [(5, .int ((-1))), (4, .ref ((bk_ ad b) 0)), (0, .ref (ad 0)), (1, .int (nI (b))), (2, .int (key)), (3, .int (or_))]) hx hb dX4_get_13 hl (by decide) rfl (fun ls hl => ?_)
      refine lv_iload hx hb dX4_get_15 (lv_at hl 0 rfl) ?_
      refine lv_iconst (v := (-1)) hx hb dX4_get_17 (by decide) ?_
      refine lv_icmp_ne (tgt := 25) hx hb dX4_get_18 (by decide) (fun zc1 => False.elim (by first | exact absurd zc1 (by decide) | omega | (simp_all; done))) (fun zc1 => ?_)
      refine lv_iload_n hx hb dX4_get_21 rfl (lv_at hl 5 rfl) ?_
      refine lv_goto (tgt := 32) hx hb dX4_get_22 (by decide) ?_
      exact w_i (PB := (fun H => Wc D cI cC ad S (N + 2000) H)) rfl (hW.mono (by omega)) hS hx hb hr hlocks dX4_get_32
    | some i =>
      have hi := (fx_some hf).1
      have e9 : sp_get S (nI (b)) key or_ = (0, vf (S.1 b) i, S) := by simp [sp_get, askB, hbk, hf, oI]
      rw [e9]
      refine m_start (by decide) (Nat.le_of_ble_eq_true rfl) ?_
      intro p e s m below meth c hx hb hr hG hown hlocks hml hB ls hl
      have hl : lv_has ls 6 [(0, .ref (ad 0)), (1, .int (nI (b))), (2, .int (key)), (3, .int (or_))] := hl
      obtain ⟨hW, hK⟩ := hB
      have hS : va_S (Ao ad 36) s.heap s.heap [] := va_S.rf
      refine lv_aload_n hx hb dX4_get_0 rfl (lv_at hl 0 rfl) ?_
      refine lv_iload_n hx hb dX4_get_1 rfl (lv_at hl 1 rfl) ?_
      refine k1_V hx hb hml hown hG cs_X4_113 (k_bookOfNumber l D cI cC ad S N b (by omega)) (by decide) (pzV hK rfl hW.rc hW) rfl hl.1 rfl (Nat.le_of_ble_eq_true rfl) dX4_get_2 ⟨Nat.zero_le _, Nat.zero_le _⟩ rfl ?_
      refine lv_astore (lv' := [(4, .ref ((bk_ ad b) 0)), (0, .ref (ad 0)), (1, .int (nI (b))), (2, .int (key)), (3, .int (or_))]) hx hb dX4_get_5 hl (by decide) rfl (fun ls hl => ?_)
      refine lv_aload hx hb dX4_get_7 (lv_at hl 0 rfl) ?_
      refine lv_iload_n hx hb dX4_get_9 rfl (lv_at hl 3 rfl) ?_
      refine k1_V hx hb hml hown hG cs_X4_86 (c_find_at l D cI (bk_ ad b) (lgO b) (bdO S b) (S.1 b) key (hi := (hf))) (by decide) (pzV (hK.sub (tys' := [(cI, .int)]) [0] rfl) rfl (hW.bk (b := b) (by omega)).1.rc (hW.bk (b := b) (by omega)).1) rfl hl.1 rfl (Nat.le_of_ble_eq_true rfl) dX4_get_10 ⟨Nat.zero_le _, Nat.zero_le _⟩ rfl ?_
      refine lv_istore (lv' := [(5, .int (nI (i))), (4, .ref ((bk_ ad b) 0)), (0, .ref (ad 0)), (1, .int (nI (b))), (2, .int (key)), (3, .int (or_))]) hx hb dX4_get_13 hl (by decide) rfl (fun ls hl => ?_)
      refine lv_iload hx hb dX4_get_15 (lv_at hl 0 rfl) ?_
      refine lv_iconst (v := (-1)) hx hb dX4_get_17 (by decide) ?_
      refine lv_icmp_ne (tgt := 25) hx hb dX4_get_18 (by decide) (fun zc1 => ?_) (fun zc1 => False.elim (by first | omega | contradiction | exact absurd zc1 (m1_ne _ (by omega)) | exact absurd zc1 (by decide) | exact absurd (Eq.symm zc1) (m1_ne _ (by omega)) | (simp_all; done)))
      refine lv_aload hx hb dX4_get_25 (lv_at hl 1 rfl) ?_
      refine lv_iload hx hb dX4_get_27 (lv_at hl 0 rfl) ?_
      refine k1_V hx hb hml hown hG cs_X4_93 (c_valueOn l D cI (bk_ ad b) (lgO b) (bdO S b) (S.1 b) i (by omega)) (by decide) (pzV (hK.sub (tys' := [(cI, .int)]) [0] rfl) rfl (hW.bk (b := b) (by omega)).1.rc (hW.bk (b := b) (by omega)).1) rfl hl.1 rfl (Nat.le_of_ble_eq_true rfl) dX4_get_29 ⟨Nat.zero_le _, Nat.zero_le _⟩ rfl ?_
      exact w_i (PB := (fun H => Wc D cI cC ad S (N + 2000) H)) rfl (hW.mono (by omega)) hS hx hb hr hlocks dX4_get_32
  · skip
    exact absurd hok (by simp [sp_get, askB, hbk])
set_option maxHeartbeats 4000000 in
set_option maxRecDepth 100000 in
theorem ok_placeOf (l : Launch) (D : va_G) (cI cC : ClassId) (ad : Nat → Nat) (S : St) (N : Nat) (x key : Int32) (hI : Inv S) (hN : N + 2000 < 2 ^ 31) (hap : Ap ad 36) (hok : (sp_placeOf S x key).1 = 0) : Met l yX4_placeOf (ws_ yX4_placeOf cX4_placeOf 3 (some .int)) (rmN 6) (va_Pc [.ref (ad 0), .int x, .int key] (pz D [(cI, .int), (cC, .char)] (fun H => Wc D cI cC ad S N H))) (Wq (some (.int (sp_placeOf S x key).2.1)) (fun H => Wc D cI cC ad (sp_placeOf S x key).2.2 (N + 2000) H) (Ao ad 36)) 0 0 (Ao ad 36) := by
  have hbd2 : S.2.1 ≤ 40 := hI.2.2.2.1
  have hCC : ∀ cu, cu < 3 → ∀ y, S.2.2.1 cu = some y → y.1 < 4 := fun cu hcu y hy => by have h := hI.2.2.2.2.1 cu hcu; rw [hy] at h; exact h.1
  rcases bkn_cases 4 (by decide) x with ⟨b, hb4, rfl, hbk⟩ | ⟨hbk, hno⟩
  · skip
    have hN2 := hI.1 b hb4
    cases hf : fx (S.1 b) key with
    | none =>
      have e9 : sp_placeOf S (nI (b)) key = (0, -1, S) := by simp [sp_placeOf, askB, hbk, hf, oI]
      rw [e9]
      refine m_start (by decide) (Nat.le_of_ble_eq_true rfl) ?_
      intro p e s m below meth c hx hb hr hG hown hlocks hml hB ls hl
      have hl : lv_has ls 3 [(0, .ref (ad 0)), (1, .int (nI (b))), (2, .int (key))] := hl
      obtain ⟨hW, hK⟩ := hB
      have hS : va_S (Ao ad 36) s.heap s.heap [] := va_S.rf
      refine lv_aload_n hx hb dX4_placeOf_0 rfl (lv_at hl 0 rfl) ?_
      refine lv_iload_n hx hb dX4_placeOf_1 rfl (lv_at hl 1 rfl) ?_
      refine k1_V hx hb hml hown hG cs_X4_113 (k_bookOfNumber l D cI cC ad S N b (by omega)) (by decide) (pzV hK rfl hW.rc hW) rfl hl.1 rfl (Nat.le_of_ble_eq_true rfl) dX4_placeOf_2 ⟨Nat.zero_le _, Nat.zero_le _⟩ rfl ?_
      refine lv_iload_n hx hb dX4_placeOf_5 rfl (lv_at hl 2 rfl) ?_
      refine k1_V hx hb hml hown hG cs_X4_86 (c_find_no l D cI (bk_ ad b) (lgO b) (bdO S b) (S.1 b) key (hf)) (by decide) (pzV (hK.sub (tys' := [(cI, .int)]) [0] rfl) rfl (hW.bk (b := b) (by omega)).1.rc (hW.bk (b := b) (by omega)).1) rfl hl.1 rfl (Nat.le_of_ble_eq_true rfl) dX4_placeOf_6 ⟨Nat.zero_le _, Nat.zero_le _⟩ rfl ?_
      exact w_i (PB := (fun H => Wc D cI cC ad S (N + 2000) H)) rfl (hW.mono (by omega)) hS hx hb hr hlocks dX4_placeOf_9
    | some i =>
      have hi := (fx_some hf).1
      have e9 : sp_placeOf S (nI (b)) key = (0, nI i, S) := by simp [sp_placeOf, askB, hbk, hf, oI]
      rw [e9]
      refine m_start (by decide) (Nat.le_of_ble_eq_true rfl) ?_
      intro p e s m below meth c hx hb hr hG hown hlocks hml hB ls hl
      have hl : lv_has ls 3 [(0, .ref (ad 0)), (1, .int (nI (b))), (2, .int (key))] := hl
      obtain ⟨hW, hK⟩ := hB
      have hS : va_S (Ao ad 36) s.heap s.heap [] := va_S.rf
      refine lv_aload_n hx hb dX4_placeOf_0 rfl (lv_at hl 0 rfl) ?_
      refine lv_iload_n hx hb dX4_placeOf_1 rfl (lv_at hl 1 rfl) ?_
      refine k1_V hx hb hml hown hG cs_X4_113 (k_bookOfNumber l D cI cC ad S N b (by omega)) (by decide) (pzV hK rfl hW.rc hW) rfl hl.1 rfl (Nat.le_of_ble_eq_true rfl) dX4_placeOf_2 ⟨Nat.zero_le _, Nat.zero_le _⟩ rfl ?_
      refine lv_iload_n hx hb dX4_placeOf_5 rfl (lv_at hl 2 rfl) ?_
      refine k1_V hx hb hml hown hG cs_X4_86 (c_find_at l D cI (bk_ ad b) (lgO b) (bdO S b) (S.1 b) key (hi := (hf))) (by decide) (pzV (hK.sub (tys' := [(cI, .int)]) [0] rfl) rfl (hW.bk (b := b) (by omega)).1.rc (hW.bk (b := b) (by omega)).1) rfl hl.1 rfl (Nat.le_of_ble_eq_true rfl) dX4_placeOf_6 ⟨Nat.zero_le _, Nat.zero_le _⟩ rfl ?_
      exact w_i (PB := (fun H => Wc D cI cC ad S (N + 2000) H)) rfl (hW.mono (by omega)) hS hx hb hr hlocks dX4_placeOf_9
  · skip
    exact absurd hok (by simp [sp_placeOf, askB, hbk])
set_option maxHeartbeats 4000000 in
set_option maxRecDepth 100000 in
theorem ok_keyAt (l : Launch) (D : va_G) (cI cC : ClassId) (ad : Nat → Nat) (S : St) (N : Nat) (x y : Int32) (hI : Inv S) (hN : N + 2000 < 2 ^ 31) (hap : Ap ad 36) (hok : (sp_keyAt S x y).1 = 0) : Met l yX4_keyAt (ws_ yX4_keyAt cX4_keyAt 4 (some .int)) (rmN 6) (va_Pc [.ref (ad 0), .int x, .int y] (pz D [(cI, .int), (cC, .char)] (fun H => Wc D cI cC ad S N H))) (Wq (some (.int (sp_keyAt S x y).2.1)) (fun H => Wc D cI cC ad (sp_keyAt S x y).2.2 (N + 2000) H) (Ao ad 36)) 0 0 (Ao ad 36) := by
  have hbd2 : S.2.1 ≤ 40 := hI.2.2.2.1
  have hCC : ∀ cu, cu < 3 → ∀ y, S.2.2.1 cu = some y → y.1 < 4 := fun cu hcu y hy => by have h := hI.2.2.2.2.1 cu hcu; rw [hy] at h; exact h.1
  rcases bkn_cases 4 (by decide) x with ⟨b, hb4, rfl, hbk⟩ | ⟨hbk, hno⟩
  · skip
    have hN2 := hI.1 b hb4
    rcases bkn_cases (S.1 b).length (by omega) y with ⟨j, hj, rfl, hbj⟩ | ⟨hbj, hnoj⟩
    · skip
      have e9 : sp_keyAt S (nI (b)) (nI (j)) = (0, kf (S.1 b) j, S) := by simp [sp_keyAt, askP, hbk, hbj]
      rw [e9]
      refine m_start (by decide) (Nat.le_of_ble_eq_true rfl) ?_
      intro p e s m below meth c hx hb hr hG hown hlocks hml hB ls hl
      have hl : lv_has ls 4 [(0, .ref (ad 0)), (1, .int (nI (b))), (2, .int (nI (j)))] := hl
      obtain ⟨hW, hK⟩ := hB
      have hS : va_S (Ao ad 36) s.heap s.heap [] := va_S.rf
      refine lv_aload_n hx hb dX4_keyAt_0 rfl (lv_at hl 0 rfl) ?_
      refine lv_iload_n hx hb dX4_keyAt_1 rfl (lv_at hl 1 rfl) ?_
      refine k1_V hx hb hml hown hG cs_X4_113 (k_bookOfNumber l D cI cC ad S N b (by omega)) (by decide) (pzV hK rfl hW.rc hW) rfl hl.1 rfl (Nat.le_of_ble_eq_true rfl) dX4_keyAt_2 ⟨Nat.zero_le _, Nat.zero_le _⟩ rfl ?_
      refine lv_astore_n (lv' := [(3, .ref ((bk_ ad b) 0)), (0, .ref (ad 0)), (1, .int (nI (b))), (2, .int (nI (j)))]) hx hb dX4_keyAt_5 rfl hl (by decide) rfl (fun ls hl => ?_)
      refine lv_aload_n hx hb dX4_keyAt_6 rfl (lv_at hl 1 rfl) ?_
      refine lv_aload_n hx hb dX4_keyAt_7 rfl (lv_at hl 0 rfl) ?_
      refine lv_iload_n hx hb dX4_keyAt_8 rfl (lv_at hl 3 rfl) ?_
      refine k1_V hx hb hml hown hG cs_X4_181 (k_requirePlace l D cI cC ad S N b j (by omega) (by omega)) (by decide) (pzV hK rfl hW.rc hW) rfl hl.1 rfl (Nat.le_of_ble_eq_true rfl) dX4_keyAt_9 ⟨Nat.zero_le _, Nat.zero_le _⟩ rfl ?_
      refine lv_aload_n hx hb dX4_keyAt_12 rfl (lv_at hl 0 rfl) ?_
      refine lv_iload_n hx hb dX4_keyAt_13 rfl (lv_at hl 3 rfl) ?_
      refine k1_V hx hb hml hown hG cs_X4_132 (c_keyOn l D cI (bk_ ad b) (lgO b) (bdO S b) (S.1 b) j (by omega)) (by decide) (pzV (hK.sub (tys' := [(cI, .int)]) [0] rfl) rfl (hW.bk (b := b) (by omega)).1.rc (hW.bk (b := b) (by omega)).1) rfl hl.1 rfl (Nat.le_of_ble_eq_true rfl) dX4_keyAt_14 ⟨Nat.zero_le _, Nat.zero_le _⟩ rfl ?_
      exact w_i (PB := (fun H => Wc D cI cC ad S (N + 2000) H)) rfl (hW.mono (by omega)) hS hx hb hr hlocks dX4_keyAt_17
    · skip
      exact absurd hok (by simp [sp_keyAt, askP, hbk, hbj])
  · skip
    exact absurd hok (by simp [sp_keyAt, askP, hbk])
set_option maxHeartbeats 4000000 in
set_option maxRecDepth 100000 in
theorem ok_valueAt (l : Launch) (D : va_G) (cI cC : ClassId) (ad : Nat → Nat) (S : St) (N : Nat) (x y : Int32) (hI : Inv S) (hN : N + 2000 < 2 ^ 31) (hap : Ap ad 36) (hok : (sp_valueAt S x y).1 = 0) : Met l yX4_valueAt (ws_ yX4_valueAt cX4_valueAt 4 (some .int)) (rmN 6) (va_Pc [.ref (ad 0), .int x, .int y] (pz D [(cI, .int), (cC, .char)] (fun H => Wc D cI cC ad S N H))) (Wq (some (.int (sp_valueAt S x y).2.1)) (fun H => Wc D cI cC ad (sp_valueAt S x y).2.2 (N + 2000) H) (Ao ad 36)) 0 0 (Ao ad 36) := by
  have hbd2 : S.2.1 ≤ 40 := hI.2.2.2.1
  have hCC : ∀ cu, cu < 3 → ∀ y, S.2.2.1 cu = some y → y.1 < 4 := fun cu hcu y hy => by have h := hI.2.2.2.2.1 cu hcu; rw [hy] at h; exact h.1
  rcases bkn_cases 4 (by decide) x with ⟨b, hb4, rfl, hbk⟩ | ⟨hbk, hno⟩
  · skip
    have hN2 := hI.1 b hb4
    rcases bkn_cases (S.1 b).length (by omega) y with ⟨j, hj, rfl, hbj⟩ | ⟨hbj, hnoj⟩
    · skip
      have e9 : sp_valueAt S (nI (b)) (nI (j)) = (0, vf (S.1 b) j, S) := by simp [sp_valueAt, askP, hbk, hbj]
      rw [e9]
      refine m_start (by decide) (Nat.le_of_ble_eq_true rfl) ?_
      intro p e s m below meth c hx hb hr hG hown hlocks hml hB ls hl
      have hl : lv_has ls 4 [(0, .ref (ad 0)), (1, .int (nI (b))), (2, .int (nI (j)))] := hl
      obtain ⟨hW, hK⟩ := hB
      have hS : va_S (Ao ad 36) s.heap s.heap [] := va_S.rf
      refine lv_aload_n hx hb dX4_valueAt_0 rfl (lv_at hl 0 rfl) ?_
      refine lv_iload_n hx hb dX4_valueAt_1 rfl (lv_at hl 1 rfl) ?_
      refine k1_V hx hb hml hown hG cs_X4_113 (k_bookOfNumber l D cI cC ad S N b (by omega)) (by decide) (pzV hK rfl hW.rc hW) rfl hl.1 rfl (Nat.le_of_ble_eq_true rfl) dX4_valueAt_2 ⟨Nat.zero_le _, Nat.zero_le _⟩ rfl ?_
      refine lv_astore_n (lv' := [(3, .ref ((bk_ ad b) 0)), (0, .ref (ad 0)), (1, .int (nI (b))), (2, .int (nI (j)))]) hx hb dX4_valueAt_5 rfl hl (by decide) rfl (fun ls hl => ?_)
      refine lv_aload_n hx hb dX4_valueAt_6 rfl (lv_at hl 1 rfl) ?_
      refine lv_aload_n hx hb dX4_valueAt_7 rfl (lv_at hl 0 rfl) ?_
      refine lv_iload_n hx hb dX4_valueAt_8 rfl (lv_at hl 3 rfl) ?_
      refine k1_V hx hb hml hown hG cs_X4_181 (k_requirePlace l D cI cC ad S N b j (by omega) (by omega)) (by decide) (pzV hK rfl hW.rc hW) rfl hl.1 rfl (Nat.le_of_ble_eq_true rfl) dX4_valueAt_9 ⟨Nat.zero_le _, Nat.zero_le _⟩ rfl ?_
      refine lv_aload_n hx hb dX4_valueAt_12 rfl (lv_at hl 0 rfl) ?_
      refine lv_iload_n hx hb dX4_valueAt_13 rfl (lv_at hl 3 rfl) ?_
      refine k1_V hx hb hml hown hG cs_X4_93 (c_valueOn l D cI (bk_ ad b) (lgO b) (bdO S b) (S.1 b) j (by omega)) (by decide) (pzV (hK.sub (tys' := [(cI, .int)]) [0] rfl) rfl (hW.bk (b := b) (by omega)).1.rc (hW.bk (b := b) (by omega)).1) rfl hl.1 rfl (Nat.le_of_ble_eq_true rfl) dX4_valueAt_14 ⟨Nat.zero_le _, Nat.zero_le _⟩ rfl ?_
      exact w_i (PB := (fun H => Wc D cI cC ad S (N + 2000) H)) rfl (hW.mono (by omega)) hS hx hb hr hlocks dX4_valueAt_17
    · skip
      exact absurd hok (by simp [sp_valueAt, askP, hbk, hbj])
  · skip
    exact absurd hok (by simp [sp_valueAt, askP, hbk])
set_option maxHeartbeats 4000000 in
set_option maxRecDepth 100000 in
theorem ok_areEqual (l : Launch) (D : va_G) (cI cC : ClassId) (ad : Nat → Nat) (S : St) (N : Nat) (x y : Int32) (hI : Inv S) (hN : N + 2000 < 2 ^ 31) (hap : Ap ad 36) (hok : (sp_areEqual S x y).1 = 0) : Met l yX4_areEqual (ws_ yX4_areEqual cX4_areEqual 3 (some .boolean)) (rmN 6) (va_Pc [.ref (ad 0), .int x, .int y] (pz D [(cI, .int), (cC, .char)] (fun H => Wc D cI cC ad S N H))) (Wq (some (.int (bI (sp_areEqual S x y).2.1))) (fun H => Wc D cI cC ad (sp_areEqual S x y).2.2 (N + 2000) H) (Ao ad 36)) 0 0 (Ao ad 36) := by
  have hbd2 : S.2.1 ≤ 40 := hI.2.2.2.1
  have hCC : ∀ cu, cu < 3 → ∀ y, S.2.2.1 cu = some y → y.1 < 4 := fun cu hcu y hy => by have h := hI.2.2.2.2.1 cu hcu; rw [hy] at h; exact h.1
  rcases bkn_cases 4 (by decide) x with ⟨b, hb4, rfl, hbk⟩ | ⟨hbk, hno⟩
  · rcases bkn_cases 4 (by decide) y with ⟨q, hq4, rfl, hbq⟩ | ⟨hbq, hno⟩
    · skip
      have e9 : sp_areEqual S (nI (b)) (nI (q)) = (0, eqB (S.1 b) (S.1 q), S) := by simp [sp_areEqual, ask2, hbk, hbq]
      rw [e9]
      refine m_start (by decide) (Nat.le_of_ble_eq_true rfl) ?_
      intro p e s m below meth c hx hb hr hG hown hlocks hml hB ls hl
      have hl : lv_has ls 3 [(0, .ref (ad 0)), (1, .int (nI (b))), (2, .int (nI (q)))] := hl
      obtain ⟨hW, hK⟩ := hB
      have hS : va_S (Ao ad 36) s.heap s.heap [] := va_S.rf
      refine lv_aload_n hx hb dX4_areEqual_0 rfl (lv_at hl 0 rfl) ?_
      refine lv_iload_n hx hb dX4_areEqual_1 rfl (lv_at hl 1 rfl) ?_
      refine k1_V hx hb hml hown hG cs_X4_113 (k_bookOfNumber l D cI cC ad S N b (by omega)) (by decide) (pzV hK rfl hW.rc hW) rfl hl.1 rfl (Nat.le_of_ble_eq_true rfl) dX4_areEqual_2 ⟨Nat.zero_le _, Nat.zero_le _⟩ rfl ?_
      refine lv_aload_n hx hb dX4_areEqual_5 rfl (lv_at hl 0 rfl) ?_
      refine lv_iload_n hx hb dX4_areEqual_6 rfl (lv_at hl 2 rfl) ?_
      refine k1_V hx hb hml hown hG cs_X4_113 (k_bookOfNumber l D cI cC ad S N q (by omega)) (by decide) (pzV hK rfl hW.rc hW) rfl hl.1 rfl (Nat.le_of_ble_eq_true rfl) dX4_areEqual_7 ⟨Nat.zero_le _, Nat.zero_le _⟩ rfl ?_
      refine k1_V hx hb hml hown hG cs_X4_184 (c_hasPairsOf l D cI (bk_ ad b) (bk_ ad q) (lgO b) (bdO S b) (S.1 b) (lgO q) (bdO S q) (S.1 q)) (by decide) (pzV (hK.sub (tys' := [(cI, .int)]) [0] rfl) rfl (hW.bk (b := b) (by omega)).1.rc ⟨(hW.bk (b := b) (by omega)).1, (hW.bk (b := q) (by omega)).1⟩) rfl hl.1 rfl (Nat.le_of_ble_eq_true rfl) dX4_areEqual_10 ⟨Nat.zero_le _, Nat.zero_le _⟩ rfl ?_
      exact w_z (PB := (fun H => Wc D cI cC ad S (N + 2000) H)) rfl (hW.mono (by omega)) hS hx hb hr hlocks dX4_areEqual_13
    · skip
      exact absurd hok (by simp [sp_areEqual, ask2, hbk, hbq])
  · skip
    exact absurd hok (by simp [sp_areEqual, ask2, hbk])
set_option maxHeartbeats 4000000 in
set_option maxRecDepth 100000 in
theorem ok_areAlike (l : Launch) (D : va_G) (cI cC : ClassId) (ad : Nat → Nat) (S : St) (N : Nat) (x y : Int32) (hI : Inv S) (hN : N + 2000 < 2 ^ 31) (hap : Ap ad 36) (hok : (sp_areAlike S x y).1 = 0) : Met l yX4_areAlike (ws_ yX4_areAlike cX4_areAlike 3 (some .boolean)) (rmN 6) (va_Pc [.ref (ad 0), .int x, .int y] (pz D [(cI, .int), (cC, .char)] (fun H => Wc D cI cC ad S N H))) (Wq (some (.int (bI (sp_areAlike S x y).2.1))) (fun H => Wc D cI cC ad (sp_areAlike S x y).2.2 (N + 2000) H) (Ao ad 36)) 0 0 (Ao ad 36) := by
  have hbd2 : S.2.1 ≤ 40 := hI.2.2.2.1
  have hCC : ∀ cu, cu < 3 → ∀ y, S.2.2.1 cu = some y → y.1 < 4 := fun cu hcu y hy => by have h := hI.2.2.2.2.1 cu hcu; rw [hy] at h; exact h.1
  rcases bkn_cases 4 (by decide) x with ⟨b, hb4, rfl, hbk⟩ | ⟨hbk, hno⟩
  · rcases bkn_cases 4 (by decide) y with ⟨q, hq4, rfl, hbq⟩ | ⟨hbq, hno⟩
    · skip
      have e9 : sp_areAlike S (nI (b)) (nI (q)) = (0, alB (S.1 b) (S.1 q), S) := by simp [sp_areAlike, ask2, hbk, hbq]
      rw [e9]
      refine m_start (by decide) (Nat.le_of_ble_eq_true rfl) ?_
      intro p e s m below meth c hx hb hr hG hown hlocks hml hB ls hl
      have hl : lv_has ls 3 [(0, .ref (ad 0)), (1, .int (nI (b))), (2, .int (nI (q)))] := hl
      obtain ⟨hW, hK⟩ := hB
      have hS : va_S (Ao ad 36) s.heap s.heap [] := va_S.rf
      refine lv_aload_n hx hb dX4_areAlike_0 rfl (lv_at hl 0 rfl) ?_
      refine lv_iload_n hx hb dX4_areAlike_1 rfl (lv_at hl 1 rfl) ?_
      refine k1_V hx hb hml hown hG cs_X4_113 (k_bookOfNumber l D cI cC ad S N b (by omega)) (by decide) (pzV hK rfl hW.rc hW) rfl hl.1 rfl (Nat.le_of_ble_eq_true rfl) dX4_areAlike_2 ⟨Nat.zero_le _, Nat.zero_le _⟩ rfl ?_
      refine lv_aload_n hx hb dX4_areAlike_5 rfl (lv_at hl 0 rfl) ?_
      refine lv_iload_n hx hb dX4_areAlike_6 rfl (lv_at hl 2 rfl) ?_
      refine k1_V hx hb hml hown hG cs_X4_113 (k_bookOfNumber l D cI cC ad S N q (by omega)) (by decide) (pzV hK rfl hW.rc hW) rfl hl.1 rfl (Nat.le_of_ble_eq_true rfl) dX4_areAlike_7 ⟨Nat.zero_le _, Nat.zero_le _⟩ rfl ?_
      refine k1_V hx hb hml hown hG cs_X4_188 (c_hasRowOf l D cI (bk_ ad b) (bk_ ad q) (lgO b) (bdO S b) (S.1 b) (lgO q) (bdO S q) (S.1 q)) (by decide) (pzV (hK.sub (tys' := [(cI, .int)]) [0] rfl) rfl (hW.bk (b := b) (by omega)).1.rc ⟨(hW.bk (b := b) (by omega)).1, (hW.bk (b := q) (by omega)).1⟩) rfl hl.1 rfl (Nat.le_of_ble_eq_true rfl) dX4_areAlike_10 ⟨Nat.zero_le _, Nat.zero_le _⟩ rfl ?_
      exact w_z (PB := (fun H => Wc D cI cC ad S (N + 2000) H)) rfl (hW.mono (by omega)) hS hx hb hr hlocks dX4_areAlike_13
    · skip
      exact absurd hok (by simp [sp_areAlike, ask2, hbk, hbq])
  · skip
    exact absurd hok (by simp [sp_areAlike, ask2, hbk])
set_option maxHeartbeats 4000000 in
set_option maxRecDepth 100000 in
theorem ok_isAddRefused (l : Launch) (D : va_G) (cI cC : ClassId) (ad : Nat → Nat) (S : St) (N : Nat) (x z : Int32) (hI : Inv S) (hN : N + 2000 < 2 ^ 31) (hap : Ap ad 36) (hok : (sp_isAddRefused S x z).1 = 0) : Met l yX4_isAddRefused (ws_ yX4_isAddRefused cX4_isAddRefused 3 (some .boolean)) (rmN 6) (va_Pc [.ref (ad 0), .int x, .int z] (pz D [(cI, .int), (cC, .char)] (fun H => Wc D cI cC ad S N H))) (Wq (some (.int (bI (sp_isAddRefused S x z).2.1))) (fun H => Wc D cI cC ad (sp_isAddRefused S x z).2.2 (N + 2000) H) (Ao ad 36)) 0 0 (Ao ad 36) := by
  have hbd2 : S.2.1 ≤ 40 := hI.2.2.2.1
  have hCC : ∀ cu, cu < 3 → ∀ y, S.2.2.1 cu = some y → y.1 < 4 := fun cu hcu y hy => by have h := hI.2.2.2.2.1 cu hcu; rw [hy] at h; exact h.1
  rcases bkn_cases 4 (by decide) x with ⟨b, hb4, rfl, hbk⟩ | ⟨hbk, hno⟩
  · skip
    have hN2 := hI.1 b hb4
    rcases bkn_cases 3 (by decide) z with ⟨k, hk3, rfl, hbz⟩ | ⟨hbz, hnoz⟩
    · skip
      have e9 : sp_isAddRefused S (nI (b)) (nI (k)) = (0, true, S) := by simp [sp_isAddRefused, hbk, hbz]
      rw [e9]
      refine m_start (by decide) (Nat.le_of_ble_eq_true rfl) ?_
      intro p e s m below meth c hx hb hr hG hown hlocks hml hB ls hl
      have hl : lv_has ls 3 [(0, .ref (ad 0)), (1, .int (nI (b))), (2, .int (nI (k)))] := hl
      obtain ⟨hW, hK⟩ := hB
      have hS : va_S (Ao ad 36) s.heap s.heap [] := va_S.rf
      refine lv_aload_n hx hb dX4_isAddRefused_0 rfl (lv_at hl 0 rfl) ?_
      refine lv_iload_n hx hb dX4_isAddRefused_1 rfl (lv_at hl 1 rfl) ?_
      refine k1_V hx hb hml hown hG cs_X4_113 (k_bookOfNumber l D cI cC ad S N b (by omega)) (by decide) (pzV hK rfl hW.rc hW) rfl hl.1 rfl (Nat.le_of_ble_eq_true rfl) dX4_isAddRefused_2 ⟨Nat.zero_le _, Nat.zero_le _⟩ rfl ?_
      refine lv_pop hx hb dX4_isAddRefused_5 rfl ?_
      refine lv_aload_n hx hb dX4_isAddRefused_6 rfl (lv_at hl 0 rfl) ?_
      refine lv_iload_n hx hb dX4_isAddRefused_7 rfl (lv_at hl 2 rfl) ?_
      refine k1_V hx hb hml hown hG cs_X4_141 (k_requireKind l D cI cC ad S N k (by omega)) (by decide) (pzV hK rfl hW.rc hW) rfl hl.1 rfl (Nat.le_of_ble_eq_true rfl) dX4_isAddRefused_8 ⟨Nat.zero_le _, Nat.zero_le _⟩ rfl ?_
      refine lv_iconst (v := nI 1) hx hb dX4_isAddRefused_11 (by decide) ?_
      exact w_z (PB := (fun H => Wc D cI cC ad S (N + 2000) H)) rfl (hW.mono (by omega)) hS hx hb hr hlocks dX4_isAddRefused_12
    · skip
      exact absurd hok (by unfold sp_isAddRefused; rw [hbk]; simp [hbz])
  · skip
    exact absurd hok (by simp [sp_isAddRefused, hbk, hbk])
set_option maxHeartbeats 4000000 in
set_option maxRecDepth 100000 in
theorem ok_isNothingRefused (l : Launch) (D : va_G) (cI cC : ClassId) (ad : Nat → Nat) (S : St) (N : Nat) (x z : Int32) (hI : Inv S) (hN : N + 2000 < 2 ^ 31) (hap : Ap ad 36) (hok : (sp_isNothingRefused S x z).1 = 0) : Met l yX4_isNothingRefused (ws_ yX4_isNothingRefused cX4_isNothingRefused 3 (some .boolean)) (rmN 6) (va_Pc [.ref (ad 0), .int x, .int z] (pz D [(cI, .int), (cC, .char)] (fun H => Wc D cI cC ad S N H))) (Wq (some (.int (bI (sp_isNothingRefused S x z).2.1))) (fun H => Wc D cI cC ad (sp_isNothingRefused S x z).2.2 (N + 2000) H) (Ao ad 36)) 0 0 (Ao ad 36) := by
  have hbd2 : S.2.1 ≤ 40 := hI.2.2.2.1
  have hCC : ∀ cu, cu < 3 → ∀ y, S.2.2.1 cu = some y → y.1 < 4 := fun cu hcu y hy => by have h := hI.2.2.2.2.1 cu hcu; rw [hy] at h; exact h.1
  rcases bkn_cases 4 (by decide) x with ⟨b, hb4, rfl, hbk⟩ | ⟨hbk, hno⟩
  · skip
    have hN2 := hI.1 b hb4
    by_cases h2 : 2 ≤ b
    · skip
      exact absurd hok (by unfold sp_isNothingRefused; rw [hbk]; simp [h2])
    · skip
      have e9 : sp_isNothingRefused S (nI (b)) z = (0, true, S) := by simp [sp_isNothingRefused, hbk, h2]
      rw [e9]
      refine m_start (by decide) (Nat.le_of_ble_eq_true rfl) ?_
      intro p e s m below meth c hx hb hr hG hown hlocks hml hB ls hl
      have hl : lv_has ls 3 [(0, .ref (ad 0)), (1, .int (nI (b))), (2, .int (z))] := hl
      obtain ⟨hW, hK⟩ := hB
      have hS : va_S (Ao ad 36) s.heap s.heap [] := va_S.rf
      refine lv_aload_n hx hb dX4_isNothingRefused_0 rfl (lv_at hl 0 rfl) ?_
      refine lv_iload_n hx hb dX4_isNothingRefused_1 rfl (lv_at hl 1 rfl) ?_
      refine k1_V hx hb hml hown hG cs_X4_83 (k_plainBook l D cI cC ad S N b (by omega)) (by decide) (pzV hK rfl hW.rc hW) rfl hl.1 rfl (Nat.le_of_ble_eq_true rfl) dX4_isNothingRefused_2 ⟨Nat.zero_le _, Nat.zero_le _⟩ rfl ?_
      refine lv_pop hx hb dX4_isNothingRefused_5 rfl ?_
      refine lv_iconst (v := nI 1) hx hb dX4_isNothingRefused_6 (by decide) ?_
      exact w_z (PB := (fun H => Wc D cI cC ad S (N + 2000) H)) rfl (hW.mono (by omega)) hS hx hb hr hlocks dX4_isNothingRefused_7
  · skip
    exact absurd hok (by simp [sp_isNothingRefused, hbk, hbk])
set_option maxHeartbeats 4000000 in
set_option maxRecDepth 100000 in
theorem ok_outputAt (l : Launch) (D : va_G) (cI cC : ClassId) (ad : Nat → Nat) (S : St) (N : Nat) (x : Int32) (hI : Inv S) (hN : N + 2000 < 2 ^ 31) (hap : Ap ad 36) (hok : (sp_outputAt S x).1 = 0) : Met l yX4_outputAt (ws_ yX4_outputAt cX4_outputAt 2 (some .int)) (rmN 6) (va_Pc [.ref (ad 0), .int x] (pz D [(cI, .int), (cC, .char)] (fun H => Wc D cI cC ad S N H))) (Wq (some (.int (sp_outputAt S x).2.1)) (fun H => Wc D cI cC ad (sp_outputAt S x).2.2 (N + 2000) H) (Ao ad 36)) 0 0 (Ao ad 36) := by
  have hbd2 : S.2.1 ≤ 40 := hI.2.2.2.1
  have hCC : ∀ cu, cu < 3 → ∀ y, S.2.2.1 cu = some y → y.1 < 4 := fun cu hcu y hy => by have h := hI.2.2.2.2.1 cu hcu; rw [hy] at h; exact h.1
  have hOl := hI.2.2.2.2.2
  rcases bkn_cases S.2.2.2.length (by omega) x with ⟨j, hj, rfl, hbk⟩ | ⟨hbk, hno⟩
  · skip
    have e9 : sp_outputAt S (nI (j)) = (0, S.2.2.2[j]?.getD 0, S) := by unfold sp_outputAt; rw [hbk]
    rw [e9]
    refine m_start (by decide) (Nat.le_of_ble_eq_true rfl) ?_
    intro p e s m below meth c hx hb hr hG hown hlocks hml hB ls hl
    have hl : lv_has ls 2 [(0, .ref (ad 0)), (1, .int (nI (j)))] := hl
    obtain ⟨hW, hK⟩ := hB
    have hS : va_S (Ao ad 36) s.heap s.heap [] := va_S.rf
    refine lv_aload_n hx hb dX4_outputAt_0 rfl (lv_at hl 0 rfl) ?_
    refine gf_X4_46 hx hb hG hown hK hW.x 0 rfl rfl dX4_outputAt_1 ?_
    refine lv_iload_n hx hb dX4_outputAt_4 rfl (lv_at hl 1 rfl) ?_
    refine k1_V hx hb hml hown hG cs_X4_209 (by have h := c_oreaches l D (ou_ ad) S.2.2.2.length (nI j); rw [rch_in hj (by omega)] at h; exact h) (by decide) (pzV (hK.sub (tys' := []) [] rfl) rfl hW.ou.rc hW.ou.obj) rfl hl.1 rfl (Nat.le_of_ble_eq_true rfl) dX4_outputAt_5 ⟨Nat.zero_le _, Nat.zero_le _⟩ rfl ?_
    refine x_ifb_ne (tgt := 21) hx hb dX4_outputAt_8 (by decide) (fun zc1 => ?_) (fun zc1 => False.elim (by first | exact absurd zc1 (by decide) | omega | (simp_all; done)))
    refine lv_aload_n hx hb dX4_outputAt_21 rfl (lv_at hl 0 rfl) ?_
    refine gf_X4_46 hx hb hG hown hK hW.x 0 rfl rfl dX4_outputAt_22 ?_
    refine lv_iload_n hx hb dX4_outputAt_25 rfl (lv_at hl 1 rfl) ?_
    refine k1_V hx hb hml hown hG cs_X4_214 (c_signOn l D cC (ou_ ad) S.2.2.2 j hj) (by decide) (pzV (hK.sub (tys' := [(cC, .char)]) [1] rfl) rfl hW.ou.rc hW.ou) rfl hl.1 rfl (Nat.le_of_ble_eq_true rfl) dX4_outputAt_26 ⟨Nat.zero_le _, Nat.zero_le _⟩ rfl ?_
    exact w_i (PB := (fun H => Wc D cI cC ad S (N + 2000) H)) rfl (hW.mono (by omega)) hS hx hb hr hlocks dX4_outputAt_29
  · skip
    exact absurd hok (by unfold sp_outputAt; rw [hbk]; simp)
