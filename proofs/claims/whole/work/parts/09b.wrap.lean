theorem cd_rebind (S : St) (x : Int32) : cdP 1 S (sp_rebind S x) := by
  unfold sp_rebind 
  repeat' split
  all_goals first | exact Or.inl rfl | exact Or.inr ⟨Nat.le_of_ble_eq_true rfl, rfl⟩
set_option maxHeartbeats 4000000 in
set_option maxRecDepth 100000 in
theorem wr_rebind (l : Launch) (hst : l.stackTraces = false) (D : va_G) (cI cC cL : ClassId) (ad ta : Nat → Nat) (z : Nat) (S : St) (N : Nat) (qo : Nat) (f : Nat → Int64) (x : Int32) (hI : Inv S) (hN : N + 2000 < 2 ^ 31) (hap : Ap ad 36) (hqo : ¬ Ao ad 36 qo) : Met l yL_rebind (wsW_ yL_rebind cL_rebind 4 (some .int) [(0, 9, 12, 13)]) rmW (va_Pc [.ref (ad 0), .int (x), .ref (qo)] (pzw D [(cI, .int), (cC, .char), (cL, .long)] ta z (fun H => Wc D cI cC ad S N H ∧ va_P D vwCl (ouW cL qo f) H))) (Wq (some (.int (nI (sp_rebind S x).1))) (fun H => Wc D cI cC ad (sp_rebind S x).2.2 (N + 2000) H ∧ ∃ f9, va_P D vwCl (ouW cL qo f9) H ∧ ((sp_rebind S x).1 = 0 → f9 0 = Int32.toInt64 (sp_rebind S x).2.1)) (fun q => Ao ad 36 q ∨ q = qo)) 1 6 (fun q => Ao ad 36 q ∨ q = qo) := by
  by_cases hc : (sp_rebind S x).1 = 0
  · have hok := ok_rebind l D cI cC ad S N x hI hN hap hc
    refine m_startW (by decide) (Nat.le_of_ble_eq_true rfl) ?_
    intro p e s m below meth c hx hb hr hG hown hlocks hml htb hB ls hl
    have hl : lv_has ls 4 [(0, .ref (ad 0)), (1, .int (x)), (2, .ref (qo))] := hl
    obtain ⟨⟨hW, hP⟩, hK, hE, hT, hZ, hX⟩ := hB
    have hS : va_S (fun q => Ao ad 36 q ∨ q = qo) s.heap s.heap [] := va_S.rf
    refine W.widen (k := 1) (n := 6) (by decide) (by decide) ?_
    refine lv_aload_n hx hb dL_rebind_0 rfl (lv_at hl 2 rfl) ?_
    refine lv_iconst (v := nI 0) hx hb dL_rebind_1 (by decide) ?_
    refine lv_aload_n hx hb dL_rebind_2 rfl (lv_at hl 0 rfl) ?_
    refine lv_iload_n hx hb dL_rebind_3 rfl (lv_at hl 1 rfl) ?_
    refine k2_V hx hb hml hown hG cs_L_7 hok (by decide) (pzV (hK.sub (tys' := [(cI, .int), (cC, .char)]) [0, 1] rfl) rfl hW.rc hW) rfl hl.1 rfl (Nat.le_of_ble_eq_true rfl) dL_rebind_4 ⟨Nat.le_refl _, Nat.le_refl _⟩ rfl hS (fun q h => Or.inl h) (fun H locs hW hz hk hS => ?_)
    have hP := oneK hP (hk qo (va_lt hP (k := 0) rfl) hqo)
    refine lv_i2l (v := Int32.toInt64 ((sp_rebind S x).2.1)) hx hb dL_rebind_7 rfl ?_
    refine x_last0 hx hb hK hP hS (Or.inr rfl) 2 rfl dL_rebind_8 (fun H locs f9 hf hP ho hS => ?_)
    have hW := hW.kept (fun i hi => ho _ (fun e9 => hqo ⟨i, hi, e9.symm⟩))
    refine lv_goto (tgt := 15) hx hb dL_rebind_9 (by decide) ?_
    refine lv_iconst (v := nI 0) hx hb dL_rebind_15 (by decide) ?_
    exact w_i (by rw [hc]) ⟨hW, f9, hP, fun _ => hf⟩ hS hx hb hr hlocks dL_rebind_16
  · obtain ⟨hc1, hc2⟩ := (cd_rebind S x).resolve_left hc
    have hxx := xx_rebind l hst D cI cC ad ta z S N x hI hc
    have hk9 : (sp_rebind S x).1 = 1 := by omega
    rw [hk9] at hxx
    refine m_startW (by decide) (Nat.le_of_ble_eq_true rfl) ?_
    intro p e s m below meth c hx hb hr hG hown hlocks hml htb hB ls hl
    have hl : lv_has ls 4 [(0, .ref (ad 0)), (1, .int (x)), (2, .ref (qo))] := hl
    obtain ⟨⟨hW, hP⟩, hK, hE, hT, hZ, hX⟩ := hB
    refine lv_aload_n hx hb dL_rebind_0 rfl (lv_at hl 2 rfl) ?_
    refine lv_iconst (v := nI 0) hx hb dL_rebind_1 (by decide) ?_
    refine lv_aload_n hx hb dL_rebind_2 rfl (lv_at hl 0 rfl) ?_
    refine lv_iload_n hx hb dL_rebind_3 rfl (lv_at hl 1 rfl) ?_
    refine k3_V hx hb hml hown hG cs_L_7 hxx (by decide) (pztV (hK.sub (tys' := [(cI, .int), (cC, .char)]) [0, 1] rfl) hE hT hZ (fun _ _ _ => rfl) rfl hW.rc hW) rfl hl.1 rfl (Nat.le_of_ble_eq_true rfl) dL_rebind_4 ⟨Nat.le_refl _, Nat.le_refl _⟩ (fun H1 q9 ce h1 h2 h3 h4 h5 => ?_)
    have h5 : s.vm.findClass "java/lang/IllegalArgumentException" = some ce.cls := h5
    refine vx_catch hown [] ⟨0, 9, 12, 13⟩ [] (htb.trans rfl) (fun y9 hy9 => nomatch hy9) rfl (by decide) (hG _ cl_L_13) (hE.at _ (List.mem_of_getElem? (i := 4) rfl)) h3 h4 h5 ?_
    refine lv_astore_n (lv' := [(3, .ref (q9)), (0, .ref (ad 0)), (1, .int (x)), (2, .ref (qo))]) hx hb dL_rebind_12 rfl hl (by decide) rfl (fun ls hl => ?_)
    refine lv_iconst (v := nI 1) hx hb dL_rebind_13 (by decide) ?_
    exact w_i (by rw [hk9]) ⟨by rw [hc2]; exact (hW.kept (fun i hi => h2 _ (hW.lt hi))).mono (by omega), f, oneK hP (h2 _ (va_lt hP (k := 0) rfl)), fun h => absurd h hc⟩ ⟨h1, fun q hq _ => h2 q hq, fun y9 hy9 => nomatch hy9⟩ hx hb hr hlocks dL_rebind_14
theorem cd_put (S : St) (x key v : Int32) : cdP 3 S (sp_put S x key v) := by
  unfold sp_put 
  repeat' split
  all_goals first | exact Or.inl rfl | exact Or.inr ⟨Nat.le_of_ble_eq_true rfl, rfl⟩
set_option maxHeartbeats 4000000 in
set_option maxRecDepth 100000 in
theorem wr_put (l : Launch) (hst : l.stackTraces = false) (D : va_G) (cI cC cL : ClassId) (ad ta : Nat → Nat) (z : Nat) (S : St) (N : Nat) (qo : Nat) (f : Nat → Int64) (x key v : Int32) (hI : Inv S) (hN : N + 2000 < 2 ^ 31) (hap : Ap ad 36) (hqo : ¬ Ao ad 36 qo) : Met l yL_put (wsW_ yL_put cL_put 6 (some .int) [(0, 19, 22, 19), (0, 19, 26, 13), (0, 19, 30, 21)]) rmW (va_Pc [.ref (ad 0), .int (x), .int (key), .int (v), .ref (qo)] (pzw D [(cI, .int), (cC, .char), (cL, .long)] ta z (fun H => Wc D cI cC ad S N H ∧ va_P D vwCl (ouW cL qo f) H))) (Wq (some (.int (nI (sp_put S x key v).1))) (fun H => Wc D cI cC ad (sp_put S x key v).2.2 (N + 2000) H ∧ ∃ f9, va_P D vwCl (ouW cL qo f9) H ∧ ((sp_put S x key v).1 = 0 → f9 0 = zl (sp_put S x key v).2.1)) (fun q => Ao ad 36 q ∨ q = qo)) 1 6 (fun q => Ao ad 36 q ∨ q = qo) := by
  by_cases hc : (sp_put S x key v).1 = 0
  · have hok := ok_put l D cI cC ad S N x key v hI hN hap hc
    refine m_startW (by decide) (Nat.le_of_ble_eq_true rfl) ?_
    intro p e s m below meth c hx hb hr hG hown hlocks hml htb hB ls hl
    have hl : lv_has ls 6 [(0, .ref (ad 0)), (1, .int (x)), (2, .int (key)), (3, .int (v)), (4, .ref (qo))] := hl
    obtain ⟨⟨hW, hP⟩, hK, hE, hT, hZ, hX⟩ := hB
    have hS : va_S (fun q => Ao ad 36 q ∨ q = qo) s.heap s.heap [] := va_S.rf
    refine W.widen (k := 1) (n := 6) (by decide) (by decide) ?_
    refine lv_aload hx hb dL_put_0 (lv_at hl 4 rfl) ?_
    refine lv_iconst (v := nI 0) hx hb dL_put_2 (by decide) ?_
    refine lv_aload_n hx hb dL_put_3 rfl (lv_at hl 0 rfl) ?_
    refine lv_iload_n hx hb dL_put_4 rfl (lv_at hl 1 rfl) ?_
    refine lv_iload_n hx hb dL_put_5 rfl (lv_at hl 2 rfl) ?_
    refine lv_iload_n hx hb dL_put_6 rfl (lv_at hl 3 rfl) ?_
    refine k2_V hx hb hml hown hG cs_L_15 hok (by decide) (pzV (hK.sub (tys' := [(cI, .int), (cC, .char)]) [0, 1] rfl) rfl hW.rc hW) rfl hl.1 rfl (Nat.le_of_ble_eq_true rfl) dL_put_7 ⟨Nat.le_refl _, Nat.le_refl _⟩ rfl hS (fun q h => Or.inl h) (fun H locs hW hz hk hS => ?_)
    have hP := oneK hP (hk qo (va_lt hP (k := 0) rfl) hqo)
    refine x_ifb_eq (tgt := 17) hx hb dL_put_10 (by decide) (fun c1 => ?_) (fun c1 => ?_)
    · refine lv_lconst (v := lN (0)) hx hb dL_put_17 (by decide) ?_
      refine x_last0 hx hb hK hP hS (Or.inr rfl) 2 rfl dL_put_18 (fun H locs f9 hf hP ho hS => ?_)
      have hW := hW.kept (fun i hi => ho _ (fun e9 => hqo ⟨i, hi, e9.symm⟩))
      refine lv_goto (tgt := 34) hx hb dL_put_19 (by decide) ?_
      refine lv_iconst (v := nI 0) hx hb dL_put_34 (by decide) ?_
      exact w_i (by rw [hc]) ⟨hW, f9, hP, fun _ => by rw [hf, c1]; rfl⟩ hS hx hb hr hlocks dL_put_35
    · refine lv_lconst (v := lN (1)) hx hb dL_put_13 (by decide) ?_
      refine lv_goto (tgt := 18) hx hb dL_put_14 (by decide) ?_
      refine x_last0 hx hb hK hP hS (Or.inr rfl) 2 rfl dL_put_18 (fun H locs f9 hf hP ho hS => ?_)
      have hW := hW.kept (fun i hi => ho _ (fun e9 => hqo ⟨i, hi, e9.symm⟩))
      refine lv_goto (tgt := 34) hx hb dL_put_19 (by decide) ?_
      refine lv_iconst (v := nI 0) hx hb dL_put_34 (by decide) ?_
      exact w_i (by rw [hc]) ⟨hW, f9, hP, fun _ => by rw [hf, c1]; rfl⟩ hS hx hb hr hlocks dL_put_35
  · obtain ⟨hc1, hc2⟩ := (cd_put S x key v).resolve_left hc
    have hxx := xx_put l hst D cI cC ad ta z S N x key v hI hc
    rcases (show (sp_put S x key v).1 = 1 ∨ (sp_put S x key v).1 = 2 ∨ (sp_put S x key v).1 = 3 from by omega) with hk9 | hk9 | hk9
    · skip
      rw [hk9] at hxx
      refine m_startW (by decide) (Nat.le_of_ble_eq_true rfl) ?_
      intro p e s m below meth c hx hb hr hG hown hlocks hml htb hB ls hl
      have hl : lv_has ls 6 [(0, .ref (ad 0)), (1, .int (x)), (2, .int (key)), (3, .int (v)), (4, .ref (qo))] := hl
      obtain ⟨⟨hW, hP⟩, hK, hE, hT, hZ, hX⟩ := hB
      refine lv_aload hx hb dL_put_0 (lv_at hl 4 rfl) ?_
      refine lv_iconst (v := nI 0) hx hb dL_put_2 (by decide) ?_
      refine lv_aload_n hx hb dL_put_3 rfl (lv_at hl 0 rfl) ?_
      refine lv_iload_n hx hb dL_put_4 rfl (lv_at hl 1 rfl) ?_
      refine lv_iload_n hx hb dL_put_5 rfl (lv_at hl 2 rfl) ?_
      refine lv_iload_n hx hb dL_put_6 rfl (lv_at hl 3 rfl) ?_
      refine k3_V hx hb hml hown hG cs_L_15 hxx (by decide) (pztV (hK.sub (tys' := [(cI, .int), (cC, .char)]) [0, 1] rfl) hE hT hZ (fun _ _ _ => rfl) rfl hW.rc hW) rfl hl.1 rfl (Nat.le_of_ble_eq_true rfl) dL_put_7 ⟨Nat.le_refl _, Nat.le_refl _⟩ (fun H1 q9 ce h1 h2 h3 h4 h5 => ?_)
      have h5 : s.vm.findClass "java/lang/IndexOutOfBoundsException" = some ce.cls := h5
      refine vx_catch hown [] ⟨0, 19, 22, 19⟩ [⟨0, 19, 26, 13⟩, ⟨0, 19, 30, 21⟩] (htb.trans rfl) (fun y9 hy9 => nomatch hy9) rfl (by decide) (hG _ cl_L_19) (hE.at _ (List.mem_of_getElem? (i := 3) rfl)) h3 h4 h5 ?_
      refine lv_astore (lv' := [(5, .ref (q9)), (0, .ref (ad 0)), (1, .int (x)), (2, .int (key)), (3, .int (v)), (4, .ref (qo))]) hx hb dL_put_22 hl (by decide) rfl (fun ls hl => ?_)
      refine lv_iconst (v := nI 1) hx hb dL_put_24 (by decide) ?_
      exact w_i (by rw [hk9]) ⟨by rw [hc2]; exact (hW.kept (fun i hi => h2 _ (hW.lt hi))).mono (by omega), f, oneK hP (h2 _ (va_lt hP (k := 0) rfl)), fun h => absurd h hc⟩ ⟨h1, fun q hq _ => h2 q hq, fun y9 hy9 => nomatch hy9⟩ hx hb hr hlocks dL_put_25
    · skip
      rw [hk9] at hxx
      refine m_startW (by decide) (Nat.le_of_ble_eq_true rfl) ?_
      intro p e s m below meth c hx hb hr hG hown hlocks hml htb hB ls hl
      have hl : lv_has ls 6 [(0, .ref (ad 0)), (1, .int (x)), (2, .int (key)), (3, .int (v)), (4, .ref (qo))] := hl
      obtain ⟨⟨hW, hP⟩, hK, hE, hT, hZ, hX⟩ := hB
      refine lv_aload hx hb dL_put_0 (lv_at hl 4 rfl) ?_
      refine lv_iconst (v := nI 0) hx hb dL_put_2 (by decide) ?_
      refine lv_aload_n hx hb dL_put_3 rfl (lv_at hl 0 rfl) ?_
      refine lv_iload_n hx hb dL_put_4 rfl (lv_at hl 1 rfl) ?_
      refine lv_iload_n hx hb dL_put_5 rfl (lv_at hl 2 rfl) ?_
      refine lv_iload_n hx hb dL_put_6 rfl (lv_at hl 3 rfl) ?_
      refine k3_V hx hb hml hown hG cs_L_15 hxx (by decide) (pztV (hK.sub (tys' := [(cI, .int), (cC, .char)]) [0, 1] rfl) hE hT hZ (fun _ _ _ => rfl) rfl hW.rc hW) rfl hl.1 rfl (Nat.le_of_ble_eq_true rfl) dL_put_7 ⟨Nat.le_refl _, Nat.le_refl _⟩ (fun H1 q9 ce h1 h2 h3 h4 h5 => ?_)
      have h5 : s.vm.findClass "java/lang/IllegalArgumentException" = some ce.cls := h5
      refine vx_catch hown [⟨0, 19, 22, 19⟩] ⟨0, 19, 26, 13⟩ [⟨0, 19, 30, 21⟩] (htb.trans rfl) (fun y9 hy9 => by
          rcases List.mem_cons.mp hy9 with rfl | hy9
          · exact Or.inr ⟨by decide, "java/lang/IndexOutOfBoundsException", hG _ cl_L_19, hX.1⟩
          nomatch hy9) rfl (by decide) (hG _ cl_L_13) (hE.at _ (List.mem_of_getElem? (i := 4) rfl)) h3 h4 h5 ?_
      refine lv_astore (lv' := [(5, .ref (q9)), (0, .ref (ad 0)), (1, .int (x)), (2, .int (key)), (3, .int (v)), (4, .ref (qo))]) hx hb dL_put_26 hl (by decide) rfl (fun ls hl => ?_)
      refine lv_iconst (v := nI 2) hx hb dL_put_28 (by decide) ?_
      exact w_i (by rw [hk9]) ⟨by rw [hc2]; exact (hW.kept (fun i hi => h2 _ (hW.lt hi))).mono (by omega), f, oneK hP (h2 _ (va_lt hP (k := 0) rfl)), fun h => absurd h hc⟩ ⟨h1, fun q hq _ => h2 q hq, fun y9 hy9 => nomatch hy9⟩ hx hb hr hlocks dL_put_29
    · skip
      rw [hk9] at hxx
      refine m_startW (by decide) (Nat.le_of_ble_eq_true rfl) ?_
      intro p e s m below meth c hx hb hr hG hown hlocks hml htb hB ls hl
      have hl : lv_has ls 6 [(0, .ref (ad 0)), (1, .int (x)), (2, .int (key)), (3, .int (v)), (4, .ref (qo))] := hl
      obtain ⟨⟨hW, hP⟩, hK, hE, hT, hZ, hX⟩ := hB
      refine lv_aload hx hb dL_put_0 (lv_at hl 4 rfl) ?_
      refine lv_iconst (v := nI 0) hx hb dL_put_2 (by decide) ?_
      refine lv_aload_n hx hb dL_put_3 rfl (lv_at hl 0 rfl) ?_
      refine lv_iload_n hx hb dL_put_4 rfl (lv_at hl 1 rfl) ?_
      refine lv_iload_n hx hb dL_put_5 rfl (lv_at hl 2 rfl) ?_
      refine lv_iload_n hx hb dL_put_6 rfl (lv_at hl 3 rfl) ?_
      refine k3_V hx hb hml hown hG cs_L_15 hxx (by decide) (pztV (hK.sub (tys' := [(cI, .int), (cC, .char)]) [0, 1] rfl) hE hT hZ (fun _ _ _ => rfl) rfl hW.rc hW) rfl hl.1 rfl (Nat.le_of_ble_eq_true rfl) dL_put_7 ⟨Nat.le_refl _, Nat.le_refl _⟩ (fun H1 q9 ce h1 h2 h3 h4 h5 => ?_)
      have h5 : s.vm.findClass "java/lang/IllegalStateException" = some ce.cls := h5
      refine vx_catch hown [⟨0, 19, 22, 19⟩, ⟨0, 19, 26, 13⟩] ⟨0, 19, 30, 21⟩ [] (htb.trans rfl) (fun y9 hy9 => by
          rcases List.mem_cons.mp hy9 with rfl | hy9
          · exact Or.inr ⟨by decide, "java/lang/IndexOutOfBoundsException", hG _ cl_L_19, hX.2.1⟩
          rcases List.mem_cons.mp hy9 with rfl | hy9
          · exact Or.inr ⟨by decide, "java/lang/IllegalArgumentException", hG _ cl_L_13, hX.2.2.1⟩
          nomatch hy9) rfl (by decide) (hG _ cl_L_21) (hE.at _ (List.mem_of_getElem? (i := 5) rfl)) h3 h4 h5 ?_
      refine lv_astore (lv' := [(5, .ref (q9)), (0, .ref (ad 0)), (1, .int (x)), (2, .int (key)), (3, .int (v)), (4, .ref (qo))]) hx hb dL_put_30 hl (by decide) rfl (fun ls hl => ?_)
      refine lv_iconst (v := nI 3) hx hb dL_put_32 (by decide) ?_
      exact w_i (by rw [hk9]) ⟨by rw [hc2]; exact (hW.kept (fun i hi => h2 _ (hW.lt hi))).mono (by omega), f, oneK hP (h2 _ (va_lt hP (k := 0) rfl)), fun h => absurd h hc⟩ ⟨h1, fun q hq _ => h2 q hq, fun y9 hy9 => nomatch hy9⟩ hx hb hr hlocks dL_put_33
theorem cd_putNew (S : St) (x key v : Int32) : cdP 3 S (sp_putNew S x key v) := by
  unfold sp_putNew 
  repeat' split
  all_goals first | exact Or.inl rfl | exact Or.inr ⟨Nat.le_of_ble_eq_true rfl, rfl⟩
set_option maxHeartbeats 4000000 in
set_option maxRecDepth 100000 in
theorem wr_putNew (l : Launch) (hst : l.stackTraces = false) (D : va_G) (cI cC cL : ClassId) (ad ta : Nat → Nat) (z : Nat) (S : St) (N : Nat) (qo : Nat) (f : Nat → Int64) (x key v : Int32) (hI : Inv S) (hN : N + 2000 < 2 ^ 31) (hap : Ap ad 36) (hqo : ¬ Ao ad 36 qo) : Met l yL_putNew (wsW_ yL_putNew cL_putNew 6 (some .int) [(0, 12, 15, 19), (0, 12, 19, 13), (0, 12, 23, 21)]) rmW (va_Pc [.ref (ad 0), .int (x), .int (key), .int (v), .ref (qo)] (pzw D [(cI, .int), (cC, .char), (cL, .long)] ta z (fun H => Wc D cI cC ad S N H ∧ va_P D vwCl (ouW cL qo f) H))) (Wq (some (.int (nI (sp_putNew S x key v).1))) (fun H => Wc D cI cC ad (sp_putNew S x key v).2.2 (N + 2000) H ∧ ∃ f9, va_P D vwCl (ouW cL qo f9) H ∧ ((sp_putNew S x key v).1 = 0 → f9 0 = Int32.toInt64 (sp_putNew S x key v).2.1)) (fun q => Ao ad 36 q ∨ q = qo)) 1 6 (fun q => Ao ad 36 q ∨ q = qo) := by
  by_cases hc : (sp_putNew S x key v).1 = 0
  · have hok := ok_putNew l D cI cC ad S N x key v hI hN hap hc
    refine m_startW (by decide) (Nat.le_of_ble_eq_true rfl) ?_
    intro p e s m below meth c hx hb hr hG hown hlocks hml htb hB ls hl
    have hl : lv_has ls 6 [(0, .ref (ad 0)), (1, .int (x)), (2, .int (key)), (3, .int (v)), (4, .ref (qo))] := hl
    obtain ⟨⟨hW, hP⟩, hK, hE, hT, hZ, hX⟩ := hB
    have hS : va_S (fun q => Ao ad 36 q ∨ q = qo) s.heap s.heap [] := va_S.rf
    refine W.widen (k := 1) (n := 6) (by decide) (by decide) ?_
    refine lv_aload hx hb dL_putNew_0 (lv_at hl 4 rfl) ?_
    refine lv_iconst (v := nI 0) hx hb dL_putNew_2 (by decide) ?_
    refine lv_aload_n hx hb dL_putNew_3 rfl (lv_at hl 0 rfl) ?_
    refine lv_iload_n hx hb dL_putNew_4 rfl (lv_at hl 1 rfl) ?_
    refine lv_iload_n hx hb dL_putNew_5 rfl (lv_at hl 2 rfl) ?_
    refine lv_iload_n hx hb dL_putNew_6 rfl (lv_at hl 3 rfl) ?_
    refine k2_V hx hb hml hown hG cs_L_23 hok (by decide) (pzV (hK.sub (tys' := [(cI, .int), (cC, .char)]) [0, 1] rfl) rfl hW.rc hW) rfl hl.1 rfl (Nat.le_of_ble_eq_true rfl) dL_putNew_7 ⟨Nat.le_refl _, Nat.le_refl _⟩ rfl hS (fun q h => Or.inl h) (fun H locs hW hz hk hS => ?_)
    have hP := oneK hP (hk qo (va_lt hP (k := 0) rfl) hqo)
    refine lv_i2l (v := Int32.toInt64 ((sp_putNew S x key v).2.1)) hx hb dL_putNew_10 rfl ?_
    refine x_last0 hx hb hK hP hS (Or.inr rfl) 2 rfl dL_putNew_11 (fun H locs f9 hf hP ho hS => ?_)
    have hW := hW.kept (fun i hi => ho _ (fun e9 => hqo ⟨i, hi, e9.symm⟩))
    refine lv_goto (tgt := 27) hx hb dL_putNew_12 (by decide) ?_
    refine lv_iconst (v := nI 0) hx hb dL_putNew_27 (by decide) ?_
    exact w_i (by rw [hc]) ⟨hW, f9, hP, fun _ => hf⟩ hS hx hb hr hlocks dL_putNew_28
  · obtain ⟨hc1, hc2⟩ := (cd_putNew S x key v).resolve_left hc
    have hxx := xx_putNew l hst D cI cC ad ta z S N x key v hI hc
    rcases (show (sp_putNew S x key v).1 = 1 ∨ (sp_putNew S x key v).1 = 2 ∨ (sp_putNew S x key v).1 = 3 from by omega) with hk9 | hk9 | hk9
    · skip
      rw [hk9] at hxx
      refine m_startW (by decide) (Nat.le_of_ble_eq_true rfl) ?_
      intro p e s m below meth c hx hb hr hG hown hlocks hml htb hB ls hl
      have hl : lv_has ls 6 [(0, .ref (ad 0)), (1, .int (x)), (2, .int (key)), (3, .int (v)), (4, .ref (qo))] := hl
      obtain ⟨⟨hW, hP⟩, hK, hE, hT, hZ, hX⟩ := hB
      refine lv_aload hx hb dL_putNew_0 (lv_at hl 4 rfl) ?_
      refine lv_iconst (v := nI 0) hx hb dL_putNew_2 (by decide) ?_
      refine lv_aload_n hx hb dL_putNew_3 rfl (lv_at hl 0 rfl) ?_
      refine lv_iload_n hx hb dL_putNew_4 rfl (lv_at hl 1 rfl) ?_
      refine lv_iload_n hx hb dL_putNew_5 rfl (lv_at hl 2 rfl) ?_
      refine lv_iload_n hx hb dL_putNew_6 rfl (lv_at hl 3 rfl) ?_
      refine k3_V hx hb hml hown hG cs_L_23 hxx (by decide) (pztV (hK.sub (tys' := [(cI, .int), (cC, .char)]) [0, 1] rfl) hE hT hZ (fun _ _ _ => rfl) rfl hW.rc hW) rfl hl.1 rfl (Nat.le_of_ble_eq_true rfl) dL_putNew_7 ⟨Nat.le_refl _, Nat.le_refl _⟩ (fun H1 q9 ce h1 h2 h3 h4 h5 => ?_)
      have h5 : s.vm.findClass "java/lang/IndexOutOfBoundsException" = some ce.cls := h5
      refine vx_catch hown [] ⟨0, 12, 15, 19⟩ [⟨0, 12, 19, 13⟩, ⟨0, 12, 23, 21⟩] (htb.trans rfl) (fun y9 hy9 => nomatch hy9) rfl (by decide) (hG _ cl_L_19) (hE.at _ (List.mem_of_getElem? (i := 3) rfl)) h3 h4 h5 ?_
      refine lv_astore (lv' := [(5, .ref (q9)), (0, .ref (ad 0)), (1, .int (x)), (2, .int (key)), (3, .int (v)), (4, .ref (qo))]) hx hb dL_putNew_15 hl (by decide) rfl (fun ls hl => ?_)
      refine lv_iconst (v := nI 1) hx hb dL_putNew_17 (by decide) ?_
      exact w_i (by rw [hk9]) ⟨by rw [hc2]; exact (hW.kept (fun i hi => h2 _ (hW.lt hi))).mono (by omega), f, oneK hP (h2 _ (va_lt hP (k := 0) rfl)), fun h => absurd h hc⟩ ⟨h1, fun q hq _ => h2 q hq, fun y9 hy9 => nomatch hy9⟩ hx hb hr hlocks dL_putNew_18
    · skip
      rw [hk9] at hxx
      refine m_startW (by decide) (Nat.le_of_ble_eq_true rfl) ?_
      intro p e s m below meth c hx hb hr hG hown hlocks hml htb hB ls hl
      have hl : lv_has ls 6 [(0, .ref (ad 0)), (1, .int (x)), (2, .int (key)), (3, .int (v)), (4, .ref (qo))] := hl
      obtain ⟨⟨hW, hP⟩, hK, hE, hT, hZ, hX⟩ := hB
      refine lv_aload hx hb dL_putNew_0 (lv_at hl 4 rfl) ?_
      refine lv_iconst (v := nI 0) hx hb dL_putNew_2 (by decide) ?_
      refine lv_aload_n hx hb dL_putNew_3 rfl (lv_at hl 0 rfl) ?_
      refine lv_iload_n hx hb dL_putNew_4 rfl (lv_at hl 1 rfl) ?_
      refine lv_iload_n hx hb dL_putNew_5 rfl (lv_at hl 2 rfl) ?_
      refine lv_iload_n hx hb dL_putNew_6 rfl (lv_at hl 3 rfl) ?_
      refine k3_V hx hb hml hown hG cs_L_23 hxx (by decide) (pztV (hK.sub (tys' := [(cI, .int), (cC, .char)]) [0, 1] rfl) hE hT hZ (fun _ _ _ => rfl) rfl hW.rc hW) rfl hl.1 rfl (Nat.le_of_ble_eq_true rfl) dL_putNew_7 ⟨Nat.le_refl _, Nat.le_refl _⟩ (fun H1 q9 ce h1 h2 h3 h4 h5 => ?_)
      have h5 : s.vm.findClass "java/lang/IllegalArgumentException" = some ce.cls := h5
      refine vx_catch hown [⟨0, 12, 15, 19⟩] ⟨0, 12, 19, 13⟩ [⟨0, 12, 23, 21⟩] (htb.trans rfl) (fun y9 hy9 => by
          rcases List.mem_cons.mp hy9 with rfl | hy9
          · exact Or.inr ⟨by decide, "java/lang/IndexOutOfBoundsException", hG _ cl_L_19, hX.1⟩
          nomatch hy9) rfl (by decide) (hG _ cl_L_13) (hE.at _ (List.mem_of_getElem? (i := 4) rfl)) h3 h4 h5 ?_
      refine lv_astore (lv' := [(5, .ref (q9)), (0, .ref (ad 0)), (1, .int (x)), (2, .int (key)), (3, .int (v)), (4, .ref (qo))]) hx hb dL_putNew_19 hl (by decide) rfl (fun ls hl => ?_)
      refine lv_iconst (v := nI 2) hx hb dL_putNew_21 (by decide) ?_
      exact w_i (by rw [hk9]) ⟨by rw [hc2]; exact (hW.kept (fun i hi => h2 _ (hW.lt hi))).mono (by omega), f, oneK hP (h2 _ (va_lt hP (k := 0) rfl)), fun h => absurd h hc⟩ ⟨h1, fun q hq _ => h2 q hq, fun y9 hy9 => nomatch hy9⟩ hx hb hr hlocks dL_putNew_22
    · skip
      rw [hk9] at hxx
      refine m_startW (by decide) (Nat.le_of_ble_eq_true rfl) ?_
      intro p e s m below meth c hx hb hr hG hown hlocks hml htb hB ls hl
      have hl : lv_has ls 6 [(0, .ref (ad 0)), (1, .int (x)), (2, .int (key)), (3, .int (v)), (4, .ref (qo))] := hl
      obtain ⟨⟨hW, hP⟩, hK, hE, hT, hZ, hX⟩ := hB
      refine lv_aload hx hb dL_putNew_0 (lv_at hl 4 rfl) ?_
      refine lv_iconst (v := nI 0) hx hb dL_putNew_2 (by decide) ?_
      refine lv_aload_n hx hb dL_putNew_3 rfl (lv_at hl 0 rfl) ?_
      refine lv_iload_n hx hb dL_putNew_4 rfl (lv_at hl 1 rfl) ?_
      refine lv_iload_n hx hb dL_putNew_5 rfl (lv_at hl 2 rfl) ?_
      refine lv_iload_n hx hb dL_putNew_6 rfl (lv_at hl 3 rfl) ?_
      refine k3_V hx hb hml hown hG cs_L_23 hxx (by decide) (pztV (hK.sub (tys' := [(cI, .int), (cC, .char)]) [0, 1] rfl) hE hT hZ (fun _ _ _ => rfl) rfl hW.rc hW) rfl hl.1 rfl (Nat.le_of_ble_eq_true rfl) dL_putNew_7 ⟨Nat.le_refl _, Nat.le_refl _⟩ (fun H1 q9 ce h1 h2 h3 h4 h5 => ?_)
      have h5 : s.vm.findClass "java/lang/IllegalStateException" = some ce.cls := h5
      refine vx_catch hown [⟨0, 12, 15, 19⟩, ⟨0, 12, 19, 13⟩] ⟨0, 12, 23, 21⟩ [] (htb.trans rfl) (fun y9 hy9 => by
          rcases List.mem_cons.mp hy9 with rfl | hy9
          · exact Or.inr ⟨by decide, "java/lang/IndexOutOfBoundsException", hG _ cl_L_19, hX.2.1⟩
          rcases List.mem_cons.mp hy9 with rfl | hy9
          · exact Or.inr ⟨by decide, "java/lang/IllegalArgumentException", hG _ cl_L_13, hX.2.2.1⟩
          nomatch hy9) rfl (by decide) (hG _ cl_L_21) (hE.at _ (List.mem_of_getElem? (i := 5) rfl)) h3 h4 h5 ?_
      refine lv_astore (lv' := [(5, .ref (q9)), (0, .ref (ad 0)), (1, .int (x)), (2, .int (key)), (3, .int (v)), (4, .ref (qo))]) hx hb dL_putNew_23 hl (by decide) rfl (fun ls hl => ?_)
      refine lv_iconst (v := nI 3) hx hb dL_putNew_25 (by decide) ?_
      exact w_i (by rw [hk9]) ⟨by rw [hc2]; exact (hW.kept (fun i hi => h2 _ (hW.lt hi))).mono (by omega), f, oneK hP (h2 _ (va_lt hP (k := 0) rfl)), fun h => absurd h hc⟩ ⟨h1, fun q hq _ => h2 q hq, fun y9 hy9 => nomatch hy9⟩ hx hb hr hlocks dL_putNew_26
theorem cd_add (S : St) (x key v : Int32) : cdP 3 S (sp_add S x key v) := by
  unfold sp_add 
  repeat' split
  all_goals first | exact Or.inl rfl | exact Or.inr ⟨Nat.le_of_ble_eq_true rfl, rfl⟩
set_option maxHeartbeats 4000000 in
set_option maxRecDepth 100000 in
theorem wr_add (l : Launch) (hst : l.stackTraces = false) (D : va_G) (cI cC cL : ClassId) (ad ta : Nat → Nat) (z : Nat) (S : St) (N : Nat) (qo : Nat) (f : Nat → Int64) (x key v : Int32) (hI : Inv S) (hN : N + 2000 < 2 ^ 31) (hap : Ap ad 36) (hqo : ¬ Ao ad 36 qo) : Met l yL_add (wsW_ yL_add cL_add 6 (some .int) [(0, 12, 15, 19), (0, 12, 19, 13), (0, 12, 23, 21)]) rmW (va_Pc [.ref (ad 0), .int (x), .int (key), .int (v), .ref (qo)] (pzw D [(cI, .int), (cC, .char), (cL, .long)] ta z (fun H => Wc D cI cC ad S N H ∧ va_P D vwCl (ouW cL qo f) H))) (Wq (some (.int (nI (sp_add S x key v).1))) (fun H => Wc D cI cC ad (sp_add S x key v).2.2 (N + 2000) H ∧ ∃ f9, va_P D vwCl (ouW cL qo f9) H ∧ ((sp_add S x key v).1 = 0 → f9 0 = Int32.toInt64 (sp_add S x key v).2.1)) (fun q => Ao ad 36 q ∨ q = qo)) 1 6 (fun q => Ao ad 36 q ∨ q = qo) := by
  by_cases hc : (sp_add S x key v).1 = 0
  · have hok := ok_add l D cI cC ad S N x key v hI hN hap hc
    refine m_startW (by decide) (Nat.le_of_ble_eq_true rfl) ?_
    intro p e s m below meth c hx hb hr hG hown hlocks hml htb hB ls hl
    have hl : lv_has ls 6 [(0, .ref (ad 0)), (1, .int (x)), (2, .int (key)), (3, .int (v)), (4, .ref (qo))] := hl
    obtain ⟨⟨hW, hP⟩, hK, hE, hT, hZ, hX⟩ := hB
    have hS : va_S (fun q => Ao ad 36 q ∨ q = qo) s.heap s.heap [] := va_S.rf
    refine W.widen (k := 1) (n := 6) (by decide) (by decide) ?_
    refine lv_aload hx hb dL_add_0 (lv_at hl 4 rfl) ?_
    refine lv_iconst (v := nI 0) hx hb dL_add_2 (by decide) ?_
    refine lv_aload_n hx hb dL_add_3 rfl (lv_at hl 0 rfl) ?_
    refine lv_iload_n hx hb dL_add_4 rfl (lv_at hl 1 rfl) ?_
    refine lv_iload_n hx hb dL_add_5 rfl (lv_at hl 2 rfl) ?_
    refine lv_iload_n hx hb dL_add_6 rfl (lv_at hl 3 rfl) ?_
    refine k2_V hx hb hml hown hG cs_L_27 hok (by decide) (pzV (hK.sub (tys' := [(cI, .int), (cC, .char)]) [0, 1] rfl) rfl hW.rc hW) rfl hl.1 rfl (Nat.le_of_ble_eq_true rfl) dL_add_7 ⟨Nat.le_refl _, Nat.le_refl _⟩ rfl hS (fun q h => Or.inl h) (fun H locs hW hz hk hS => ?_)
    have hP := oneK hP (hk qo (va_lt hP (k := 0) rfl) hqo)
    refine lv_i2l (v := Int32.toInt64 ((sp_add S x key v).2.1)) hx hb dL_add_10 rfl ?_
    refine x_last0 hx hb hK hP hS (Or.inr rfl) 2 rfl dL_add_11 (fun H locs f9 hf hP ho hS => ?_)
    have hW := hW.kept (fun i hi => ho _ (fun e9 => hqo ⟨i, hi, e9.symm⟩))
    refine lv_goto (tgt := 27) hx hb dL_add_12 (by decide) ?_
    refine lv_iconst (v := nI 0) hx hb dL_add_27 (by decide) ?_
    exact w_i (by rw [hc]) ⟨hW, f9, hP, fun _ => hf⟩ hS hx hb hr hlocks dL_add_28
  · obtain ⟨hc1, hc2⟩ := (cd_add S x key v).resolve_left hc
    have hxx := xx_add l hst D cI cC ad ta z S N x key v hI hc
    rcases (show (sp_add S x key v).1 = 1 ∨ (sp_add S x key v).1 = 2 ∨ (sp_add S x key v).1 = 3 from by omega) with hk9 | hk9 | hk9
    · skip
      rw [hk9] at hxx
      refine m_startW (by decide) (Nat.le_of_ble_eq_true rfl) ?_
      intro p e s m below meth c hx hb hr hG hown hlocks hml htb hB ls hl
      have hl : lv_has ls 6 [(0, .ref (ad 0)), (1, .int (x)), (2, .int (key)), (3, .int (v)), (4, .ref (qo))] := hl
      obtain ⟨⟨hW, hP⟩, hK, hE, hT, hZ, hX⟩ := hB
      refine lv_aload hx hb dL_add_0 (lv_at hl 4 rfl) ?_
      refine lv_iconst (v := nI 0) hx hb dL_add_2 (by decide) ?_
      refine lv_aload_n hx hb dL_add_3 rfl (lv_at hl 0 rfl) ?_
      refine lv_iload_n hx hb dL_add_4 rfl (lv_at hl 1 rfl) ?_
      refine lv_iload_n hx hb dL_add_5 rfl (lv_at hl 2 rfl) ?_
      refine lv_iload_n hx hb dL_add_6 rfl (lv_at hl 3 rfl) ?_
      refine k3_V hx hb hml hown hG cs_L_27 hxx (by decide) (pztV (hK.sub (tys' := [(cI, .int), (cC, .char)]) [0, 1] rfl) hE hT hZ (fun _ _ _ => rfl) rfl hW.rc hW) rfl hl.1 rfl (Nat.le_of_ble_eq_true rfl) dL_add_7 ⟨Nat.le_refl _, Nat.le_refl _⟩ (fun H1 q9 ce h1 h2 h3 h4 h5 => ?_)
      have h5 : s.vm.findClass "java/lang/IndexOutOfBoundsException" = some ce.cls := h5
      refine vx_catch hown [] ⟨0, 12, 15, 19⟩ [⟨0, 12, 19, 13⟩, ⟨0, 12, 23, 21⟩] (htb.trans rfl) (fun y9 hy9 => nomatch hy9) rfl (by decide) (hG _ cl_L_19) (hE.at _ (List.mem_of_getElem? (i := 3) rfl)) h3 h4 h5 ?_
      refine lv_astore (lv' := [(5, .ref (q9)), (0, .ref (ad 0)), (1, .int (x)), (2, .int (key)), (3, .int (v)), (4, .ref (qo))]) hx hb dL_add_15 hl (by decide) rfl (fun ls hl => ?_)
      refine lv_iconst (v := nI 1) hx hb dL_add_17 (by decide) ?_
      exact w_i (by rw [hk9]) ⟨by rw [hc2]; exact (hW.kept (fun i hi => h2 _ (hW.lt hi))).mono (by omega), f, oneK hP (h2 _ (va_lt hP (k := 0) rfl)), fun h => absurd h hc⟩ ⟨h1, fun q hq _ => h2 q hq, fun y9 hy9 => nomatch hy9⟩ hx hb hr hlocks dL_add_18
    · skip
      rw [hk9] at hxx
      refine m_startW (by decide) (Nat.le_of_ble_eq_true rfl) ?_
      intro p e s m below meth c hx hb hr hG hown hlocks hml htb hB ls hl
      have hl : lv_has ls 6 [(0, .ref (ad 0)), (1, .int (x)), (2, .int (key)), (3, .int (v)), (4, .ref (qo))] := hl
      obtain ⟨⟨hW, hP⟩, hK, hE, hT, hZ, hX⟩ := hB
      refine lv_aload hx hb dL_add_0 (lv_at hl 4 rfl) ?_
      refine lv_iconst (v := nI 0) hx hb dL_add_2 (by decide) ?_
      refine lv_aload_n hx hb dL_add_3 rfl (lv_at hl 0 rfl) ?_
      refine lv_iload_n hx hb dL_add_4 rfl (lv_at hl 1 rfl) ?_
      refine lv_iload_n hx hb dL_add_5 rfl (lv_at hl 2 rfl) ?_
      refine lv_iload_n hx hb dL_add_6 rfl (lv_at hl 3 rfl) ?_
      refine k3_V hx hb hml hown hG cs_L_27 hxx (by decide) (pztV (hK.sub (tys' := [(cI, .int), (cC, .char)]) [0, 1] rfl) hE hT hZ (fun _ _ _ => rfl) rfl hW.rc hW) rfl hl.1 rfl (Nat.le_of_ble_eq_true rfl) dL_add_7 ⟨Nat.le_refl _, Nat.le_refl _⟩ (fun H1 q9 ce h1 h2 h3 h4 h5 => ?_)
      have h5 : s.vm.findClass "java/lang/IllegalArgumentException" = some ce.cls := h5
      refine vx_catch hown [⟨0, 12, 15, 19⟩] ⟨0, 12, 19, 13⟩ [⟨0, 12, 23, 21⟩] (htb.trans rfl) (fun y9 hy9 => by
          rcases List.mem_cons.mp hy9 with rfl | hy9
          · exact Or.inr ⟨by decide, "java/lang/IndexOutOfBoundsException", hG _ cl_L_19, hX.1⟩
          nomatch hy9) rfl (by decide) (hG _ cl_L_13) (hE.at _ (List.mem_of_getElem? (i := 4) rfl)) h3 h4 h5 ?_
      refine lv_astore (lv' := [(5, .ref (q9)), (0, .ref (ad 0)), (1, .int (x)), (2, .int (key)), (3, .int (v)), (4, .ref (qo))]) hx hb dL_add_19 hl (by decide) rfl (fun ls hl => ?_)
      refine lv_iconst (v := nI 2) hx hb dL_add_21 (by decide) ?_
      exact w_i (by rw [hk9]) ⟨by rw [hc2]; exact (hW.kept (fun i hi => h2 _ (hW.lt hi))).mono (by omega), f, oneK hP (h2 _ (va_lt hP (k := 0) rfl)), fun h => absurd h hc⟩ ⟨h1, fun q hq _ => h2 q hq, fun y9 hy9 => nomatch hy9⟩ hx hb hr hlocks dL_add_22
    · skip
      rw [hk9] at hxx
      refine m_startW (by decide) (Nat.le_of_ble_eq_true rfl) ?_
      intro p e s m below meth c hx hb hr hG hown hlocks hml htb hB ls hl
      have hl : lv_has ls 6 [(0, .ref (ad 0)), (1, .int (x)), (2, .int (key)), (3, .int (v)), (4, .ref (qo))] := hl
      obtain ⟨⟨hW, hP⟩, hK, hE, hT, hZ, hX⟩ := hB
      refine lv_aload hx hb dL_add_0 (lv_at hl 4 rfl) ?_
      refine lv_iconst (v := nI 0) hx hb dL_add_2 (by decide) ?_
      refine lv_aload_n hx hb dL_add_3 rfl (lv_at hl 0 rfl) ?_
      refine lv_iload_n hx hb dL_add_4 rfl (lv_at hl 1 rfl) ?_
      refine lv_iload_n hx hb dL_add_5 rfl (lv_at hl 2 rfl) ?_
      refine lv_iload_n hx hb dL_add_6 rfl (lv_at hl 3 rfl) ?_
      refine k3_V hx hb hml hown hG cs_L_27 hxx (by decide) (pztV (hK.sub (tys' := [(cI, .int), (cC, .char)]) [0, 1] rfl) hE hT hZ (fun _ _ _ => rfl) rfl hW.rc hW) rfl hl.1 rfl (Nat.le_of_ble_eq_true rfl) dL_add_7 ⟨Nat.le_refl _, Nat.le_refl _⟩ (fun H1 q9 ce h1 h2 h3 h4 h5 => ?_)
      have h5 : s.vm.findClass "java/lang/IllegalStateException" = some ce.cls := h5
      refine vx_catch hown [⟨0, 12, 15, 19⟩, ⟨0, 12, 19, 13⟩] ⟨0, 12, 23, 21⟩ [] (htb.trans rfl) (fun y9 hy9 => by
          rcases List.mem_cons.mp hy9 with rfl | hy9
          · exact Or.inr ⟨by decide, "java/lang/IndexOutOfBoundsException", hG _ cl_L_19, hX.2.1⟩
          rcases List.mem_cons.mp hy9 with rfl | hy9
          · exact Or.inr ⟨by decide, "java/lang/IllegalArgumentException", hG _ cl_L_13, hX.2.2.1⟩
          nomatch hy9) rfl (by decide) (hG _ cl_L_21) (hE.at _ (List.mem_of_getElem? (i := 5) rfl)) h3 h4 h5 ?_
      refine lv_astore (lv' := [(5, .ref (q9)), (0, .ref (ad 0)), (1, .int (x)), (2, .int (key)), (3, .int (v)), (4, .ref (qo))]) hx hb dL_add_23 hl (by decide) rfl (fun ls hl => ?_)
      refine lv_iconst (v := nI 3) hx hb dL_add_25 (by decide) ?_
      exact w_i (by rw [hk9]) ⟨by rw [hc2]; exact (hW.kept (fun i hi => h2 _ (hW.lt hi))).mono (by omega), f, oneK hP (h2 _ (va_lt hP (k := 0) rfl)), fun h => absurd h hc⟩ ⟨h1, fun q hq _ => h2 q hq, fun y9 hy9 => nomatch hy9⟩ hx hb hr hlocks dL_add_26
theorem cd_halve (S : St) (x key : Int32) : cdP 2 S (sp_halve S x key) := by
  unfold sp_halve 
  repeat' split
  all_goals first | exact Or.inl rfl | exact Or.inr ⟨Nat.le_of_ble_eq_true rfl, rfl⟩
set_option maxHeartbeats 4000000 in
set_option maxRecDepth 100000 in
theorem wr_halve (l : Launch) (hst : l.stackTraces = false) (D : va_G) (cI cC cL : ClassId) (ad ta : Nat → Nat) (z : Nat) (S : St) (N : Nat) (qo : Nat) (f : Nat → Int64) (x key : Int32) (hI : Inv S) (hN : N + 2000 < 2 ^ 31) (hap : Ap ad 36) (hqo : ¬ Ao ad 36 qo) : Met l yL_halve (wsW_ yL_halve cL_halve 5 (some .int) [(0, 17, 20, 19), (0, 17, 24, 13)]) rmW (va_Pc [.ref (ad 0), .int (x), .int (key), .ref (qo)] (pzw D [(cI, .int), (cC, .char), (cL, .long)] ta z (fun H => Wc D cI cC ad S N H ∧ va_P D vwCl (ouW cL qo f) H))) (Wq (some (.int (nI (sp_halve S x key).1))) (fun H => Wc D cI cC ad (sp_halve S x key).2.2 (N + 2000) H ∧ ∃ f9, va_P D vwCl (ouW cL qo f9) H ∧ ((sp_halve S x key).1 = 0 → f9 0 = zl (sp_halve S x key).2.1)) (fun q => Ao ad 36 q ∨ q = qo)) 1 6 (fun q => Ao ad 36 q ∨ q = qo) := by
  by_cases hc : (sp_halve S x key).1 = 0
  · have hok := ok_halve l D cI cC ad S N x key hI hN hap hc
    refine m_startW (by decide) (Nat.le_of_ble_eq_true rfl) ?_
    intro p e s m below meth c hx hb hr hG hown hlocks hml htb hB ls hl
    have hl : lv_has ls 5 [(0, .ref (ad 0)), (1, .int (x)), (2, .int (key)), (3, .ref (qo))] := hl
    obtain ⟨⟨hW, hP⟩, hK, hE, hT, hZ, hX⟩ := hB
    have hS : va_S (fun q => Ao ad 36 q ∨ q = qo) s.heap s.heap [] := va_S.rf
    refine W.widen (k := 1) (n := 6) (by decide) (by decide) ?_
    refine lv_aload_n hx hb dL_halve_0 rfl (lv_at hl 3 rfl) ?_
    refine lv_iconst (v := nI 0) hx hb dL_halve_1 (by decide) ?_
    refine lv_aload_n hx hb dL_halve_2 rfl (lv_at hl 0 rfl) ?_
    refine lv_iload_n hx hb dL_halve_3 rfl (lv_at hl 1 rfl) ?_
    refine lv_iload_n hx hb dL_halve_4 rfl (lv_at hl 2 rfl) ?_
    refine k2_V hx hb hml hown hG cs_L_30 hok (by decide) (pzV (hK.sub (tys' := [(cI, .int), (cC, .char)]) [0, 1] rfl) rfl hW.rc hW) rfl hl.1 rfl (Nat.le_of_ble_eq_true rfl) dL_halve_5 ⟨Nat.le_refl _, Nat.le_refl _⟩ rfl hS (fun q h => Or.inl h) (fun H locs hW hz hk hS => ?_)
    have hP := oneK hP (hk qo (va_lt hP (k := 0) rfl) hqo)
    refine x_ifb_eq (tgt := 15) hx hb dL_halve_8 (by decide) (fun c1 => ?_) (fun c1 => ?_)
    · refine lv_lconst (v := lN (0)) hx hb dL_halve_15 (by decide) ?_
      refine x_last0 hx hb hK hP hS (Or.inr rfl) 2 rfl dL_halve_16 (fun H locs f9 hf hP ho hS => ?_)
      have hW := hW.kept (fun i hi => ho _ (fun e9 => hqo ⟨i, hi, e9.symm⟩))
      refine lv_goto (tgt := 28) hx hb dL_halve_17 (by decide) ?_
      refine lv_iconst (v := nI 0) hx hb dL_halve_28 (by decide) ?_
      exact w_i (by rw [hc]) ⟨hW, f9, hP, fun _ => by rw [hf, c1]; rfl⟩ hS hx hb hr hlocks dL_halve_29
    · refine lv_lconst (v := lN (1)) hx hb dL_halve_11 (by decide) ?_
      refine lv_goto (tgt := 16) hx hb dL_halve_12 (by decide) ?_
      refine x_last0 hx hb hK hP hS (Or.inr rfl) 2 rfl dL_halve_16 (fun H locs f9 hf hP ho hS => ?_)
      have hW := hW.kept (fun i hi => ho _ (fun e9 => hqo ⟨i, hi, e9.symm⟩))
      refine lv_goto (tgt := 28) hx hb dL_halve_17 (by decide) ?_
      refine lv_iconst (v := nI 0) hx hb dL_halve_28 (by decide) ?_
      exact w_i (by rw [hc]) ⟨hW, f9, hP, fun _ => by rw [hf, c1]; rfl⟩ hS hx hb hr hlocks dL_halve_29
  · obtain ⟨hc1, hc2⟩ := (cd_halve S x key).resolve_left hc
    have hxx := xx_halve l hst D cI cC ad ta z S N x key hI hc
    rcases (show (sp_halve S x key).1 = 1 ∨ (sp_halve S x key).1 = 2 from by omega) with hk9 | hk9
    · skip
      rw [hk9] at hxx
      refine m_startW (by decide) (Nat.le_of_ble_eq_true rfl) ?_
      intro p e s m below meth c hx hb hr hG hown hlocks hml htb hB ls hl
      have hl : lv_has ls 5 [(0, .ref (ad 0)), (1, .int (x)), (2, .int (key)), (3, .ref (qo))] := hl
      obtain ⟨⟨hW, hP⟩, hK, hE, hT, hZ, hX⟩ := hB
      refine lv_aload_n hx hb dL_halve_0 rfl (lv_at hl 3 rfl) ?_
      refine lv_iconst (v := nI 0) hx hb dL_halve_1 (by decide) ?_
      refine lv_aload_n hx hb dL_halve_2 rfl (lv_at hl 0 rfl) ?_
      refine lv_iload_n hx hb dL_halve_3 rfl (lv_at hl 1 rfl) ?_
      refine lv_iload_n hx hb dL_halve_4 rfl (lv_at hl 2 rfl) ?_
      refine k3_V hx hb hml hown hG cs_L_30 hxx (by decide) (pztV (hK.sub (tys' := [(cI, .int), (cC, .char)]) [0, 1] rfl) hE hT hZ (fun _ _ _ => rfl) rfl hW.rc hW) rfl hl.1 rfl (Nat.le_of_ble_eq_true rfl) dL_halve_5 ⟨Nat.le_refl _, Nat.le_refl _⟩ (fun H1 q9 ce h1 h2 h3 h4 h5 => ?_)
      have h5 : s.vm.findClass "java/lang/IndexOutOfBoundsException" = some ce.cls := h5
      refine vx_catch hown [] ⟨0, 17, 20, 19⟩ [⟨0, 17, 24, 13⟩] (htb.trans rfl) (fun y9 hy9 => nomatch hy9) rfl (by decide) (hG _ cl_L_19) (hE.at _ (List.mem_of_getElem? (i := 3) rfl)) h3 h4 h5 ?_
      refine lv_astore (lv' := [(4, .ref (q9)), (0, .ref (ad 0)), (1, .int (x)), (2, .int (key)), (3, .ref (qo))]) hx hb dL_halve_20 hl (by decide) rfl (fun ls hl => ?_)
      refine lv_iconst (v := nI 1) hx hb dL_halve_22 (by decide) ?_
      exact w_i (by rw [hk9]) ⟨by rw [hc2]; exact (hW.kept (fun i hi => h2 _ (hW.lt hi))).mono (by omega), f, oneK hP (h2 _ (va_lt hP (k := 0) rfl)), fun h => absurd h hc⟩ ⟨h1, fun q hq _ => h2 q hq, fun y9 hy9 => nomatch hy9⟩ hx hb hr hlocks dL_halve_23
    · skip
      rw [hk9] at hxx
      refine m_startW (by decide) (Nat.le_of_ble_eq_true rfl) ?_
      intro p e s m below meth c hx hb hr hG hown hlocks hml htb hB ls hl
      have hl : lv_has ls 5 [(0, .ref (ad 0)), (1, .int (x)), (2, .int (key)), (3, .ref (qo))] := hl
      obtain ⟨⟨hW, hP⟩, hK, hE, hT, hZ, hX⟩ := hB
      refine lv_aload_n hx hb dL_halve_0 rfl (lv_at hl 3 rfl) ?_
      refine lv_iconst (v := nI 0) hx hb dL_halve_1 (by decide) ?_
      refine lv_aload_n hx hb dL_halve_2 rfl (lv_at hl 0 rfl) ?_
      refine lv_iload_n hx hb dL_halve_3 rfl (lv_at hl 1 rfl) ?_
      refine lv_iload_n hx hb dL_halve_4 rfl (lv_at hl 2 rfl) ?_
      refine k3_V hx hb hml hown hG cs_L_30 hxx (by decide) (pztV (hK.sub (tys' := [(cI, .int), (cC, .char)]) [0, 1] rfl) hE hT hZ (fun _ _ _ => rfl) rfl hW.rc hW) rfl hl.1 rfl (Nat.le_of_ble_eq_true rfl) dL_halve_5 ⟨Nat.le_refl _, Nat.le_refl _⟩ (fun H1 q9 ce h1 h2 h3 h4 h5 => ?_)
      have h5 : s.vm.findClass "java/lang/IllegalArgumentException" = some ce.cls := h5
      refine vx_catch hown [⟨0, 17, 20, 19⟩] ⟨0, 17, 24, 13⟩ [] (htb.trans rfl) (fun y9 hy9 => by
          rcases List.mem_cons.mp hy9 with rfl | hy9
          · exact Or.inr ⟨by decide, "java/lang/IndexOutOfBoundsException", hG _ cl_L_19, hX.1⟩
          nomatch hy9) rfl (by decide) (hG _ cl_L_13) (hE.at _ (List.mem_of_getElem? (i := 4) rfl)) h3 h4 h5 ?_
      refine lv_astore (lv' := [(4, .ref (q9)), (0, .ref (ad 0)), (1, .int (x)), (2, .int (key)), (3, .ref (qo))]) hx hb dL_halve_24 hl (by decide) rfl (fun ls hl => ?_)
      refine lv_iconst (v := nI 2) hx hb dL_halve_26 (by decide) ?_
      exact w_i (by rw [hk9]) ⟨by rw [hc2]; exact (hW.kept (fun i hi => h2 _ (hW.lt hi))).mono (by omega), f, oneK hP (h2 _ (va_lt hP (k := 0) rfl)), fun h => absurd h hc⟩ ⟨h1, fun q hq _ => h2 q hq, fun y9 hy9 => nomatch hy9⟩ hx hb hr hlocks dL_halve_27
theorem cd_addToAll (S : St) (x v : Int32) : cdP 2 S (sp_addToAll S x v) := by
  unfold sp_addToAll 
  repeat' split
  all_goals first | exact Or.inl rfl | exact Or.inr ⟨Nat.le_of_ble_eq_true rfl, rfl⟩
set_option maxHeartbeats 4000000 in
set_option maxRecDepth 100000 in
theorem wr_addToAll (l : Launch) (hst : l.stackTraces = false) (D : va_G) (cI cC cL : ClassId) (ad ta : Nat → Nat) (z : Nat) (S : St) (N : Nat) (qo : Nat) (f : Nat → Int64) (x v : Int32) (hI : Inv S) (hN : N + 2000 < 2 ^ 31) (hap : Ap ad 36) (hqo : ¬ Ao ad 36 qo) : Met l yL_addToAll (wsW_ yL_addToAll cL_addToAll 5 (some .int) [(0, 10, 13, 19), (0, 10, 17, 13)]) rmW (va_Pc [.ref (ad 0), .int (x), .int (v), .ref (qo)] (pzw D [(cI, .int), (cC, .char), (cL, .long)] ta z (fun H => Wc D cI cC ad S N H ∧ va_P D vwCl (ouW cL qo f) H))) (Wq (some (.int (nI (sp_addToAll S x v).1))) (fun H => Wc D cI cC ad (sp_addToAll S x v).2.2 (N + 2000) H ∧ ∃ f9, va_P D vwCl (ouW cL qo f9) H ∧ ((sp_addToAll S x v).1 = 0 → f9 0 = Int32.toInt64 (sp_addToAll S x v).2.1)) (fun q => Ao ad 36 q ∨ q = qo)) 1 6 (fun q => Ao ad 36 q ∨ q = qo) := by
  by_cases hc : (sp_addToAll S x v).1 = 0
  · have hok := ok_addToAll l D cI cC ad S N x v hI hN hap hc
    refine m_startW (by decide) (Nat.le_of_ble_eq_true rfl) ?_
    intro p e s m below meth c hx hb hr hG hown hlocks hml htb hB ls hl
    have hl : lv_has ls 5 [(0, .ref (ad 0)), (1, .int (x)), (2, .int (v)), (3, .ref (qo))] := hl
    obtain ⟨⟨hW, hP⟩, hK, hE, hT, hZ, hX⟩ := hB
    have hS : va_S (fun q => Ao ad 36 q ∨ q = qo) s.heap s.heap [] := va_S.rf
    refine W.widen (k := 1) (n := 6) (by decide) (by decide) ?_
    refine lv_aload_n hx hb dL_addToAll_0 rfl (lv_at hl 3 rfl) ?_
    refine lv_iconst (v := nI 0) hx hb dL_addToAll_1 (by decide) ?_
    refine lv_aload_n hx hb dL_addToAll_2 rfl (lv_at hl 0 rfl) ?_
    refine lv_iload_n hx hb dL_addToAll_3 rfl (lv_at hl 1 rfl) ?_
    refine lv_iload_n hx hb dL_addToAll_4 rfl (lv_at hl 2 rfl) ?_
    refine k2_V hx hb hml hown hG cs_L_34 hok (by decide) (pzV (hK.sub (tys' := [(cI, .int), (cC, .char)]) [0, 1] rfl) rfl hW.rc hW) rfl hl.1 rfl (Nat.le_of_ble_eq_true rfl) dL_addToAll_5 ⟨Nat.le_refl _, Nat.le_refl _⟩ rfl hS (fun q h => Or.inl h) (fun H locs hW hz hk hS => ?_)
    have hP := oneK hP (hk qo (va_lt hP (k := 0) rfl) hqo)
    refine lv_i2l (v := Int32.toInt64 ((sp_addToAll S x v).2.1)) hx hb dL_addToAll_8 rfl ?_
    refine x_last0 hx hb hK hP hS (Or.inr rfl) 2 rfl dL_addToAll_9 (fun H locs f9 hf hP ho hS => ?_)
    have hW := hW.kept (fun i hi => ho _ (fun e9 => hqo ⟨i, hi, e9.symm⟩))
    refine lv_goto (tgt := 21) hx hb dL_addToAll_10 (by decide) ?_
    refine lv_iconst (v := nI 0) hx hb dL_addToAll_21 (by decide) ?_
    exact w_i (by rw [hc]) ⟨hW, f9, hP, fun _ => hf⟩ hS hx hb hr hlocks dL_addToAll_22
  · obtain ⟨hc1, hc2⟩ := (cd_addToAll S x v).resolve_left hc
    have hxx := xx_addToAll l hst D cI cC ad ta z S N x v hI hc
    rcases (show (sp_addToAll S x v).1 = 1 ∨ (sp_addToAll S x v).1 = 2 from by omega) with hk9 | hk9
    · skip
      rw [hk9] at hxx
      refine m_startW (by decide) (Nat.le_of_ble_eq_true rfl) ?_
      intro p e s m below meth c hx hb hr hG hown hlocks hml htb hB ls hl
      have hl : lv_has ls 5 [(0, .ref (ad 0)), (1, .int (x)), (2, .int (v)), (3, .ref (qo))] := hl
      obtain ⟨⟨hW, hP⟩, hK, hE, hT, hZ, hX⟩ := hB
      refine lv_aload_n hx hb dL_addToAll_0 rfl (lv_at hl 3 rfl) ?_
      refine lv_iconst (v := nI 0) hx hb dL_addToAll_1 (by decide) ?_
      refine lv_aload_n hx hb dL_addToAll_2 rfl (lv_at hl 0 rfl) ?_
      refine lv_iload_n hx hb dL_addToAll_3 rfl (lv_at hl 1 rfl) ?_
      refine lv_iload_n hx hb dL_addToAll_4 rfl (lv_at hl 2 rfl) ?_
      refine k3_V hx hb hml hown hG cs_L_34 hxx (by decide) (pztV (hK.sub (tys' := [(cI, .int), (cC, .char)]) [0, 1] rfl) hE hT hZ (fun _ _ _ => rfl) rfl hW.rc hW) rfl hl.1 rfl (Nat.le_of_ble_eq_true rfl) dL_addToAll_5 ⟨Nat.le_refl _, Nat.le_refl _⟩ (fun H1 q9 ce h1 h2 h3 h4 h5 => ?_)
      have h5 : s.vm.findClass "java/lang/IndexOutOfBoundsException" = some ce.cls := h5
      refine vx_catch hown [] ⟨0, 10, 13, 19⟩ [⟨0, 10, 17, 13⟩] (htb.trans rfl) (fun y9 hy9 => nomatch hy9) rfl (by decide) (hG _ cl_L_19) (hE.at _ (List.mem_of_getElem? (i := 3) rfl)) h3 h4 h5 ?_
      refine lv_astore (lv' := [(4, .ref (q9)), (0, .ref (ad 0)), (1, .int (x)), (2, .int (v)), (3, .ref (qo))]) hx hb dL_addToAll_13 hl (by decide) rfl (fun ls hl => ?_)
      refine lv_iconst (v := nI 1) hx hb dL_addToAll_15 (by decide) ?_
      exact w_i (by rw [hk9]) ⟨by rw [hc2]; exact (hW.kept (fun i hi => h2 _ (hW.lt hi))).mono (by omega), f, oneK hP (h2 _ (va_lt hP (k := 0) rfl)), fun h => absurd h hc⟩ ⟨h1, fun q hq _ => h2 q hq, fun y9 hy9 => nomatch hy9⟩ hx hb hr hlocks dL_addToAll_16
    · skip
      rw [hk9] at hxx
      refine m_startW (by decide) (Nat.le_of_ble_eq_true rfl) ?_
      intro p e s m below meth c hx hb hr hG hown hlocks hml htb hB ls hl
      have hl : lv_has ls 5 [(0, .ref (ad 0)), (1, .int (x)), (2, .int (v)), (3, .ref (qo))] := hl
      obtain ⟨⟨hW, hP⟩, hK, hE, hT, hZ, hX⟩ := hB
      refine lv_aload_n hx hb dL_addToAll_0 rfl (lv_at hl 3 rfl) ?_
      refine lv_iconst (v := nI 0) hx hb dL_addToAll_1 (by decide) ?_
      refine lv_aload_n hx hb dL_addToAll_2 rfl (lv_at hl 0 rfl) ?_
      refine lv_iload_n hx hb dL_addToAll_3 rfl (lv_at hl 1 rfl) ?_
      refine lv_iload_n hx hb dL_addToAll_4 rfl (lv_at hl 2 rfl) ?_
      refine k3_V hx hb hml hown hG cs_L_34 hxx (by decide) (pztV (hK.sub (tys' := [(cI, .int), (cC, .char)]) [0, 1] rfl) hE hT hZ (fun _ _ _ => rfl) rfl hW.rc hW) rfl hl.1 rfl (Nat.le_of_ble_eq_true rfl) dL_addToAll_5 ⟨Nat.le_refl _, Nat.le_refl _⟩ (fun H1 q9 ce h1 h2 h3 h4 h5 => ?_)
      have h5 : s.vm.findClass "java/lang/IllegalArgumentException" = some ce.cls := h5
      refine vx_catch hown [⟨0, 10, 13, 19⟩] ⟨0, 10, 17, 13⟩ [] (htb.trans rfl) (fun y9 hy9 => by
          rcases List.mem_cons.mp hy9 with rfl | hy9
          · exact Or.inr ⟨by decide, "java/lang/IndexOutOfBoundsException", hG _ cl_L_19, hX.1⟩
          nomatch hy9) rfl (by decide) (hG _ cl_L_13) (hE.at _ (List.mem_of_getElem? (i := 4) rfl)) h3 h4 h5 ?_
      refine lv_astore (lv' := [(4, .ref (q9)), (0, .ref (ad 0)), (1, .int (x)), (2, .int (v)), (3, .ref (qo))]) hx hb dL_addToAll_17 hl (by decide) rfl (fun ls hl => ?_)
      refine lv_iconst (v := nI 2) hx hb dL_addToAll_19 (by decide) ?_
      exact w_i (by rw [hk9]) ⟨by rw [hc2]; exact (hW.kept (fun i hi => h2 _ (hW.lt hi))).mono (by omega), f, oneK hP (h2 _ (va_lt hP (k := 0) rfl)), fun h => absurd h hc⟩ ⟨h1, fun q hq _ => h2 q hq, fun y9 hy9 => nomatch hy9⟩ hx hb hr hlocks dL_addToAll_20
theorem cd_replace (S : St) (x key v : Int32) : cdP 2 S (sp_replace S x key v) := by
  unfold sp_replace 
  repeat' split
  all_goals first | exact Or.inl rfl | exact Or.inr ⟨Nat.le_of_ble_eq_true rfl, rfl⟩
set_option maxHeartbeats 4000000 in
set_option maxRecDepth 100000 in
theorem wr_replace (l : Launch) (hst : l.stackTraces = false) (D : va_G) (cI cC cL : ClassId) (ad ta : Nat → Nat) (z : Nat) (S : St) (N : Nat) (qo : Nat) (f : Nat → Int64) (x key v : Int32) (hI : Inv S) (hN : N + 2000 < 2 ^ 31) (hap : Ap ad 36) (hqo : ¬ Ao ad 36 qo) : Met l yL_replace (wsW_ yL_replace cL_replace 6 (some .int) [(0, 19, 22, 19), (0, 19, 26, 13)]) rmW (va_Pc [.ref (ad 0), .int (x), .int (key), .int (v), .ref (qo)] (pzw D [(cI, .int), (cC, .char), (cL, .long)] ta z (fun H => Wc D cI cC ad S N H ∧ va_P D vwCl (ouW cL qo f) H))) (Wq (some (.int (nI (sp_replace S x key v).1))) (fun H => Wc D cI cC ad (sp_replace S x key v).2.2 (N + 2000) H ∧ ∃ f9, va_P D vwCl (ouW cL qo f9) H ∧ ((sp_replace S x key v).1 = 0 → f9 0 = zl (sp_replace S x key v).2.1)) (fun q => Ao ad 36 q ∨ q = qo)) 1 6 (fun q => Ao ad 36 q ∨ q = qo) := by
  by_cases hc : (sp_replace S x key v).1 = 0
  · have hok := ok_replace l D cI cC ad S N x key v hI hN hap hc
    refine m_startW (by decide) (Nat.le_of_ble_eq_true rfl) ?_
    intro p e s m below meth c hx hb hr hG hown hlocks hml htb hB ls hl
    have hl : lv_has ls 6 [(0, .ref (ad 0)), (1, .int (x)), (2, .int (key)), (3, .int (v)), (4, .ref (qo))] := hl
    obtain ⟨⟨hW, hP⟩, hK, hE, hT, hZ, hX⟩ := hB
    have hS : va_S (fun q => Ao ad 36 q ∨ q = qo) s.heap s.heap [] := va_S.rf
    refine W.widen (k := 1) (n := 6) (by decide) (by decide) ?_
    refine lv_aload hx hb dL_replace_0 (lv_at hl 4 rfl) ?_
    refine lv_iconst (v := nI 0) hx hb dL_replace_2 (by decide) ?_
    refine lv_aload_n hx hb dL_replace_3 rfl (lv_at hl 0 rfl) ?_
    refine lv_iload_n hx hb dL_replace_4 rfl (lv_at hl 1 rfl) ?_
    refine lv_iload_n hx hb dL_replace_5 rfl (lv_at hl 2 rfl) ?_
    refine lv_iload_n hx hb dL_replace_6 rfl (lv_at hl 3 rfl) ?_
    refine k2_V hx hb hml hown hG cs_L_38 hok (by decide) (pzV (hK.sub (tys' := [(cI, .int), (cC, .char)]) [0, 1] rfl) rfl hW.rc hW) rfl hl.1 rfl (Nat.le_of_ble_eq_true rfl) dL_replace_7 ⟨Nat.le_refl _, Nat.le_refl _⟩ rfl hS (fun q h => Or.inl h) (fun H locs hW hz hk hS => ?_)
    have hP := oneK hP (hk qo (va_lt hP (k := 0) rfl) hqo)
    refine x_ifb_eq (tgt := 17) hx hb dL_replace_10 (by decide) (fun c1 => ?_) (fun c1 => ?_)
    · refine lv_lconst (v := lN (0)) hx hb dL_replace_17 (by decide) ?_
      refine x_last0 hx hb hK hP hS (Or.inr rfl) 2 rfl dL_replace_18 (fun H locs f9 hf hP ho hS => ?_)
      have hW := hW.kept (fun i hi => ho _ (fun e9 => hqo ⟨i, hi, e9.symm⟩))
      refine lv_goto (tgt := 30) hx hb dL_replace_19 (by decide) ?_
      refine lv_iconst (v := nI 0) hx hb dL_replace_30 (by decide) ?_
      exact w_i (by rw [hc]) ⟨hW, f9, hP, fun _ => by rw [hf, c1]; rfl⟩ hS hx hb hr hlocks dL_replace_31
    · refine lv_lconst (v := lN (1)) hx hb dL_replace_13 (by decide) ?_
      refine lv_goto (tgt := 18) hx hb dL_replace_14 (by decide) ?_
      refine x_last0 hx hb hK hP hS (Or.inr rfl) 2 rfl dL_replace_18 (fun H locs f9 hf hP ho hS => ?_)
      have hW := hW.kept (fun i hi => ho _ (fun e9 => hqo ⟨i, hi, e9.symm⟩))
      refine lv_goto (tgt := 30) hx hb dL_replace_19 (by decide) ?_
      refine lv_iconst (v := nI 0) hx hb dL_replace_30 (by decide) ?_
      exact w_i (by rw [hc]) ⟨hW, f9, hP, fun _ => by rw [hf, c1]; rfl⟩ hS hx hb hr hlocks dL_replace_31
  · obtain ⟨hc1, hc2⟩ := (cd_replace S x key v).resolve_left hc
    have hxx := xx_replace l hst D cI cC ad ta z S N x key v hI hc
    rcases (show (sp_replace S x key v).1 = 1 ∨ (sp_replace S x key v).1 = 2 from by omega) with hk9 | hk9
    · skip
      rw [hk9] at hxx
      refine m_startW (by decide) (Nat.le_of_ble_eq_true rfl) ?_
      intro p e s m below meth c hx hb hr hG hown hlocks hml htb hB ls hl
      have hl : lv_has ls 6 [(0, .ref (ad 0)), (1, .int (x)), (2, .int (key)), (3, .int (v)), (4, .ref (qo))] := hl
      obtain ⟨⟨hW, hP⟩, hK, hE, hT, hZ, hX⟩ := hB
      refine lv_aload hx hb dL_replace_0 (lv_at hl 4 rfl) ?_
      refine lv_iconst (v := nI 0) hx hb dL_replace_2 (by decide) ?_
      refine lv_aload_n hx hb dL_replace_3 rfl (lv_at hl 0 rfl) ?_
      refine lv_iload_n hx hb dL_replace_4 rfl (lv_at hl 1 rfl) ?_
      refine lv_iload_n hx hb dL_replace_5 rfl (lv_at hl 2 rfl) ?_
      refine lv_iload_n hx hb dL_replace_6 rfl (lv_at hl 3 rfl) ?_
      refine k3_V hx hb hml hown hG cs_L_38 hxx (by decide) (pztV (hK.sub (tys' := [(cI, .int), (cC, .char)]) [0, 1] rfl) hE hT hZ (fun _ _ _ => rfl) rfl hW.rc hW) rfl hl.1 rfl (Nat.le_of_ble_eq_true rfl) dL_replace_7 ⟨Nat.le_refl _, Nat.le_refl _⟩ (fun H1 q9 ce h1 h2 h3 h4 h5 => ?_)
      have h5 : s.vm.findClass "java/lang/IndexOutOfBoundsException" = some ce.cls := h5
      refine vx_catch hown [] ⟨0, 19, 22, 19⟩ [⟨0, 19, 26, 13⟩] (htb.trans rfl) (fun y9 hy9 => nomatch hy9) rfl (by decide) (hG _ cl_L_19) (hE.at _ (List.mem_of_getElem? (i := 3) rfl)) h3 h4 h5 ?_
      refine lv_astore (lv' := [(5, .ref (q9)), (0, .ref (ad 0)), (1, .int (x)), (2, .int (key)), (3, .int (v)), (4, .ref (qo))]) hx hb dL_replace_22 hl (by decide) rfl (fun ls hl => ?_)
      refine lv_iconst (v := nI 1) hx hb dL_replace_24 (by decide) ?_
      exact w_i (by rw [hk9]) ⟨by rw [hc2]; exact (hW.kept (fun i hi => h2 _ (hW.lt hi))).mono (by omega), f, oneK hP (h2 _ (va_lt hP (k := 0) rfl)), fun h => absurd h hc⟩ ⟨h1, fun q hq _ => h2 q hq, fun y9 hy9 => nomatch hy9⟩ hx hb hr hlocks dL_replace_25
    · skip
      rw [hk9] at hxx
      refine m_startW (by decide) (Nat.le_of_ble_eq_true rfl) ?_
      intro p e s m below meth c hx hb hr hG hown hlocks hml htb hB ls hl
      have hl : lv_has ls 6 [(0, .ref (ad 0)), (1, .int (x)), (2, .int (key)), (3, .int (v)), (4, .ref (qo))] := hl
      obtain ⟨⟨hW, hP⟩, hK, hE, hT, hZ, hX⟩ := hB
      refine lv_aload hx hb dL_replace_0 (lv_at hl 4 rfl) ?_
      refine lv_iconst (v := nI 0) hx hb dL_replace_2 (by decide) ?_
      refine lv_aload_n hx hb dL_replace_3 rfl (lv_at hl 0 rfl) ?_
      refine lv_iload_n hx hb dL_replace_4 rfl (lv_at hl 1 rfl) ?_
      refine lv_iload_n hx hb dL_replace_5 rfl (lv_at hl 2 rfl) ?_
      refine lv_iload_n hx hb dL_replace_6 rfl (lv_at hl 3 rfl) ?_
      refine k3_V hx hb hml hown hG cs_L_38 hxx (by decide) (pztV (hK.sub (tys' := [(cI, .int), (cC, .char)]) [0, 1] rfl) hE hT hZ (fun _ _ _ => rfl) rfl hW.rc hW) rfl hl.1 rfl (Nat.le_of_ble_eq_true rfl) dL_replace_7 ⟨Nat.le_refl _, Nat.le_refl _⟩ (fun H1 q9 ce h1 h2 h3 h4 h5 => ?_)
      have h5 : s.vm.findClass "java/lang/IllegalArgumentException" = some ce.cls := h5
      refine vx_catch hown [⟨0, 19, 22, 19⟩] ⟨0, 19, 26, 13⟩ [] (htb.trans rfl) (fun y9 hy9 => by
          rcases List.mem_cons.mp hy9 with rfl | hy9
          · exact Or.inr ⟨by decide, "java/lang/IndexOutOfBoundsException", hG _ cl_L_19, hX.1⟩
          nomatch hy9) rfl (by decide) (hG _ cl_L_13) (hE.at _ (List.mem_of_getElem? (i := 4) rfl)) h3 h4 h5 ?_
      refine lv_astore (lv' := [(5, .ref (q9)), (0, .ref (ad 0)), (1, .int (x)), (2, .int (key)), (3, .int (v)), (4, .ref (qo))]) hx hb dL_replace_26 hl (by decide) rfl (fun ls hl => ?_)
      refine lv_iconst (v := nI 2) hx hb dL_replace_28 (by decide) ?_
      exact w_i (by rw [hk9]) ⟨by rw [hc2]; exact (hW.kept (fun i hi => h2 _ (hW.lt hi))).mono (by omega), f, oneK hP (h2 _ (va_lt hP (k := 0) rfl)), fun h => absurd h hc⟩ ⟨h1, fun q hq _ => h2 q hq, fun y9 hy9 => nomatch hy9⟩ hx hb hr hlocks dL_replace_29
theorem cd_remove (S : St) (x key : Int32) : cdP 3 S (sp_remove S x key) := by
  unfold sp_remove 
  repeat' split
  all_goals first | exact Or.inl rfl | exact Or.inr ⟨Nat.le_of_ble_eq_true rfl, rfl⟩
set_option maxHeartbeats 4000000 in
set_option maxRecDepth 100000 in
theorem wr_remove (l : Launch) (hst : l.stackTraces = false) (D : va_G) (cI cC cL : ClassId) (ad ta : Nat → Nat) (z : Nat) (S : St) (N : Nat) (qo : Nat) (f : Nat → Int64) (x key : Int32) (hI : Inv S) (hN : N + 2000 < 2 ^ 31) (hap : Ap ad 36) (hqo : ¬ Ao ad 36 qo) : Met l yL_remove (wsW_ yL_remove cL_remove 5 (some .int) [(0, 10, 13, 19), (0, 10, 17, 13), (0, 10, 21, 44)]) rmW (va_Pc [.ref (ad 0), .int (x), .int (key), .ref (qo)] (pzw D [(cI, .int), (cC, .char), (cL, .long)] ta z (fun H => Wc D cI cC ad S N H ∧ va_P D vwCl (ouW cL qo f) H))) (Wq (some (.int (nI (sp_remove S x key).1))) (fun H => Wc D cI cC ad (sp_remove S x key).2.2 (N + 2000) H ∧ ∃ f9, va_P D vwCl (ouW cL qo f9) H ∧ ((sp_remove S x key).1 = 0 → f9 0 = Int32.toInt64 (sp_remove S x key).2.1)) (fun q => Ao ad 36 q ∨ q = qo)) 1 6 (fun q => Ao ad 36 q ∨ q = qo) := by
  by_cases hc : (sp_remove S x key).1 = 0
  · have hok := ok_remove l D cI cC ad S N x key hI hN hap hc
    refine m_startW (by decide) (Nat.le_of_ble_eq_true rfl) ?_
    intro p e s m below meth c hx hb hr hG hown hlocks hml htb hB ls hl
    have hl : lv_has ls 5 [(0, .ref (ad 0)), (1, .int (x)), (2, .int (key)), (3, .ref (qo))] := hl
    obtain ⟨⟨hW, hP⟩, hK, hE, hT, hZ, hX⟩ := hB
    have hS : va_S (fun q => Ao ad 36 q ∨ q = qo) s.heap s.heap [] := va_S.rf
    refine W.widen (k := 1) (n := 6) (by decide) (by decide) ?_
    refine lv_aload_n hx hb dL_remove_0 rfl (lv_at hl 3 rfl) ?_
    refine lv_iconst (v := nI 0) hx hb dL_remove_1 (by decide) ?_
    refine lv_aload_n hx hb dL_remove_2 rfl (lv_at hl 0 rfl) ?_
    refine lv_iload_n hx hb dL_remove_3 rfl (lv_at hl 1 rfl) ?_
    refine lv_iload_n hx hb dL_remove_4 rfl (lv_at hl 2 rfl) ?_
    refine k2_V hx hb hml hown hG cs_L_41 hok (by decide) (pzV (hK.sub (tys' := [(cI, .int), (cC, .char)]) [0, 1] rfl) rfl hW.rc hW) rfl hl.1 rfl (Nat.le_of_ble_eq_true rfl) dL_remove_5 ⟨Nat.le_refl _, Nat.le_refl _⟩ rfl hS (fun q h => Or.inl h) (fun H locs hW hz hk hS => ?_)
    have hP := oneK hP (hk qo (va_lt hP (k := 0) rfl) hqo)
    refine lv_i2l (v := Int32.toInt64 ((sp_remove S x key).2.1)) hx hb dL_remove_8 rfl ?_
    refine x_last0 hx hb hK hP hS (Or.inr rfl) 2 rfl dL_remove_9 (fun H locs f9 hf hP ho hS => ?_)
    have hW := hW.kept (fun i hi => ho _ (fun e9 => hqo ⟨i, hi, e9.symm⟩))
    refine lv_goto (tgt := 25) hx hb dL_remove_10 (by decide) ?_
    refine lv_iconst (v := nI 0) hx hb dL_remove_25 (by decide) ?_
    exact w_i (by rw [hc]) ⟨hW, f9, hP, fun _ => hf⟩ hS hx hb hr hlocks dL_remove_26
  · obtain ⟨hc1, hc2⟩ := (cd_remove S x key).resolve_left hc
    have hxx := xx_remove l hst D cI cC ad ta z S N x key hI hc
    rcases (show (sp_remove S x key).1 = 1 ∨ (sp_remove S x key).1 = 2 ∨ (sp_remove S x key).1 = 3 from by omega) with hk9 | hk9 | hk9
    · skip
      rw [hk9] at hxx
      refine m_startW (by decide) (Nat.le_of_ble_eq_true rfl) ?_
      intro p e s m below meth c hx hb hr hG hown hlocks hml htb hB ls hl
      have hl : lv_has ls 5 [(0, .ref (ad 0)), (1, .int (x)), (2, .int (key)), (3, .ref (qo))] := hl
      obtain ⟨⟨hW, hP⟩, hK, hE, hT, hZ, hX⟩ := hB
      refine lv_aload_n hx hb dL_remove_0 rfl (lv_at hl 3 rfl) ?_
      refine lv_iconst (v := nI 0) hx hb dL_remove_1 (by decide) ?_
      refine lv_aload_n hx hb dL_remove_2 rfl (lv_at hl 0 rfl) ?_
      refine lv_iload_n hx hb dL_remove_3 rfl (lv_at hl 1 rfl) ?_
      refine lv_iload_n hx hb dL_remove_4 rfl (lv_at hl 2 rfl) ?_
      refine k3_V hx hb hml hown hG cs_L_41 hxx (by decide) (pztV (hK.sub (tys' := [(cI, .int), (cC, .char)]) [0, 1] rfl) hE hT hZ (fun _ _ _ => rfl) rfl hW.rc hW) rfl hl.1 rfl (Nat.le_of_ble_eq_true rfl) dL_remove_5 ⟨Nat.le_refl _, Nat.le_refl _⟩ (fun H1 q9 ce h1 h2 h3 h4 h5 => ?_)
      have h5 : s.vm.findClass "java/lang/IndexOutOfBoundsException" = some ce.cls := h5
      refine vx_catch hown [] ⟨0, 10, 13, 19⟩ [⟨0, 10, 17, 13⟩, ⟨0, 10, 21, 44⟩] (htb.trans rfl) (fun y9 hy9 => nomatch hy9) rfl (by decide) (hG _ cl_L_19) (hE.at _ (List.mem_of_getElem? (i := 3) rfl)) h3 h4 h5 ?_
      refine lv_astore (lv' := [(4, .ref (q9)), (0, .ref (ad 0)), (1, .int (x)), (2, .int (key)), (3, .ref (qo))]) hx hb dL_remove_13 hl (by decide) rfl (fun ls hl => ?_)
      refine lv_iconst (v := nI 1) hx hb dL_remove_15 (by decide) ?_
      exact w_i (by rw [hk9]) ⟨by rw [hc2]; exact (hW.kept (fun i hi => h2 _ (hW.lt hi))).mono (by omega), f, oneK hP (h2 _ (va_lt hP (k := 0) rfl)), fun h => absurd h hc⟩ ⟨h1, fun q hq _ => h2 q hq, fun y9 hy9 => nomatch hy9⟩ hx hb hr hlocks dL_remove_16
    · skip
      rw [hk9] at hxx
      refine m_startW (by decide) (Nat.le_of_ble_eq_true rfl) ?_
      intro p e s m below meth c hx hb hr hG hown hlocks hml htb hB ls hl
      have hl : lv_has ls 5 [(0, .ref (ad 0)), (1, .int (x)), (2, .int (key)), (3, .ref (qo))] := hl
      obtain ⟨⟨hW, hP⟩, hK, hE, hT, hZ, hX⟩ := hB
      refine lv_aload_n hx hb dL_remove_0 rfl (lv_at hl 3 rfl) ?_
      refine lv_iconst (v := nI 0) hx hb dL_remove_1 (by decide) ?_
      refine lv_aload_n hx hb dL_remove_2 rfl (lv_at hl 0 rfl) ?_
      refine lv_iload_n hx hb dL_remove_3 rfl (lv_at hl 1 rfl) ?_
      refine lv_iload_n hx hb dL_remove_4 rfl (lv_at hl 2 rfl) ?_
      refine k3_V hx hb hml hown hG cs_L_41 hxx (by decide) (pztV (hK.sub (tys' := [(cI, .int), (cC, .char)]) [0, 1] rfl) hE hT hZ (fun _ _ _ => rfl) rfl hW.rc hW) rfl hl.1 rfl (Nat.le_of_ble_eq_true rfl) dL_remove_5 ⟨Nat.le_refl _, Nat.le_refl _⟩ (fun H1 q9 ce h1 h2 h3 h4 h5 => ?_)
      have h5 : s.vm.findClass "java/lang/IllegalArgumentException" = some ce.cls := h5
      refine vx_catch hown [⟨0, 10, 13, 19⟩] ⟨0, 10, 17, 13⟩ [⟨0, 10, 21, 44⟩] (htb.trans rfl) (fun y9 hy9 => by
          rcases List.mem_cons.mp hy9 with rfl | hy9
          · exact Or.inr ⟨by decide, "java/lang/IndexOutOfBoundsException", hG _ cl_L_19, hX.1⟩
          nomatch hy9) rfl (by decide) (hG _ cl_L_13) (hE.at _ (List.mem_of_getElem? (i := 4) rfl)) h3 h4 h5 ?_
      refine lv_astore (lv' := [(4, .ref (q9)), (0, .ref (ad 0)), (1, .int (x)), (2, .int (key)), (3, .ref (qo))]) hx hb dL_remove_17 hl (by decide) rfl (fun ls hl => ?_)
      refine lv_iconst (v := nI 2) hx hb dL_remove_19 (by decide) ?_
      exact w_i (by rw [hk9]) ⟨by rw [hc2]; exact (hW.kept (fun i hi => h2 _ (hW.lt hi))).mono (by omega), f, oneK hP (h2 _ (va_lt hP (k := 0) rfl)), fun h => absurd h hc⟩ ⟨h1, fun q hq _ => h2 q hq, fun y9 hy9 => nomatch hy9⟩ hx hb hr hlocks dL_remove_20
    · skip
      rw [hk9] at hxx
      refine m_startW (by decide) (Nat.le_of_ble_eq_true rfl) ?_
      intro p e s m below meth c hx hb hr hG hown hlocks hml htb hB ls hl
      have hl : lv_has ls 5 [(0, .ref (ad 0)), (1, .int (x)), (2, .int (key)), (3, .ref (qo))] := hl
      obtain ⟨⟨hW, hP⟩, hK, hE, hT, hZ, hX⟩ := hB
      refine lv_aload_n hx hb dL_remove_0 rfl (lv_at hl 3 rfl) ?_
      refine lv_iconst (v := nI 0) hx hb dL_remove_1 (by decide) ?_
      refine lv_aload_n hx hb dL_remove_2 rfl (lv_at hl 0 rfl) ?_
      refine lv_iload_n hx hb dL_remove_3 rfl (lv_at hl 1 rfl) ?_
      refine lv_iload_n hx hb dL_remove_4 rfl (lv_at hl 2 rfl) ?_
      refine k3_V hx hb hml hown hG cs_L_41 hxx (by decide) (pztV (hK.sub (tys' := [(cI, .int), (cC, .char)]) [0, 1] rfl) hE hT hZ (fun _ _ _ => rfl) rfl hW.rc hW) rfl hl.1 rfl (Nat.le_of_ble_eq_true rfl) dL_remove_5 ⟨Nat.le_refl _, Nat.le_refl _⟩ (fun H1 q9 ce h1 h2 h3 h4 h5 => ?_)
      have h5 : s.vm.findClass "java/util/NoSuchElementException" = some ce.cls := h5
      refine vx_catch hown [⟨0, 10, 13, 19⟩, ⟨0, 10, 17, 13⟩] ⟨0, 10, 21, 44⟩ [] (htb.trans rfl) (fun y9 hy9 => by
          rcases List.mem_cons.mp hy9 with rfl | hy9
          · exact Or.inr ⟨by decide, "java/lang/IndexOutOfBoundsException", hG _ cl_L_19, hX.2.2.2.1⟩
          rcases List.mem_cons.mp hy9 with rfl | hy9
          · exact Or.inr ⟨by decide, "java/lang/IllegalArgumentException", hG _ cl_L_13, hX.2.2.2.2.1⟩
          nomatch hy9) rfl (by decide) (hG _ cl_L_44) (hE.at _ (List.mem_of_getElem? (i := 6) rfl)) h3 h4 h5 ?_
      refine lv_astore (lv' := [(4, .ref (q9)), (0, .ref (ad 0)), (1, .int (x)), (2, .int (key)), (3, .ref (qo))]) hx hb dL_remove_21 hl (by decide) rfl (fun ls hl => ?_)
      refine lv_iconst (v := nI 3) hx hb dL_remove_23 (by decide) ?_
      exact w_i (by rw [hk9]) ⟨by rw [hc2]; exact (hW.kept (fun i hi => h2 _ (hW.lt hi))).mono (by omega), f, oneK hP (h2 _ (va_lt hP (k := 0) rfl)), fun h => absurd h hc⟩ ⟨h1, fun q hq _ => h2 q hq, fun y9 hy9 => nomatch hy9⟩ hx hb hr hlocks dL_remove_24
theorem cd_removePair (S : St) (x key v : Int32) : cdP 2 S (sp_removePair S x key v) := by
  unfold sp_removePair 
  repeat' split
  all_goals first | exact Or.inl rfl | exact Or.inr ⟨Nat.le_of_ble_eq_true rfl, rfl⟩
set_option maxHeartbeats 4000000 in
set_option maxRecDepth 100000 in
theorem wr_removePair (l : Launch) (hst : l.stackTraces = false) (D : va_G) (cI cC cL : ClassId) (ad ta : Nat → Nat) (z : Nat) (S : St) (N : Nat) (qo : Nat) (f : Nat → Int64) (x key v : Int32) (hI : Inv S) (hN : N + 2000 < 2 ^ 31) (hap : Ap ad 36) (hqo : ¬ Ao ad 36 qo) : Met l yL_removePair (wsW_ yL_removePair cL_removePair 6 (some .int) [(0, 19, 22, 19), (0, 19, 26, 13)]) rmW (va_Pc [.ref (ad 0), .int (x), .int (key), .int (v), .ref (qo)] (pzw D [(cI, .int), (cC, .char), (cL, .long)] ta z (fun H => Wc D cI cC ad S N H ∧ va_P D vwCl (ouW cL qo f) H))) (Wq (some (.int (nI (sp_removePair S x key v).1))) (fun H => Wc D cI cC ad (sp_removePair S x key v).2.2 (N + 2000) H ∧ ∃ f9, va_P D vwCl (ouW cL qo f9) H ∧ ((sp_removePair S x key v).1 = 0 → f9 0 = zl (sp_removePair S x key v).2.1)) (fun q => Ao ad 36 q ∨ q = qo)) 1 6 (fun q => Ao ad 36 q ∨ q = qo) := by
  by_cases hc : (sp_removePair S x key v).1 = 0
  · have hok := ok_removePair l D cI cC ad S N x key v hI hN hap hc
    refine m_startW (by decide) (Nat.le_of_ble_eq_true rfl) ?_
    intro p e s m below meth c hx hb hr hG hown hlocks hml htb hB ls hl
    have hl : lv_has ls 6 [(0, .ref (ad 0)), (1, .int (x)), (2, .int (key)), (3, .int (v)), (4, .ref (qo))] := hl
    obtain ⟨⟨hW, hP⟩, hK, hE, hT, hZ, hX⟩ := hB
    have hS : va_S (fun q => Ao ad 36 q ∨ q = qo) s.heap s.heap [] := va_S.rf
    refine W.widen (k := 1) (n := 6) (by decide) (by decide) ?_
    refine lv_aload hx hb dL_removePair_0 (lv_at hl 4 rfl) ?_
    refine lv_iconst (v := nI 0) hx hb dL_removePair_2 (by decide) ?_
    refine lv_aload_n hx hb dL_removePair_3 rfl (lv_at hl 0 rfl) ?_
    refine lv_iload_n hx hb dL_removePair_4 rfl (lv_at hl 1 rfl) ?_
    refine lv_iload_n hx hb dL_removePair_5 rfl (lv_at hl 2 rfl) ?_
    refine lv_iload_n hx hb dL_removePair_6 rfl (lv_at hl 3 rfl) ?_
    refine k2_V hx hb hml hown hG cs_L_46 hok (by decide) (pzV (hK.sub (tys' := [(cI, .int), (cC, .char)]) [0, 1] rfl) rfl hW.rc hW) rfl hl.1 rfl (Nat.le_of_ble_eq_true rfl) dL_removePair_7 ⟨Nat.le_refl _, Nat.le_refl _⟩ rfl hS (fun q h => Or.inl h) (fun H locs hW hz hk hS => ?_)
    have hP := oneK hP (hk qo (va_lt hP (k := 0) rfl) hqo)
    refine x_ifb_eq (tgt := 17) hx hb dL_removePair_10 (by decide) (fun c1 => ?_) (fun c1 => ?_)
    · refine lv_lconst (v := lN (0)) hx hb dL_removePair_17 (by decide) ?_
      refine x_last0 hx hb hK hP hS (Or.inr rfl) 2 rfl dL_removePair_18 (fun H locs f9 hf hP ho hS => ?_)
      have hW := hW.kept (fun i hi => ho _ (fun e9 => hqo ⟨i, hi, e9.symm⟩))
      refine lv_goto (tgt := 30) hx hb dL_removePair_19 (by decide) ?_
      refine lv_iconst (v := nI 0) hx hb dL_removePair_30 (by decide) ?_
      exact w_i (by rw [hc]) ⟨hW, f9, hP, fun _ => by rw [hf, c1]; rfl⟩ hS hx hb hr hlocks dL_removePair_31
    · refine lv_lconst (v := lN (1)) hx hb dL_removePair_13 (by decide) ?_
      refine lv_goto (tgt := 18) hx hb dL_removePair_14 (by decide) ?_
      refine x_last0 hx hb hK hP hS (Or.inr rfl) 2 rfl dL_removePair_18 (fun H locs f9 hf hP ho hS => ?_)
      have hW := hW.kept (fun i hi => ho _ (fun e9 => hqo ⟨i, hi, e9.symm⟩))
      refine lv_goto (tgt := 30) hx hb dL_removePair_19 (by decide) ?_
      refine lv_iconst (v := nI 0) hx hb dL_removePair_30 (by decide) ?_
      exact w_i (by rw [hc]) ⟨hW, f9, hP, fun _ => by rw [hf, c1]; rfl⟩ hS hx hb hr hlocks dL_removePair_31
  · obtain ⟨hc1, hc2⟩ := (cd_removePair S x key v).resolve_left hc
    have hxx := xx_removePair l hst D cI cC ad ta z S N x key v hI hc
    rcases (show (sp_removePair S x key v).1 = 1 ∨ (sp_removePair S x key v).1 = 2 from by omega) with hk9 | hk9
    · skip
      rw [hk9] at hxx
      refine m_startW (by decide) (Nat.le_of_ble_eq_true rfl) ?_
      intro p e s m below meth c hx hb hr hG hown hlocks hml htb hB ls hl
      have hl : lv_has ls 6 [(0, .ref (ad 0)), (1, .int (x)), (2, .int (key)), (3, .int (v)), (4, .ref (qo))] := hl
      obtain ⟨⟨hW, hP⟩, hK, hE, hT, hZ, hX⟩ := hB
      refine lv_aload hx hb dL_removePair_0 (lv_at hl 4 rfl) ?_
      refine lv_iconst (v := nI 0) hx hb dL_removePair_2 (by decide) ?_
      refine lv_aload_n hx hb dL_removePair_3 rfl (lv_at hl 0 rfl) ?_
      refine lv_iload_n hx hb dL_removePair_4 rfl (lv_at hl 1 rfl) ?_
      refine lv_iload_n hx hb dL_removePair_5 rfl (lv_at hl 2 rfl) ?_
      refine lv_iload_n hx hb dL_removePair_6 rfl (lv_at hl 3 rfl) ?_
      refine k3_V hx hb hml hown hG cs_L_46 hxx (by decide) (pztV (hK.sub (tys' := [(cI, .int), (cC, .char)]) [0, 1] rfl) hE hT hZ (fun _ _ _ => rfl) rfl hW.rc hW) rfl hl.1 rfl (Nat.le_of_ble_eq_true rfl) dL_removePair_7 ⟨Nat.le_refl _, Nat.le_refl _⟩ (fun H1 q9 ce h1 h2 h3 h4 h5 => ?_)
      have h5 : s.vm.findClass "java/lang/IndexOutOfBoundsException" = some ce.cls := h5
      refine vx_catch hown [] ⟨0, 19, 22, 19⟩ [⟨0, 19, 26, 13⟩] (htb.trans rfl) (fun y9 hy9 => nomatch hy9) rfl (by decide) (hG _ cl_L_19) (hE.at _ (List.mem_of_getElem? (i := 3) rfl)) h3 h4 h5 ?_
      refine lv_astore (lv' := [(5, .ref (q9)), (0, .ref (ad 0)), (1, .int (x)), (2, .int (key)), (3, .int (v)), (4, .ref (qo))]) hx hb dL_removePair_22 hl (by decide) rfl (fun ls hl => ?_)
      refine lv_iconst (v := nI 1) hx hb dL_removePair_24 (by decide) ?_
      exact w_i (by rw [hk9]) ⟨by rw [hc2]; exact (hW.kept (fun i hi => h2 _ (hW.lt hi))).mono (by omega), f, oneK hP (h2 _ (va_lt hP (k := 0) rfl)), fun h => absurd h hc⟩ ⟨h1, fun q hq _ => h2 q hq, fun y9 hy9 => nomatch hy9⟩ hx hb hr hlocks dL_removePair_25
    · skip
      rw [hk9] at hxx
      refine m_startW (by decide) (Nat.le_of_ble_eq_true rfl) ?_
      intro p e s m below meth c hx hb hr hG hown hlocks hml htb hB ls hl
      have hl : lv_has ls 6 [(0, .ref (ad 0)), (1, .int (x)), (2, .int (key)), (3, .int (v)), (4, .ref (qo))] := hl
      obtain ⟨⟨hW, hP⟩, hK, hE, hT, hZ, hX⟩ := hB
      refine lv_aload hx hb dL_removePair_0 (lv_at hl 4 rfl) ?_
      refine lv_iconst (v := nI 0) hx hb dL_removePair_2 (by decide) ?_
      refine lv_aload_n hx hb dL_removePair_3 rfl (lv_at hl 0 rfl) ?_
      refine lv_iload_n hx hb dL_removePair_4 rfl (lv_at hl 1 rfl) ?_
      refine lv_iload_n hx hb dL_removePair_5 rfl (lv_at hl 2 rfl) ?_
      refine lv_iload_n hx hb dL_removePair_6 rfl (lv_at hl 3 rfl) ?_
      refine k3_V hx hb hml hown hG cs_L_46 hxx (by decide) (pztV (hK.sub (tys' := [(cI, .int), (cC, .char)]) [0, 1] rfl) hE hT hZ (fun _ _ _ => rfl) rfl hW.rc hW) rfl hl.1 rfl (Nat.le_of_ble_eq_true rfl) dL_removePair_7 ⟨Nat.le_refl _, Nat.le_refl _⟩ (fun H1 q9 ce h1 h2 h3 h4 h5 => ?_)
      have h5 : s.vm.findClass "java/lang/IllegalArgumentException" = some ce.cls := h5
      refine vx_catch hown [⟨0, 19, 22, 19⟩] ⟨0, 19, 26, 13⟩ [] (htb.trans rfl) (fun y9 hy9 => by
          rcases List.mem_cons.mp hy9 with rfl | hy9
          · exact Or.inr ⟨by decide, "java/lang/IndexOutOfBoundsException", hG _ cl_L_19, hX.1⟩
          nomatch hy9) rfl (by decide) (hG _ cl_L_13) (hE.at _ (List.mem_of_getElem? (i := 4) rfl)) h3 h4 h5 ?_
      refine lv_astore (lv' := [(5, .ref (q9)), (0, .ref (ad 0)), (1, .int (x)), (2, .int (key)), (3, .int (v)), (4, .ref (qo))]) hx hb dL_removePair_26 hl (by decide) rfl (fun ls hl => ?_)
      refine lv_iconst (v := nI 2) hx hb dL_removePair_28 (by decide) ?_
      exact w_i (by rw [hk9]) ⟨by rw [hc2]; exact (hW.kept (fun i hi => h2 _ (hW.lt hi))).mono (by omega), f, oneK hP (h2 _ (va_lt hP (k := 0) rfl)), fun h => absurd h hc⟩ ⟨h1, fun q hq _ => h2 q hq, fun y9 hy9 => nomatch hy9⟩ hx hb hr hlocks dL_removePair_29
theorem cd_fill (S : St) (x from_ step many : Int32) : cdP 3 S (sp_fill S x from_ step many) := by
  unfold sp_fill 
  repeat' split
  all_goals first | exact Or.inl rfl | exact Or.inr ⟨Nat.le_of_ble_eq_true rfl, rfl⟩
set_option maxHeartbeats 4000000 in
set_option maxRecDepth 100000 in
theorem wr_fill (l : Launch) (hst : l.stackTraces = false) (D : va_G) (cI cC cL : ClassId) (ad ta : Nat → Nat) (z : Nat) (S : St) (N : Nat) (qo : Nat) (f : Nat → Int64) (x from_ step many : Int32) (hI : Inv S) (hN : N + 2000 < 2 ^ 31) (hap : Ap ad 36) (hqo : ¬ Ao ad 36 qo) : Met l yL_fill (wsW_ yL_fill cL_fill 7 (some .int) [(0, 14, 17, 19), (0, 14, 21, 13), (0, 14, 25, 21)]) rmW (va_Pc [.ref (ad 0), .int (x), .int (from_), .int (step), .int (many), .ref (qo)] (pzw D [(cI, .int), (cC, .char), (cL, .long)] ta z (fun H => Wc D cI cC ad S N H ∧ va_P D vwCl (ouW cL qo f) H))) (Wq (some (.int (nI (sp_fill S x from_ step many).1))) (fun H => Wc D cI cC ad (sp_fill S x from_ step many).2.2 (N + 2000) H ∧ ∃ f9, va_P D vwCl (ouW cL qo f9) H ∧ ((sp_fill S x from_ step many).1 = 0 → f9 0 = Int32.toInt64 (sp_fill S x from_ step many).2.1)) (fun q => Ao ad 36 q ∨ q = qo)) 1 6 (fun q => Ao ad 36 q ∨ q = qo) := by
  by_cases hc : (sp_fill S x from_ step many).1 = 0
  · have hok := ok_fill l D cI cC ad S N x from_ step many hI hN hap hc
    refine m_startW (by decide) (Nat.le_of_ble_eq_true rfl) ?_
    intro p e s m below meth c hx hb hr hG hown hlocks hml htb hB ls hl
    have hl : lv_has ls 7 [(0, .ref (ad 0)), (1, .int (x)), (2, .int (from_)), (3, .int (step)), (4, .int (many)), (5, .ref (qo))] := hl
    obtain ⟨⟨hW, hP⟩, hK, hE, hT, hZ, hX⟩ := hB
    have hS : va_S (fun q => Ao ad 36 q ∨ q = qo) s.heap s.heap [] := va_S.rf
    refine W.widen (k := 1) (n := 6) (by decide) (by decide) ?_
    refine lv_aload hx hb dL_fill_0 (lv_at hl 5 rfl) ?_
    refine lv_iconst (v := nI 0) hx hb dL_fill_2 (by decide) ?_
    refine lv_aload_n hx hb dL_fill_3 rfl (lv_at hl 0 rfl) ?_
    refine lv_iload_n hx hb dL_fill_4 rfl (lv_at hl 1 rfl) ?_
    refine lv_iload_n hx hb dL_fill_5 rfl (lv_at hl 2 rfl) ?_
    refine lv_iload_n hx hb dL_fill_6 rfl (lv_at hl 3 rfl) ?_
    refine lv_iload hx hb dL_fill_7 (lv_at hl 4 rfl) ?_
    refine k2_V hx hb hml hown hG cs_L_49 hok (by decide) (pzV (hK.sub (tys' := [(cI, .int), (cC, .char)]) [0, 1] rfl) rfl hW.rc hW) rfl hl.1 rfl (Nat.le_of_ble_eq_true rfl) dL_fill_9 ⟨Nat.le_refl _, Nat.le_refl _⟩ rfl hS (fun q h => Or.inl h) (fun H locs hW hz hk hS => ?_)
    have hP := oneK hP (hk qo (va_lt hP (k := 0) rfl) hqo)
    refine lv_i2l (v := Int32.toInt64 ((sp_fill S x from_ step many).2.1)) hx hb dL_fill_12 rfl ?_
    refine x_last0 hx hb hK hP hS (Or.inr rfl) 2 rfl dL_fill_13 (fun H locs f9 hf hP ho hS => ?_)
    have hW := hW.kept (fun i hi => ho _ (fun e9 => hqo ⟨i, hi, e9.symm⟩))
    refine lv_goto (tgt := 29) hx hb dL_fill_14 (by decide) ?_
    refine lv_iconst (v := nI 0) hx hb dL_fill_29 (by decide) ?_
    exact w_i (by rw [hc]) ⟨hW, f9, hP, fun _ => hf⟩ hS hx hb hr hlocks dL_fill_30
  · obtain ⟨hc1, hc2⟩ := (cd_fill S x from_ step many).resolve_left hc
    have hxx := xx_fill l hst D cI cC ad ta z S N x from_ step many hI hc
    rcases (show (sp_fill S x from_ step many).1 = 1 ∨ (sp_fill S x from_ step many).1 = 2 ∨ (sp_fill S x from_ step many).1 = 3 from by omega) with hk9 | hk9 | hk9
    · skip
      rw [hk9] at hxx
      refine m_startW (by decide) (Nat.le_of_ble_eq_true rfl) ?_
      intro p e s m below meth c hx hb hr hG hown hlocks hml htb hB ls hl
      have hl : lv_has ls 7 [(0, .ref (ad 0)), (1, .int (x)), (2, .int (from_)), (3, .int (step)), (4, .int (many)), (5, .ref (qo))] := hl
      obtain ⟨⟨hW, hP⟩, hK, hE, hT, hZ, hX⟩ := hB
      refine lv_aload hx hb dL_fill_0 (lv_at hl 5 rfl) ?_
      refine lv_iconst (v := nI 0) hx hb dL_fill_2 (by decide) ?_
      refine lv_aload_n hx hb dL_fill_3 rfl (lv_at hl 0 rfl) ?_
      refine lv_iload_n hx hb dL_fill_4 rfl (lv_at hl 1 rfl) ?_
      refine lv_iload_n hx hb dL_fill_5 rfl (lv_at hl 2 rfl) ?_
      refine lv_iload_n hx hb dL_fill_6 rfl (lv_at hl 3 rfl) ?_
      refine lv_iload hx hb dL_fill_7 (lv_at hl 4 rfl) ?_
      refine k3_V hx hb hml hown hG cs_L_49 hxx (by decide) (pztV (hK.sub (tys' := [(cI, .int), (cC, .char)]) [0, 1] rfl) hE hT hZ (fun _ _ _ => rfl) rfl hW.rc hW) rfl hl.1 rfl (Nat.le_of_ble_eq_true rfl) dL_fill_9 ⟨Nat.le_refl _, Nat.le_refl _⟩ (fun H1 q9 ce h1 h2 h3 h4 h5 => ?_)
      have h5 : s.vm.findClass "java/lang/IndexOutOfBoundsException" = some ce.cls := h5
      refine vx_catch hown [] ⟨0, 14, 17, 19⟩ [⟨0, 14, 21, 13⟩, ⟨0, 14, 25, 21⟩] (htb.trans rfl) (fun y9 hy9 => nomatch hy9) rfl (by decide) (hG _ cl_L_19) (hE.at _ (List.mem_of_getElem? (i := 3) rfl)) h3 h4 h5 ?_
      refine lv_astore (lv' := [(6, .ref (q9)), (0, .ref (ad 0)), (1, .int (x)), (2, .int (from_)), (3, .int (step)), (4, .int (many)), (5, .ref (qo))]) hx hb dL_fill_17 hl (by decide) rfl (fun ls hl => ?_)
      refine lv_iconst (v := nI 1) hx hb dL_fill_19 (by decide) ?_
      exact w_i (by rw [hk9]) ⟨by rw [hc2]; exact (hW.kept (fun i hi => h2 _ (hW.lt hi))).mono (by omega), f, oneK hP (h2 _ (va_lt hP (k := 0) rfl)), fun h => absurd h hc⟩ ⟨h1, fun q hq _ => h2 q hq, fun y9 hy9 => nomatch hy9⟩ hx hb hr hlocks dL_fill_20
    · skip
      rw [hk9] at hxx
      refine m_startW (by decide) (Nat.le_of_ble_eq_true rfl) ?_
      intro p e s m below meth c hx hb hr hG hown hlocks hml htb hB ls hl
      have hl : lv_has ls 7 [(0, .ref (ad 0)), (1, .int (x)), (2, .int (from_)), (3, .int (step)), (4, .int (many)), (5, .ref (qo))] := hl
      obtain ⟨⟨hW, hP⟩, hK, hE, hT, hZ, hX⟩ := hB
      refine lv_aload hx hb dL_fill_0 (lv_at hl 5 rfl) ?_
      refine lv_iconst (v := nI 0) hx hb dL_fill_2 (by decide) ?_
      refine lv_aload_n hx hb dL_fill_3 rfl (lv_at hl 0 rfl) ?_
      refine lv_iload_n hx hb dL_fill_4 rfl (lv_at hl 1 rfl) ?_
      refine lv_iload_n hx hb dL_fill_5 rfl (lv_at hl 2 rfl) ?_
      refine lv_iload_n hx hb dL_fill_6 rfl (lv_at hl 3 rfl) ?_
      refine lv_iload hx hb dL_fill_7 (lv_at hl 4 rfl) ?_
      refine k3_V hx hb hml hown hG cs_L_49 hxx (by decide) (pztV (hK.sub (tys' := [(cI, .int), (cC, .char)]) [0, 1] rfl) hE hT hZ (fun _ _ _ => rfl) rfl hW.rc hW) rfl hl.1 rfl (Nat.le_of_ble_eq_true rfl) dL_fill_9 ⟨Nat.le_refl _, Nat.le_refl _⟩ (fun H1 q9 ce h1 h2 h3 h4 h5 => ?_)
      have h5 : s.vm.findClass "java/lang/IllegalArgumentException" = some ce.cls := h5
      refine vx_catch hown [⟨0, 14, 17, 19⟩] ⟨0, 14, 21, 13⟩ [⟨0, 14, 25, 21⟩] (htb.trans rfl) (fun y9 hy9 => by
          rcases List.mem_cons.mp hy9 with rfl | hy9
          · exact Or.inr ⟨by decide, "java/lang/IndexOutOfBoundsException", hG _ cl_L_19, hX.1⟩
          nomatch hy9) rfl (by decide) (hG _ cl_L_13) (hE.at _ (List.mem_of_getElem? (i := 4) rfl)) h3 h4 h5 ?_
      refine lv_astore (lv' := [(6, .ref (q9)), (0, .ref (ad 0)), (1, .int (x)), (2, .int (from_)), (3, .int (step)), (4, .int (many)), (5, .ref (qo))]) hx hb dL_fill_21 hl (by decide) rfl (fun ls hl => ?_)
      refine lv_iconst (v := nI 2) hx hb dL_fill_23 (by decide) ?_
      exact w_i (by rw [hk9]) ⟨by rw [hc2]; exact (hW.kept (fun i hi => h2 _ (hW.lt hi))).mono (by omega), f, oneK hP (h2 _ (va_lt hP (k := 0) rfl)), fun h => absurd h hc⟩ ⟨h1, fun q hq _ => h2 q hq, fun y9 hy9 => nomatch hy9⟩ hx hb hr hlocks dL_fill_24
    · skip
      rw [hk9] at hxx
      refine m_startW (by decide) (Nat.le_of_ble_eq_true rfl) ?_
      intro p e s m below meth c hx hb hr hG hown hlocks hml htb hB ls hl
      have hl : lv_has ls 7 [(0, .ref (ad 0)), (1, .int (x)), (2, .int (from_)), (3, .int (step)), (4, .int (many)), (5, .ref (qo))] := hl
      obtain ⟨⟨hW, hP⟩, hK, hE, hT, hZ, hX⟩ := hB
      refine lv_aload hx hb dL_fill_0 (lv_at hl 5 rfl) ?_
      refine lv_iconst (v := nI 0) hx hb dL_fill_2 (by decide) ?_
      refine lv_aload_n hx hb dL_fill_3 rfl (lv_at hl 0 rfl) ?_
      refine lv_iload_n hx hb dL_fill_4 rfl (lv_at hl 1 rfl) ?_
      refine lv_iload_n hx hb dL_fill_5 rfl (lv_at hl 2 rfl) ?_
      refine lv_iload_n hx hb dL_fill_6 rfl (lv_at hl 3 rfl) ?_
      refine lv_iload hx hb dL_fill_7 (lv_at hl 4 rfl) ?_
      refine k3_V hx hb hml hown hG cs_L_49 hxx (by decide) (pztV (hK.sub (tys' := [(cI, .int), (cC, .char)]) [0, 1] rfl) hE hT hZ (fun _ _ _ => rfl) rfl hW.rc hW) rfl hl.1 rfl (Nat.le_of_ble_eq_true rfl) dL_fill_9 ⟨Nat.le_refl _, Nat.le_refl _⟩ (fun H1 q9 ce h1 h2 h3 h4 h5 => ?_)
      have h5 : s.vm.findClass "java/lang/IllegalStateException" = some ce.cls := h5
      refine vx_catch hown [⟨0, 14, 17, 19⟩, ⟨0, 14, 21, 13⟩] ⟨0, 14, 25, 21⟩ [] (htb.trans rfl) (fun y9 hy9 => by
          rcases List.mem_cons.mp hy9 with rfl | hy9
          · exact Or.inr ⟨by decide, "java/lang/IndexOutOfBoundsException", hG _ cl_L_19, hX.2.1⟩
          rcases List.mem_cons.mp hy9 with rfl | hy9
          · exact Or.inr ⟨by decide, "java/lang/IllegalArgumentException", hG _ cl_L_13, hX.2.2.1⟩
          nomatch hy9) rfl (by decide) (hG _ cl_L_21) (hE.at _ (List.mem_of_getElem? (i := 5) rfl)) h3 h4 h5 ?_
      refine lv_astore (lv' := [(6, .ref (q9)), (0, .ref (ad 0)), (1, .int (x)), (2, .int (from_)), (3, .int (step)), (4, .int (many)), (5, .ref (qo))]) hx hb dL_fill_25 hl (by decide) rfl (fun ls hl => ?_)
      refine lv_iconst (v := nI 3) hx hb dL_fill_27 (by decide) ?_
      exact w_i (by rw [hk9]) ⟨by rw [hc2]; exact (hW.kept (fun i hi => h2 _ (hW.lt hi))).mono (by omega), f, oneK hP (h2 _ (va_lt hP (k := 0) rfl)), fun h => absurd h hc⟩ ⟨h1, fun q hq _ => h2 q hq, fun y9 hy9 => nomatch hy9⟩ hx hb hr hlocks dL_fill_28
theorem cd_pour (S : St) (x y : Int32) : cdP 3 S (sp_pour S x y) := by
  unfold sp_pour 
  repeat' split
  all_goals first | exact Or.inl rfl | exact Or.inr ⟨Nat.le_of_ble_eq_true rfl, rfl⟩
set_option maxHeartbeats 4000000 in
set_option maxRecDepth 100000 in
theorem wr_pour (l : Launch) (hst : l.stackTraces = false) (D : va_G) (cI cC cL : ClassId) (ad ta : Nat → Nat) (z : Nat) (S : St) (N : Nat) (qo : Nat) (f : Nat → Int64) (x y : Int32) (hI : Inv S) (hN : N + 2000 < 2 ^ 31) (hap : Ap ad 36) (hqo : ¬ Ao ad 36 qo) : Met l yL_pour (wsW_ yL_pour cL_pour 5 (some .int) [(0, 10, 13, 19), (0, 10, 17, 13), (0, 10, 21, 21)]) rmW (va_Pc [.ref (ad 0), .int (x), .int (y), .ref (qo)] (pzw D [(cI, .int), (cC, .char), (cL, .long)] ta z (fun H => Wc D cI cC ad S N H ∧ va_P D vwCl (ouW cL qo f) H))) (Wq (some (.int (nI (sp_pour S x y).1))) (fun H => Wc D cI cC ad (sp_pour S x y).2.2 (N + 2000) H ∧ ∃ f9, va_P D vwCl (ouW cL qo f9) H ∧ ((sp_pour S x y).1 = 0 → f9 0 = Int32.toInt64 (sp_pour S x y).2.1)) (fun q => Ao ad 36 q ∨ q = qo)) 1 6 (fun q => Ao ad 36 q ∨ q = qo) := by
  by_cases hc : (sp_pour S x y).1 = 0
  · have hok := ok_pour l D cI cC ad S N x y hI hN hap hc
    refine m_startW (by decide) (Nat.le_of_ble_eq_true rfl) ?_
    intro p e s m below meth c hx hb hr hG hown hlocks hml htb hB ls hl
    have hl : lv_has ls 5 [(0, .ref (ad 0)), (1, .int (x)), (2, .int (y)), (3, .ref (qo))] := hl
    obtain ⟨⟨hW, hP⟩, hK, hE, hT, hZ, hX⟩ := hB
    have hS : va_S (fun q => Ao ad 36 q ∨ q = qo) s.heap s.heap [] := va_S.rf
    refine W.widen (k := 1) (n := 6) (by decide) (by decide) ?_
    refine lv_aload_n hx hb dL_pour_0 rfl (lv_at hl 3 rfl) ?_
    refine lv_iconst (v := nI 0) hx hb dL_pour_1 (by decide) ?_
    refine lv_aload_n hx hb dL_pour_2 rfl (lv_at hl 0 rfl) ?_
    refine lv_iload_n hx hb dL_pour_3 rfl (lv_at hl 1 rfl) ?_
    refine lv_iload_n hx hb dL_pour_4 rfl (lv_at hl 2 rfl) ?_
    refine k2_V hx hb hml hown hG cs_L_53 hok (by decide) (pzV (hK.sub (tys' := [(cI, .int), (cC, .char)]) [0, 1] rfl) rfl hW.rc hW) rfl hl.1 rfl (Nat.le_of_ble_eq_true rfl) dL_pour_5 ⟨Nat.le_refl _, Nat.le_refl _⟩ rfl hS (fun q h => Or.inl h) (fun H locs hW hz hk hS => ?_)
    have hP := oneK hP (hk qo (va_lt hP (k := 0) rfl) hqo)
    refine lv_i2l (v := Int32.toInt64 ((sp_pour S x y).2.1)) hx hb dL_pour_8 rfl ?_
    refine x_last0 hx hb hK hP hS (Or.inr rfl) 2 rfl dL_pour_9 (fun H locs f9 hf hP ho hS => ?_)
    have hW := hW.kept (fun i hi => ho _ (fun e9 => hqo ⟨i, hi, e9.symm⟩))
    refine lv_goto (tgt := 25) hx hb dL_pour_10 (by decide) ?_
    refine lv_iconst (v := nI 0) hx hb dL_pour_25 (by decide) ?_
    exact w_i (by rw [hc]) ⟨hW, f9, hP, fun _ => hf⟩ hS hx hb hr hlocks dL_pour_26
  · obtain ⟨hc1, hc2⟩ := (cd_pour S x y).resolve_left hc
    have hxx := xx_pour l hst D cI cC ad ta z S N x y hI hc
    rcases (show (sp_pour S x y).1 = 1 ∨ (sp_pour S x y).1 = 2 ∨ (sp_pour S x y).1 = 3 from by omega) with hk9 | hk9 | hk9
    · skip
      rw [hk9] at hxx
      refine m_startW (by decide) (Nat.le_of_ble_eq_true rfl) ?_
      intro p e s m below meth c hx hb hr hG hown hlocks hml htb hB ls hl
      have hl : lv_has ls 5 [(0, .ref (ad 0)), (1, .int (x)), (2, .int (y)), (3, .ref (qo))] := hl
      obtain ⟨⟨hW, hP⟩, hK, hE, hT, hZ, hX⟩ := hB
      refine lv_aload_n hx hb dL_pour_0 rfl (lv_at hl 3 rfl) ?_
      refine lv_iconst (v := nI 0) hx hb dL_pour_1 (by decide) ?_
      refine lv_aload_n hx hb dL_pour_2 rfl (lv_at hl 0 rfl) ?_
      refine lv_iload_n hx hb dL_pour_3 rfl (lv_at hl 1 rfl) ?_
      refine lv_iload_n hx hb dL_pour_4 rfl (lv_at hl 2 rfl) ?_
      refine k3_V hx hb hml hown hG cs_L_53 hxx (by decide) (pztV (hK.sub (tys' := [(cI, .int), (cC, .char)]) [0, 1] rfl) hE hT hZ (fun _ _ _ => rfl) rfl hW.rc hW) rfl hl.1 rfl (Nat.le_of_ble_eq_true rfl) dL_pour_5 ⟨Nat.le_refl _, Nat.le_refl _⟩ (fun H1 q9 ce h1 h2 h3 h4 h5 => ?_)
      have h5 : s.vm.findClass "java/lang/IndexOutOfBoundsException" = some ce.cls := h5
      refine vx_catch hown [] ⟨0, 10, 13, 19⟩ [⟨0, 10, 17, 13⟩, ⟨0, 10, 21, 21⟩] (htb.trans rfl) (fun y9 hy9 => nomatch hy9) rfl (by decide) (hG _ cl_L_19) (hE.at _ (List.mem_of_getElem? (i := 3) rfl)) h3 h4 h5 ?_
      refine lv_astore (lv' := [(4, .ref (q9)), (0, .ref (ad 0)), (1, .int (x)), (2, .int (y)), (3, .ref (qo))]) hx hb dL_pour_13 hl (by decide) rfl (fun ls hl => ?_)
      refine lv_iconst (v := nI 1) hx hb dL_pour_15 (by decide) ?_
      exact w_i (by rw [hk9]) ⟨by rw [hc2]; exact (hW.kept (fun i hi => h2 _ (hW.lt hi))).mono (by omega), f, oneK hP (h2 _ (va_lt hP (k := 0) rfl)), fun h => absurd h hc⟩ ⟨h1, fun q hq _ => h2 q hq, fun y9 hy9 => nomatch hy9⟩ hx hb hr hlocks dL_pour_16
    · skip
      rw [hk9] at hxx
      refine m_startW (by decide) (Nat.le_of_ble_eq_true rfl) ?_
      intro p e s m below meth c hx hb hr hG hown hlocks hml htb hB ls hl
      have hl : lv_has ls 5 [(0, .ref (ad 0)), (1, .int (x)), (2, .int (y)), (3, .ref (qo))] := hl
      obtain ⟨⟨hW, hP⟩, hK, hE, hT, hZ, hX⟩ := hB
      refine lv_aload_n hx hb dL_pour_0 rfl (lv_at hl 3 rfl) ?_
      refine lv_iconst (v := nI 0) hx hb dL_pour_1 (by decide) ?_
      refine lv_aload_n hx hb dL_pour_2 rfl (lv_at hl 0 rfl) ?_
      refine lv_iload_n hx hb dL_pour_3 rfl (lv_at hl 1 rfl) ?_
      refine lv_iload_n hx hb dL_pour_4 rfl (lv_at hl 2 rfl) ?_
      refine k3_V hx hb hml hown hG cs_L_53 hxx (by decide) (pztV (hK.sub (tys' := [(cI, .int), (cC, .char)]) [0, 1] rfl) hE hT hZ (fun _ _ _ => rfl) rfl hW.rc hW) rfl hl.1 rfl (Nat.le_of_ble_eq_true rfl) dL_pour_5 ⟨Nat.le_refl _, Nat.le_refl _⟩ (fun H1 q9 ce h1 h2 h3 h4 h5 => ?_)
      have h5 : s.vm.findClass "java/lang/IllegalArgumentException" = some ce.cls := h5
      refine vx_catch hown [⟨0, 10, 13, 19⟩] ⟨0, 10, 17, 13⟩ [⟨0, 10, 21, 21⟩] (htb.trans rfl) (fun y9 hy9 => by
          rcases List.mem_cons.mp hy9 with rfl | hy9
          · exact Or.inr ⟨by decide, "java/lang/IndexOutOfBoundsException", hG _ cl_L_19, hX.1⟩
          nomatch hy9) rfl (by decide) (hG _ cl_L_13) (hE.at _ (List.mem_of_getElem? (i := 4) rfl)) h3 h4 h5 ?_
      refine lv_astore (lv' := [(4, .ref (q9)), (0, .ref (ad 0)), (1, .int (x)), (2, .int (y)), (3, .ref (qo))]) hx hb dL_pour_17 hl (by decide) rfl (fun ls hl => ?_)
      refine lv_iconst (v := nI 2) hx hb dL_pour_19 (by decide) ?_
      exact w_i (by rw [hk9]) ⟨by rw [hc2]; exact (hW.kept (fun i hi => h2 _ (hW.lt hi))).mono (by omega), f, oneK hP (h2 _ (va_lt hP (k := 0) rfl)), fun h => absurd h hc⟩ ⟨h1, fun q hq _ => h2 q hq, fun y9 hy9 => nomatch hy9⟩ hx hb hr hlocks dL_pour_20
    · skip
      rw [hk9] at hxx
      refine m_startW (by decide) (Nat.le_of_ble_eq_true rfl) ?_
      intro p e s m below meth c hx hb hr hG hown hlocks hml htb hB ls hl
      have hl : lv_has ls 5 [(0, .ref (ad 0)), (1, .int (x)), (2, .int (y)), (3, .ref (qo))] := hl
      obtain ⟨⟨hW, hP⟩, hK, hE, hT, hZ, hX⟩ := hB
      refine lv_aload_n hx hb dL_pour_0 rfl (lv_at hl 3 rfl) ?_
      refine lv_iconst (v := nI 0) hx hb dL_pour_1 (by decide) ?_
      refine lv_aload_n hx hb dL_pour_2 rfl (lv_at hl 0 rfl) ?_
      refine lv_iload_n hx hb dL_pour_3 rfl (lv_at hl 1 rfl) ?_
      refine lv_iload_n hx hb dL_pour_4 rfl (lv_at hl 2 rfl) ?_
      refine k3_V hx hb hml hown hG cs_L_53 hxx (by decide) (pztV (hK.sub (tys' := [(cI, .int), (cC, .char)]) [0, 1] rfl) hE hT hZ (fun _ _ _ => rfl) rfl hW.rc hW) rfl hl.1 rfl (Nat.le_of_ble_eq_true rfl) dL_pour_5 ⟨Nat.le_refl _, Nat.le_refl _⟩ (fun H1 q9 ce h1 h2 h3 h4 h5 => ?_)
      have h5 : s.vm.findClass "java/lang/IllegalStateException" = some ce.cls := h5
      refine vx_catch hown [⟨0, 10, 13, 19⟩, ⟨0, 10, 17, 13⟩] ⟨0, 10, 21, 21⟩ [] (htb.trans rfl) (fun y9 hy9 => by
          rcases List.mem_cons.mp hy9 with rfl | hy9
          · exact Or.inr ⟨by decide, "java/lang/IndexOutOfBoundsException", hG _ cl_L_19, hX.2.1⟩
          rcases List.mem_cons.mp hy9 with rfl | hy9
          · exact Or.inr ⟨by decide, "java/lang/IllegalArgumentException", hG _ cl_L_13, hX.2.2.1⟩
          nomatch hy9) rfl (by decide) (hG _ cl_L_21) (hE.at _ (List.mem_of_getElem? (i := 5) rfl)) h3 h4 h5 ?_
      refine lv_astore (lv' := [(4, .ref (q9)), (0, .ref (ad 0)), (1, .int (x)), (2, .int (y)), (3, .ref (qo))]) hx hb dL_pour_21 hl (by decide) rfl (fun ls hl => ?_)
      refine lv_iconst (v := nI 3) hx hb dL_pour_23 (by decide) ?_
      exact w_i (by rw [hk9]) ⟨by rw [hc2]; exact (hW.kept (fun i hi => h2 _ (hW.lt hi))).mono (by omega), f, oneK hP (h2 _ (va_lt hP (k := 0) rfl)), fun h => absurd h hc⟩ ⟨h1, fun q hq _ => h2 q hq, fun y9 hy9 => nomatch hy9⟩ hx hb hr hlocks dL_pour_24
theorem cd_copy (S : St) (x y : Int32) : cdP 2 S (sp_copy S x y) := by
  unfold sp_copy 
  repeat' split
  all_goals first | exact Or.inl rfl | exact Or.inr ⟨Nat.le_of_ble_eq_true rfl, rfl⟩
set_option maxHeartbeats 4000000 in
set_option maxRecDepth 100000 in
theorem wr_copy (l : Launch) (hst : l.stackTraces = false) (D : va_G) (cI cC cL : ClassId) (ad ta : Nat → Nat) (z : Nat) (S : St) (N : Nat) (qo : Nat) (f : Nat → Int64) (x y : Int32) (hI : Inv S) (hN : N + 2000 < 2 ^ 31) (hap : Ap ad 36) (hqo : ¬ Ao ad 36 qo) : Met l yL_copy (wsW_ yL_copy cL_copy 5 (some .int) [(0, 10, 13, 19), (0, 10, 17, 13)]) rmW (va_Pc [.ref (ad 0), .int (x), .int (y), .ref (qo)] (pzw D [(cI, .int), (cC, .char), (cL, .long)] ta z (fun H => Wc D cI cC ad S N H ∧ va_P D vwCl (ouW cL qo f) H))) (Wq (some (.int (nI (sp_copy S x y).1))) (fun H => Wc D cI cC ad (sp_copy S x y).2.2 (N + 2000) H ∧ ∃ f9, va_P D vwCl (ouW cL qo f9) H ∧ ((sp_copy S x y).1 = 0 → f9 0 = Int32.toInt64 (sp_copy S x y).2.1)) (fun q => Ao ad 36 q ∨ q = qo)) 1 6 (fun q => Ao ad 36 q ∨ q = qo) := by
  by_cases hc : (sp_copy S x y).1 = 0
  · have hok := ok_copy l D cI cC ad S N x y hI hN hap hc
    refine m_startW (by decide) (Nat.le_of_ble_eq_true rfl) ?_
    intro p e s m below meth c hx hb hr hG hown hlocks hml htb hB ls hl
    have hl : lv_has ls 5 [(0, .ref (ad 0)), (1, .int (x)), (2, .int (y)), (3, .ref (qo))] := hl
    obtain ⟨⟨hW, hP⟩, hK, hE, hT, hZ, hX⟩ := hB
    have hS : va_S (fun q => Ao ad 36 q ∨ q = qo) s.heap s.heap [] := va_S.rf
    refine W.widen (k := 1) (n := 6) (by decide) (by decide) ?_
    refine lv_aload_n hx hb dL_copy_0 rfl (lv_at hl 3 rfl) ?_
    refine lv_iconst (v := nI 0) hx hb dL_copy_1 (by decide) ?_
    refine lv_aload_n hx hb dL_copy_2 rfl (lv_at hl 0 rfl) ?_
    refine lv_iload_n hx hb dL_copy_3 rfl (lv_at hl 1 rfl) ?_
    refine lv_iload_n hx hb dL_copy_4 rfl (lv_at hl 2 rfl) ?_
    refine k2_V hx hb hml hown hG cs_L_56 hok (by decide) (pzV (hK.sub (tys' := [(cI, .int), (cC, .char)]) [0, 1] rfl) rfl hW.rc hW) rfl hl.1 rfl (Nat.le_of_ble_eq_true rfl) dL_copy_5 ⟨Nat.le_refl _, Nat.le_refl _⟩ rfl hS (fun q h => Or.inl h) (fun H locs hW hz hk hS => ?_)
    have hP := oneK hP (hk qo (va_lt hP (k := 0) rfl) hqo)
    refine lv_i2l (v := Int32.toInt64 ((sp_copy S x y).2.1)) hx hb dL_copy_8 rfl ?_
    refine x_last0 hx hb hK hP hS (Or.inr rfl) 2 rfl dL_copy_9 (fun H locs f9 hf hP ho hS => ?_)
    have hW := hW.kept (fun i hi => ho _ (fun e9 => hqo ⟨i, hi, e9.symm⟩))
    refine lv_goto (tgt := 21) hx hb dL_copy_10 (by decide) ?_
    refine lv_iconst (v := nI 0) hx hb dL_copy_21 (by decide) ?_
    exact w_i (by rw [hc]) ⟨hW, f9, hP, fun _ => hf⟩ hS hx hb hr hlocks dL_copy_22
  · obtain ⟨hc1, hc2⟩ := (cd_copy S x y).resolve_left hc
    have hxx := xx_copy l hst D cI cC ad ta z S N x y hI hc
    rcases (show (sp_copy S x y).1 = 1 ∨ (sp_copy S x y).1 = 2 from by omega) with hk9 | hk9
    · skip
      rw [hk9] at hxx
      refine m_startW (by decide) (Nat.le_of_ble_eq_true rfl) ?_
      intro p e s m below meth c hx hb hr hG hown hlocks hml htb hB ls hl
      have hl : lv_has ls 5 [(0, .ref (ad 0)), (1, .int (x)), (2, .int (y)), (3, .ref (qo))] := hl
      obtain ⟨⟨hW, hP⟩, hK, hE, hT, hZ, hX⟩ := hB
      refine lv_aload_n hx hb dL_copy_0 rfl (lv_at hl 3 rfl) ?_
      refine lv_iconst (v := nI 0) hx hb dL_copy_1 (by decide) ?_
      refine lv_aload_n hx hb dL_copy_2 rfl (lv_at hl 0 rfl) ?_
      refine lv_iload_n hx hb dL_copy_3 rfl (lv_at hl 1 rfl) ?_
      refine lv_iload_n hx hb dL_copy_4 rfl (lv_at hl 2 rfl) ?_
      refine k3_V hx hb hml hown hG cs_L_56 hxx (by decide) (pztV (hK.sub (tys' := [(cI, .int), (cC, .char)]) [0, 1] rfl) hE hT hZ (fun _ _ _ => rfl) rfl hW.rc hW) rfl hl.1 rfl (Nat.le_of_ble_eq_true rfl) dL_copy_5 ⟨Nat.le_refl _, Nat.le_refl _⟩ (fun H1 q9 ce h1 h2 h3 h4 h5 => ?_)
      have h5 : s.vm.findClass "java/lang/IndexOutOfBoundsException" = some ce.cls := h5
      refine vx_catch hown [] ⟨0, 10, 13, 19⟩ [⟨0, 10, 17, 13⟩] (htb.trans rfl) (fun y9 hy9 => nomatch hy9) rfl (by decide) (hG _ cl_L_19) (hE.at _ (List.mem_of_getElem? (i := 3) rfl)) h3 h4 h5 ?_
      refine lv_astore (lv' := [(4, .ref (q9)), (0, .ref (ad 0)), (1, .int (x)), (2, .int (y)), (3, .ref (qo))]) hx hb dL_copy_13 hl (by decide) rfl (fun ls hl => ?_)
      refine lv_iconst (v := nI 1) hx hb dL_copy_15 (by decide) ?_
      exact w_i (by rw [hk9]) ⟨by rw [hc2]; exact (hW.kept (fun i hi => h2 _ (hW.lt hi))).mono (by omega), f, oneK hP (h2 _ (va_lt hP (k := 0) rfl)), fun h => absurd h hc⟩ ⟨h1, fun q hq _ => h2 q hq, fun y9 hy9 => nomatch hy9⟩ hx hb hr hlocks dL_copy_16
    · skip
      rw [hk9] at hxx
      refine m_startW (by decide) (Nat.le_of_ble_eq_true rfl) ?_
      intro p e s m below meth c hx hb hr hG hown hlocks hml htb hB ls hl
      have hl : lv_has ls 5 [(0, .ref (ad 0)), (1, .int (x)), (2, .int (y)), (3, .ref (qo))] := hl
      obtain ⟨⟨hW, hP⟩, hK, hE, hT, hZ, hX⟩ := hB
      refine lv_aload_n hx hb dL_copy_0 rfl (lv_at hl 3 rfl) ?_
      refine lv_iconst (v := nI 0) hx hb dL_copy_1 (by decide) ?_
      refine lv_aload_n hx hb dL_copy_2 rfl (lv_at hl 0 rfl) ?_
      refine lv_iload_n hx hb dL_copy_3 rfl (lv_at hl 1 rfl) ?_
      refine lv_iload_n hx hb dL_copy_4 rfl (lv_at hl 2 rfl) ?_
      refine k3_V hx hb hml hown hG cs_L_56 hxx (by decide) (pztV (hK.sub (tys' := [(cI, .int), (cC, .char)]) [0, 1] rfl) hE hT hZ (fun _ _ _ => rfl) rfl hW.rc hW) rfl hl.1 rfl (Nat.le_of_ble_eq_true rfl) dL_copy_5 ⟨Nat.le_refl _, Nat.le_refl _⟩ (fun H1 q9 ce h1 h2 h3 h4 h5 => ?_)
      have h5 : s.vm.findClass "java/lang/IllegalArgumentException" = some ce.cls := h5
      refine vx_catch hown [⟨0, 10, 13, 19⟩] ⟨0, 10, 17, 13⟩ [] (htb.trans rfl) (fun y9 hy9 => by
          rcases List.mem_cons.mp hy9 with rfl | hy9
          · exact Or.inr ⟨by decide, "java/lang/IndexOutOfBoundsException", hG _ cl_L_19, hX.1⟩
          nomatch hy9) rfl (by decide) (hG _ cl_L_13) (hE.at _ (List.mem_of_getElem? (i := 4) rfl)) h3 h4 h5 ?_
      refine lv_astore (lv' := [(4, .ref (q9)), (0, .ref (ad 0)), (1, .int (x)), (2, .int (y)), (3, .ref (qo))]) hx hb dL_copy_17 hl (by decide) rfl (fun ls hl => ?_)
      refine lv_iconst (v := nI 2) hx hb dL_copy_19 (by decide) ?_
      exact w_i (by rw [hk9]) ⟨by rw [hc2]; exact (hW.kept (fun i hi => h2 _ (hW.lt hi))).mono (by omega), f, oneK hP (h2 _ (va_lt hP (k := 0) rfl)), fun h => absurd h hc⟩ ⟨h1, fun q hq _ => h2 q hq, fun y9 hy9 => nomatch hy9⟩ hx hb hr hlocks dL_copy_20
theorem cd_clear (S : St) (x : Int32) : cdP 2 S (sp_clear S x) := by
  unfold sp_clear 
  repeat' split
  all_goals first | exact Or.inl rfl | exact Or.inr ⟨Nat.le_of_ble_eq_true rfl, rfl⟩
set_option maxHeartbeats 4000000 in
set_option maxRecDepth 100000 in
theorem wr_clear (l : Launch) (hst : l.stackTraces = false) (D : va_G) (cI cC cL : ClassId) (ad ta : Nat → Nat) (z : Nat) (S : St) (N : Nat) (qo : Nat) (f : Nat → Int64) (x : Int32) (hI : Inv S) (hN : N + 2000 < 2 ^ 31) (hap : Ap ad 36) (hqo : ¬ Ao ad 36 qo) : Met l yL_clear (wsW_ yL_clear cL_clear 4 (some .int) [(0, 9, 12, 19), (0, 9, 15, 13)]) rmW (va_Pc [.ref (ad 0), .int (x), .ref (qo)] (pzw D [(cI, .int), (cC, .char), (cL, .long)] ta z (fun H => Wc D cI cC ad S N H ∧ va_P D vwCl (ouW cL qo f) H))) (Wq (some (.int (nI (sp_clear S x).1))) (fun H => Wc D cI cC ad (sp_clear S x).2.2 (N + 2000) H ∧ ∃ f9, va_P D vwCl (ouW cL qo f9) H ∧ ((sp_clear S x).1 = 0 → f9 0 = Int32.toInt64 (sp_clear S x).2.1)) (fun q => Ao ad 36 q ∨ q = qo)) 1 6 (fun q => Ao ad 36 q ∨ q = qo) := by
  by_cases hc : (sp_clear S x).1 = 0
  · have hok := ok_clear l D cI cC ad S N x hI hN hap hc
    refine m_startW (by decide) (Nat.le_of_ble_eq_true rfl) ?_
    intro p e s m below meth c hx hb hr hG hown hlocks hml htb hB ls hl
    have hl : lv_has ls 4 [(0, .ref (ad 0)), (1, .int (x)), (2, .ref (qo))] := hl
    obtain ⟨⟨hW, hP⟩, hK, hE, hT, hZ, hX⟩ := hB
    have hS : va_S (fun q => Ao ad 36 q ∨ q = qo) s.heap s.heap [] := va_S.rf
    refine W.widen (k := 1) (n := 6) (by decide) (by decide) ?_
    refine lv_aload_n hx hb dL_clear_0 rfl (lv_at hl 2 rfl) ?_
    refine lv_iconst (v := nI 0) hx hb dL_clear_1 (by decide) ?_
    refine lv_aload_n hx hb dL_clear_2 rfl (lv_at hl 0 rfl) ?_
    refine lv_iload_n hx hb dL_clear_3 rfl (lv_at hl 1 rfl) ?_
    refine k2_V hx hb hml hown hG cs_L_59 hok (by decide) (pzV (hK.sub (tys' := [(cI, .int), (cC, .char)]) [0, 1] rfl) rfl hW.rc hW) rfl hl.1 rfl (Nat.le_of_ble_eq_true rfl) dL_clear_4 ⟨Nat.le_refl _, Nat.le_refl _⟩ rfl hS (fun q h => Or.inl h) (fun H locs hW hz hk hS => ?_)
    have hP := oneK hP (hk qo (va_lt hP (k := 0) rfl) hqo)
    refine lv_i2l (v := Int32.toInt64 ((sp_clear S x).2.1)) hx hb dL_clear_7 rfl ?_
    refine x_last0 hx hb hK hP hS (Or.inr rfl) 2 rfl dL_clear_8 (fun H locs f9 hf hP ho hS => ?_)
    have hW := hW.kept (fun i hi => ho _ (fun e9 => hqo ⟨i, hi, e9.symm⟩))
    refine lv_goto (tgt := 18) hx hb dL_clear_9 (by decide) ?_
    refine lv_iconst (v := nI 0) hx hb dL_clear_18 (by decide) ?_
    exact w_i (by rw [hc]) ⟨hW, f9, hP, fun _ => hf⟩ hS hx hb hr hlocks dL_clear_19
  · obtain ⟨hc1, hc2⟩ := (cd_clear S x).resolve_left hc
    have hxx := xx_clear l hst D cI cC ad ta z S N x hI hc
    rcases (show (sp_clear S x).1 = 1 ∨ (sp_clear S x).1 = 2 from by omega) with hk9 | hk9
    · skip
      rw [hk9] at hxx
      refine m_startW (by decide) (Nat.le_of_ble_eq_true rfl) ?_
      intro p e s m below meth c hx hb hr hG hown hlocks hml htb hB ls hl
      have hl : lv_has ls 4 [(0, .ref (ad 0)), (1, .int (x)), (2, .ref (qo))] := hl
      obtain ⟨⟨hW, hP⟩, hK, hE, hT, hZ, hX⟩ := hB
      refine lv_aload_n hx hb dL_clear_0 rfl (lv_at hl 2 rfl) ?_
      refine lv_iconst (v := nI 0) hx hb dL_clear_1 (by decide) ?_
      refine lv_aload_n hx hb dL_clear_2 rfl (lv_at hl 0 rfl) ?_
      refine lv_iload_n hx hb dL_clear_3 rfl (lv_at hl 1 rfl) ?_
      refine k3_V hx hb hml hown hG cs_L_59 hxx (by decide) (pztV (hK.sub (tys' := [(cI, .int), (cC, .char)]) [0, 1] rfl) hE hT hZ (fun _ _ _ => rfl) rfl hW.rc hW) rfl hl.1 rfl (Nat.le_of_ble_eq_true rfl) dL_clear_4 ⟨Nat.le_refl _, Nat.le_refl _⟩ (fun H1 q9 ce h1 h2 h3 h4 h5 => ?_)
      have h5 : s.vm.findClass "java/lang/IndexOutOfBoundsException" = some ce.cls := h5
      refine vx_catch hown [] ⟨0, 9, 12, 19⟩ [⟨0, 9, 15, 13⟩] (htb.trans rfl) (fun y9 hy9 => nomatch hy9) rfl (by decide) (hG _ cl_L_19) (hE.at _ (List.mem_of_getElem? (i := 3) rfl)) h3 h4 h5 ?_
      refine lv_astore_n (lv' := [(3, .ref (q9)), (0, .ref (ad 0)), (1, .int (x)), (2, .ref (qo))]) hx hb dL_clear_12 rfl hl (by decide) rfl (fun ls hl => ?_)
      refine lv_iconst (v := nI 1) hx hb dL_clear_13 (by decide) ?_
      exact w_i (by rw [hk9]) ⟨by rw [hc2]; exact (hW.kept (fun i hi => h2 _ (hW.lt hi))).mono (by omega), f, oneK hP (h2 _ (va_lt hP (k := 0) rfl)), fun h => absurd h hc⟩ ⟨h1, fun q hq _ => h2 q hq, fun y9 hy9 => nomatch hy9⟩ hx hb hr hlocks dL_clear_14
    · skip
      rw [hk9] at hxx
      refine m_startW (by decide) (Nat.le_of_ble_eq_true rfl) ?_
      intro p e s m below meth c hx hb hr hG hown hlocks hml htb hB ls hl
      have hl : lv_has ls 4 [(0, .ref (ad 0)), (1, .int (x)), (2, .ref (qo))] := hl
      obtain ⟨⟨hW, hP⟩, hK, hE, hT, hZ, hX⟩ := hB
      refine lv_aload_n hx hb dL_clear_0 rfl (lv_at hl 2 rfl) ?_
      refine lv_iconst (v := nI 0) hx hb dL_clear_1 (by decide) ?_
      refine lv_aload_n hx hb dL_clear_2 rfl (lv_at hl 0 rfl) ?_
      refine lv_iload_n hx hb dL_clear_3 rfl (lv_at hl 1 rfl) ?_
      refine k3_V hx hb hml hown hG cs_L_59 hxx (by decide) (pztV (hK.sub (tys' := [(cI, .int), (cC, .char)]) [0, 1] rfl) hE hT hZ (fun _ _ _ => rfl) rfl hW.rc hW) rfl hl.1 rfl (Nat.le_of_ble_eq_true rfl) dL_clear_4 ⟨Nat.le_refl _, Nat.le_refl _⟩ (fun H1 q9 ce h1 h2 h3 h4 h5 => ?_)
      have h5 : s.vm.findClass "java/lang/IllegalArgumentException" = some ce.cls := h5
      refine vx_catch hown [⟨0, 9, 12, 19⟩] ⟨0, 9, 15, 13⟩ [] (htb.trans rfl) (fun y9 hy9 => by
          rcases List.mem_cons.mp hy9 with rfl | hy9
          · exact Or.inr ⟨by decide, "java/lang/IndexOutOfBoundsException", hG _ cl_L_19, hX.1⟩
          nomatch hy9) rfl (by decide) (hG _ cl_L_13) (hE.at _ (List.mem_of_getElem? (i := 4) rfl)) h3 h4 h5 ?_
      refine lv_astore_n (lv' := [(3, .ref (q9)), (0, .ref (ad 0)), (1, .int (x)), (2, .ref (qo))]) hx hb dL_clear_15 rfl hl (by decide) rfl (fun ls hl => ?_)
      refine lv_iconst (v := nI 2) hx hb dL_clear_16 (by decide) ?_
      exact w_i (by rw [hk9]) ⟨by rw [hc2]; exact (hW.kept (fun i hi => h2 _ (hW.lt hi))).mono (by omega), f, oneK hP (h2 _ (va_lt hP (k := 0) rfl)), fun h => absurd h hc⟩ ⟨h1, fun q hq _ => h2 q hq, fun y9 hy9 => nomatch hy9⟩ hx hb hr hlocks dL_clear_17
theorem cd_offer (S : St) (x : Int32) : cdP 1 S (sp_offer S x) := by
  unfold sp_offer 
  repeat' split
  all_goals first | exact Or.inl rfl | exact Or.inr ⟨Nat.le_of_ble_eq_true rfl, rfl⟩
set_option maxHeartbeats 4000000 in
set_option maxRecDepth 100000 in
theorem wr_offer (l : Launch) (hst : l.stackTraces = false) (D : va_G) (cI cC cL : ClassId) (ad ta : Nat → Nat) (z : Nat) (S : St) (N : Nat) (qo : Nat) (f : Nat → Int64) (x : Int32) (hI : Inv S) (hN : N + 2000 < 2 ^ 31) (hap : Ap ad 36) (hqo : ¬ Ao ad 36 qo) : Met l yL_offer (wsW_ yL_offer cL_offer 4 (some .int) [(0, 16, 19, 21)]) rmW (va_Pc [.ref (ad 0), .int (x), .ref (qo)] (pzw D [(cI, .int), (cC, .char), (cL, .long)] ta z (fun H => Wc D cI cC ad S N H ∧ va_P D vwCl (ouW cL qo f) H))) (Wq (some (.int (nI (sp_offer S x).1))) (fun H => Wc D cI cC ad (sp_offer S x).2.2 (N + 2000) H ∧ ∃ f9, va_P D vwCl (ouW cL qo f9) H ∧ ((sp_offer S x).1 = 0 → f9 0 = zl (sp_offer S x).2.1)) (fun q => Ao ad 36 q ∨ q = qo)) 1 6 (fun q => Ao ad 36 q ∨ q = qo) := by
  by_cases hc : (sp_offer S x).1 = 0
  · have hok := ok_offer l D cI cC ad S N x hI hN hap hc
    refine m_startW (by decide) (Nat.le_of_ble_eq_true rfl) ?_
    intro p e s m below meth c hx hb hr hG hown hlocks hml htb hB ls hl
    have hl : lv_has ls 4 [(0, .ref (ad 0)), (1, .int (x)), (2, .ref (qo))] := hl
    obtain ⟨⟨hW, hP⟩, hK, hE, hT, hZ, hX⟩ := hB
    have hS : va_S (fun q => Ao ad 36 q ∨ q = qo) s.heap s.heap [] := va_S.rf
    refine W.widen (k := 1) (n := 6) (by decide) (by decide) ?_
    refine lv_aload_n hx hb dL_offer_0 rfl (lv_at hl 2 rfl) ?_
    refine lv_iconst (v := nI 0) hx hb dL_offer_1 (by decide) ?_
    refine lv_aload_n hx hb dL_offer_2 rfl (lv_at hl 0 rfl) ?_
    refine lv_iload_n hx hb dL_offer_3 rfl (lv_at hl 1 rfl) ?_
    refine k2_V hx hb hml hown hG cs_L_62 hok (by decide) (pzV (hK.sub (tys' := [(cI, .int), (cC, .char)]) [0, 1] rfl) rfl hW.rc hW) rfl hl.1 rfl (Nat.le_of_ble_eq_true rfl) dL_offer_4 ⟨Nat.le_refl _, Nat.le_refl _⟩ rfl hS (fun q h => Or.inl h) (fun H locs hW hz hk hS => ?_)
    have hP := oneK hP (hk qo (va_lt hP (k := 0) rfl) hqo)
    refine x_ifb_eq (tgt := 14) hx hb dL_offer_7 (by decide) (fun c1 => ?_) (fun c1 => ?_)
    · refine lv_lconst (v := lN (0)) hx hb dL_offer_14 (by decide) ?_
      refine x_last0 hx hb hK hP hS (Or.inr rfl) 2 rfl dL_offer_15 (fun H locs f9 hf hP ho hS => ?_)
      have hW := hW.kept (fun i hi => ho _ (fun e9 => hqo ⟨i, hi, e9.symm⟩))
      refine lv_goto (tgt := 22) hx hb dL_offer_16 (by decide) ?_
      refine lv_iconst (v := nI 0) hx hb dL_offer_22 (by decide) ?_
      exact w_i (by rw [hc]) ⟨hW, f9, hP, fun _ => by rw [hf, c1]; rfl⟩ hS hx hb hr hlocks dL_offer_23
    · refine lv_lconst (v := lN (1)) hx hb dL_offer_10 (by decide) ?_
      refine lv_goto (tgt := 15) hx hb dL_offer_11 (by decide) ?_
      refine x_last0 hx hb hK hP hS (Or.inr rfl) 2 rfl dL_offer_15 (fun H locs f9 hf hP ho hS => ?_)
      have hW := hW.kept (fun i hi => ho _ (fun e9 => hqo ⟨i, hi, e9.symm⟩))
      refine lv_goto (tgt := 22) hx hb dL_offer_16 (by decide) ?_
      refine lv_iconst (v := nI 0) hx hb dL_offer_22 (by decide) ?_
      exact w_i (by rw [hc]) ⟨hW, f9, hP, fun _ => by rw [hf, c1]; rfl⟩ hS hx hb hr hlocks dL_offer_23
  · obtain ⟨hc1, hc2⟩ := (cd_offer S x).resolve_left hc
    have hxx := xx_offer l hst D cI cC ad ta z S N x hI hc
    have hk9 : (sp_offer S x).1 = 1 := by omega
    rw [hk9] at hxx
    refine m_startW (by decide) (Nat.le_of_ble_eq_true rfl) ?_
    intro p e s m below meth c hx hb hr hG hown hlocks hml htb hB ls hl
    have hl : lv_has ls 4 [(0, .ref (ad 0)), (1, .int (x)), (2, .ref (qo))] := hl
    obtain ⟨⟨hW, hP⟩, hK, hE, hT, hZ, hX⟩ := hB
    refine lv_aload_n hx hb dL_offer_0 rfl (lv_at hl 2 rfl) ?_
    refine lv_iconst (v := nI 0) hx hb dL_offer_1 (by decide) ?_
    refine lv_aload_n hx hb dL_offer_2 rfl (lv_at hl 0 rfl) ?_
    refine lv_iload_n hx hb dL_offer_3 rfl (lv_at hl 1 rfl) ?_
    refine k3_V hx hb hml hown hG cs_L_62 hxx (by decide) (pztV (hK.sub (tys' := [(cI, .int), (cC, .char)]) [0, 1] rfl) hE hT hZ (fun _ _ _ => rfl) rfl hW.rc hW) rfl hl.1 rfl (Nat.le_of_ble_eq_true rfl) dL_offer_4 ⟨Nat.le_refl _, Nat.le_refl _⟩ (fun H1 q9 ce h1 h2 h3 h4 h5 => ?_)
    have h5 : s.vm.findClass "java/lang/IllegalStateException" = some ce.cls := h5
    refine vx_catch hown [] ⟨0, 16, 19, 21⟩ [] (htb.trans rfl) (fun y9 hy9 => nomatch hy9) rfl (by decide) (hG _ cl_L_21) (hE.at _ (List.mem_of_getElem? (i := 5) rfl)) h3 h4 h5 ?_
    refine lv_astore_n (lv' := [(3, .ref (q9)), (0, .ref (ad 0)), (1, .int (x)), (2, .ref (qo))]) hx hb dL_offer_19 rfl hl (by decide) rfl (fun ls hl => ?_)
    refine lv_iconst (v := nI 1) hx hb dL_offer_20 (by decide) ?_
    exact w_i (by rw [hk9]) ⟨by rw [hc2]; exact (hW.kept (fun i hi => h2 _ (hW.lt hi))).mono (by omega), f, oneK hP (h2 _ (va_lt hP (k := 0) rfl)), fun h => absurd h hc⟩ ⟨h1, fun q hq _ => h2 q hq, fun y9 hy9 => nomatch hy9⟩ hx hb hr hlocks dL_offer_21
theorem cd_poll (S : St) : cdP 1 S (sp_poll S) := by
  unfold sp_poll 
  repeat' split
  all_goals first | exact Or.inl rfl | exact Or.inr ⟨Nat.le_of_ble_eq_true rfl, rfl⟩
set_option maxHeartbeats 4000000 in
set_option maxRecDepth 100000 in
theorem wr_poll (l : Launch) (hst : l.stackTraces = false) (D : va_G) (cI cC cL : ClassId) (ad ta : Nat → Nat) (z : Nat) (S : St) (N : Nat) (qo : Nat) (f : Nat → Int64) (hI : Inv S) (hN : N + 2000 < 2 ^ 31) (hap : Ap ad 36) (hqo : ¬ Ao ad 36 qo) : Met l yL_poll (wsW_ yL_poll cL_poll 3 (some .int) [(0, 8, 11, 44)]) rmW (va_Pc [.ref (ad 0), .ref (qo)] (pzw D [(cI, .int), (cC, .char), (cL, .long)] ta z (fun H => Wc D cI cC ad S N H ∧ va_P D vwCl (ouW cL qo f) H))) (Wq (some (.int (nI (sp_poll S).1))) (fun H => Wc D cI cC ad (sp_poll S).2.2 (N + 2000) H ∧ ∃ f9, va_P D vwCl (ouW cL qo f9) H ∧ ((sp_poll S).1 = 0 → f9 0 = Int32.toInt64 (sp_poll S).2.1)) (fun q => Ao ad 36 q ∨ q = qo)) 1 6 (fun q => Ao ad 36 q ∨ q = qo) := by
  by_cases hc : (sp_poll S).1 = 0
  · have hok := ok_poll l D cI cC ad S N hI hN hap hc
    refine m_startW (by decide) (Nat.le_of_ble_eq_true rfl) ?_
    intro p e s m below meth c hx hb hr hG hown hlocks hml htb hB ls hl
    have hl : lv_has ls 3 [(0, .ref (ad 0)), (1, .ref (qo))] := hl
    obtain ⟨⟨hW, hP⟩, hK, hE, hT, hZ, hX⟩ := hB
    have hS : va_S (fun q => Ao ad 36 q ∨ q = qo) s.heap s.heap [] := va_S.rf
    refine W.widen (k := 1) (n := 6) (by decide) (by decide) ?_
    refine lv_aload_n hx hb dL_poll_0 rfl (lv_at hl 1 rfl) ?_
    refine lv_iconst (v := nI 0) hx hb dL_poll_1 (by decide) ?_
    refine lv_aload_n hx hb dL_poll_2 rfl (lv_at hl 0 rfl) ?_
    refine k2_V hx hb hml hown hG cs_L_66 hok (by decide) (pzV (hK.sub (tys' := [(cI, .int), (cC, .char)]) [0, 1] rfl) rfl hW.rc hW) rfl hl.1 rfl (Nat.le_of_ble_eq_true rfl) dL_poll_3 ⟨Nat.le_refl _, Nat.le_refl _⟩ rfl hS (fun q h => Or.inl h) (fun H locs hW hz hk hS => ?_)
    have hP := oneK hP (hk qo (va_lt hP (k := 0) rfl) hqo)
    refine lv_i2l (v := Int32.toInt64 ((sp_poll S).2.1)) hx hb dL_poll_6 rfl ?_
    refine x_last0 hx hb hK hP hS (Or.inr rfl) 2 rfl dL_poll_7 (fun H locs f9 hf hP ho hS => ?_)
    have hW := hW.kept (fun i hi => ho _ (fun e9 => hqo ⟨i, hi, e9.symm⟩))
    refine lv_goto (tgt := 14) hx hb dL_poll_8 (by decide) ?_
    refine lv_iconst (v := nI 0) hx hb dL_poll_14 (by decide) ?_
    exact w_i (by rw [hc]) ⟨hW, f9, hP, fun _ => hf⟩ hS hx hb hr hlocks dL_poll_15
  · obtain ⟨hc1, hc2⟩ := (cd_poll S).resolve_left hc
    have hxx := xx_poll l hst D cI cC ad ta z S N hI hc
    have hk9 : (sp_poll S).1 = 1 := by omega
    rw [hk9] at hxx
    refine m_startW (by decide) (Nat.le_of_ble_eq_true rfl) ?_
    intro p e s m below meth c hx hb hr hG hown hlocks hml htb hB ls hl
    have hl : lv_has ls 3 [(0, .ref (ad 0)), (1, .ref (qo))] := hl
    obtain ⟨⟨hW, hP⟩, hK, hE, hT, hZ, hX⟩ := hB
    refine lv_aload_n hx hb dL_poll_0 rfl (lv_at hl 1 rfl) ?_
    refine lv_iconst (v := nI 0) hx hb dL_poll_1 (by decide) ?_
    refine lv_aload_n hx hb dL_poll_2 rfl (lv_at hl 0 rfl) ?_
    refine k3_V hx hb hml hown hG cs_L_66 hxx (by decide) (pztV (hK.sub (tys' := [(cI, .int), (cC, .char)]) [0, 1] rfl) hE hT hZ (fun _ _ _ => rfl) rfl hW.rc hW) rfl hl.1 rfl (Nat.le_of_ble_eq_true rfl) dL_poll_3 ⟨Nat.le_refl _, Nat.le_refl _⟩ (fun H1 q9 ce h1 h2 h3 h4 h5 => ?_)
    have h5 : s.vm.findClass "java/util/NoSuchElementException" = some ce.cls := h5
    refine vx_catch hown [] ⟨0, 8, 11, 44⟩ [] (htb.trans rfl) (fun y9 hy9 => nomatch hy9) rfl (by decide) (hG _ cl_L_44) (hE.at _ (List.mem_of_getElem? (i := 6) rfl)) h3 h4 h5 ?_
    refine lv_astore_n (lv' := [(2, .ref (q9)), (0, .ref (ad 0)), (1, .ref (qo))]) hx hb dL_poll_11 rfl hl (by decide) rfl (fun ls hl => ?_)
    refine lv_iconst (v := nI 1) hx hb dL_poll_12 (by decide) ?_
    exact w_i (by rw [hk9]) ⟨by rw [hc2]; exact (hW.kept (fun i hi => h2 _ (hW.lt hi))).mono (by omega), f, oneK hP (h2 _ (va_lt hP (k := 0) rfl)), fun h => absurd h hc⟩ ⟨h1, fun q hq _ => h2 q hq, fun y9 hy9 => nomatch hy9⟩ hx hb hr hlocks dL_poll_13
theorem cd_toEnd (S : St) (x : Int32) : cdP 1 S (sp_toEnd S x) := by
  unfold sp_toEnd 
  repeat' split
  all_goals first | exact Or.inl rfl | exact Or.inr ⟨Nat.le_of_ble_eq_true rfl, rfl⟩
set_option maxHeartbeats 4000000 in
set_option maxRecDepth 100000 in
theorem wr_toEnd (l : Launch) (hst : l.stackTraces = false) (D : va_G) (cI cC cL : ClassId) (ad ta : Nat → Nat) (z : Nat) (S : St) (N : Nat) (qo : Nat) (f : Nat → Int64) (x : Int32) (hI : Inv S) (hN : N + 2000 < 2 ^ 31) (hap : Ap ad 36) (hqo : ¬ Ao ad 36 qo) : Met l yL_toEnd (wsW_ yL_toEnd cL_toEnd 4 (some .int) [(0, 9, 12, 44)]) rmW (va_Pc [.ref (ad 0), .int (x), .ref (qo)] (pzw D [(cI, .int), (cC, .char), (cL, .long)] ta z (fun H => Wc D cI cC ad S N H ∧ va_P D vwCl (ouW cL qo f) H))) (Wq (some (.int (nI (sp_toEnd S x).1))) (fun H => Wc D cI cC ad (sp_toEnd S x).2.2 (N + 2000) H ∧ ∃ f9, va_P D vwCl (ouW cL qo f9) H ∧ ((sp_toEnd S x).1 = 0 → f9 0 = Int32.toInt64 (sp_toEnd S x).2.1)) (fun q => Ao ad 36 q ∨ q = qo)) 1 6 (fun q => Ao ad 36 q ∨ q = qo) := by
  by_cases hc : (sp_toEnd S x).1 = 0
  · have hok := ok_toEnd l D cI cC ad S N x hI hN hap hc
    refine m_startW (by decide) (Nat.le_of_ble_eq_true rfl) ?_
    intro p e s m below meth c hx hb hr hG hown hlocks hml htb hB ls hl
    have hl : lv_has ls 4 [(0, .ref (ad 0)), (1, .int (x)), (2, .ref (qo))] := hl
    obtain ⟨⟨hW, hP⟩, hK, hE, hT, hZ, hX⟩ := hB
    have hS : va_S (fun q => Ao ad 36 q ∨ q = qo) s.heap s.heap [] := va_S.rf
    refine W.widen (k := 1) (n := 6) (by decide) (by decide) ?_
    refine lv_aload_n hx hb dL_toEnd_0 rfl (lv_at hl 2 rfl) ?_
    refine lv_iconst (v := nI 0) hx hb dL_toEnd_1 (by decide) ?_
    refine lv_aload_n hx hb dL_toEnd_2 rfl (lv_at hl 0 rfl) ?_
    refine lv_iload_n hx hb dL_toEnd_3 rfl (lv_at hl 1 rfl) ?_
    refine k2_V hx hb hml hown hG cs_L_70 hok (by decide) (pzV (hK.sub (tys' := [(cI, .int), (cC, .char)]) [0, 1] rfl) rfl hW.rc hW) rfl hl.1 rfl (Nat.le_of_ble_eq_true rfl) dL_toEnd_4 ⟨Nat.le_refl _, Nat.le_refl _⟩ rfl hS (fun q h => Or.inl h) (fun H locs hW hz hk hS => ?_)
    have hP := oneK hP (hk qo (va_lt hP (k := 0) rfl) hqo)
    refine lv_i2l (v := Int32.toInt64 ((sp_toEnd S x).2.1)) hx hb dL_toEnd_7 rfl ?_
    refine x_last0 hx hb hK hP hS (Or.inr rfl) 2 rfl dL_toEnd_8 (fun H locs f9 hf hP ho hS => ?_)
    have hW := hW.kept (fun i hi => ho _ (fun e9 => hqo ⟨i, hi, e9.symm⟩))
    refine lv_goto (tgt := 15) hx hb dL_toEnd_9 (by decide) ?_
    refine lv_iconst (v := nI 0) hx hb dL_toEnd_15 (by decide) ?_
    exact w_i (by rw [hc]) ⟨hW, f9, hP, fun _ => hf⟩ hS hx hb hr hlocks dL_toEnd_16
  · obtain ⟨hc1, hc2⟩ := (cd_toEnd S x).resolve_left hc
    have hxx := xx_toEnd l hst D cI cC ad ta z S N x hI hc
    have hk9 : (sp_toEnd S x).1 = 1 := by omega
    rw [hk9] at hxx
    refine m_startW (by decide) (Nat.le_of_ble_eq_true rfl) ?_
    intro p e s m below meth c hx hb hr hG hown hlocks hml htb hB ls hl
    have hl : lv_has ls 4 [(0, .ref (ad 0)), (1, .int (x)), (2, .ref (qo))] := hl
    obtain ⟨⟨hW, hP⟩, hK, hE, hT, hZ, hX⟩ := hB
    refine lv_aload_n hx hb dL_toEnd_0 rfl (lv_at hl 2 rfl) ?_
    refine lv_iconst (v := nI 0) hx hb dL_toEnd_1 (by decide) ?_
    refine lv_aload_n hx hb dL_toEnd_2 rfl (lv_at hl 0 rfl) ?_
    refine lv_iload_n hx hb dL_toEnd_3 rfl (lv_at hl 1 rfl) ?_
    refine k3_V hx hb hml hown hG cs_L_70 hxx (by decide) (pztV (hK.sub (tys' := [(cI, .int), (cC, .char)]) [0, 1] rfl) hE hT hZ (fun _ _ _ => rfl) rfl hW.rc hW) rfl hl.1 rfl (Nat.le_of_ble_eq_true rfl) dL_toEnd_4 ⟨Nat.le_refl _, Nat.le_refl _⟩ (fun H1 q9 ce h1 h2 h3 h4 h5 => ?_)
    have h5 : s.vm.findClass "java/util/NoSuchElementException" = some ce.cls := h5
    refine vx_catch hown [] ⟨0, 9, 12, 44⟩ [] (htb.trans rfl) (fun y9 hy9 => nomatch hy9) rfl (by decide) (hG _ cl_L_44) (hE.at _ (List.mem_of_getElem? (i := 6) rfl)) h3 h4 h5 ?_
    refine lv_astore_n (lv' := [(3, .ref (q9)), (0, .ref (ad 0)), (1, .int (x)), (2, .ref (qo))]) hx hb dL_toEnd_12 rfl hl (by decide) rfl (fun ls hl => ?_)
    refine lv_iconst (v := nI 1) hx hb dL_toEnd_13 (by decide) ?_
    exact w_i (by rw [hk9]) ⟨by rw [hc2]; exact (hW.kept (fun i hi => h2 _ (hW.lt hi))).mono (by omega), f, oneK hP (h2 _ (va_lt hP (k := 0) rfl)), fun h => absurd h hc⟩ ⟨h1, fun q hq _ => h2 q hq, fun y9 hy9 => nomatch hy9⟩ hx hb hr hlocks dL_toEnd_14
theorem cd_open (S : St) (x y z1 : Int32) : cdP 2 S (sp_open S x y z1) := by
  unfold sp_open 
  repeat' split
  all_goals first | exact Or.inl rfl | exact Or.inr ⟨Nat.le_of_ble_eq_true rfl, rfl⟩
set_option maxHeartbeats 4000000 in
set_option maxRecDepth 100000 in
theorem wr_open (l : Launch) (hst : l.stackTraces = false) (D : va_G) (cI cC cL : ClassId) (ad ta : Nat → Nat) (z : Nat) (S : St) (N : Nat) (qo : Nat) (f : Nat → Int64) (x y z1 : Int32) (hI : Inv S) (hN : N + 2000 < 2 ^ 31) (hap : Ap ad 36) (hqo : ¬ Ao ad 36 qo) : Met l yL_open (wsW_ yL_open cL_open 6 (some .int) [(0, 12, 15, 19), (0, 12, 19, 13)]) rmW (va_Pc [.ref (ad 0), .int (x), .int (y), .int (z1), .ref (qo)] (pzw D [(cI, .int), (cC, .char), (cL, .long)] ta z (fun H => Wc D cI cC ad S N H ∧ va_P D vwCl (ouW cL qo f) H))) (Wq (some (.int (nI (sp_open S x y z1).1))) (fun H => Wc D cI cC ad (sp_open S x y z1).2.2 (N + 2000) H ∧ ∃ f9, va_P D vwCl (ouW cL qo f9) H ∧ ((sp_open S x y z1).1 = 0 → f9 0 = Int32.toInt64 (sp_open S x y z1).2.1)) (fun q => Ao ad 36 q ∨ q = qo)) 1 6 (fun q => Ao ad 36 q ∨ q = qo) := by
  by_cases hc : (sp_open S x y z1).1 = 0
  · have hok := ok_open l D cI cC ad S N x y z1 hI hN hap hc
    refine m_startW (by decide) (Nat.le_of_ble_eq_true rfl) ?_
    intro p e s m below meth c hx hb hr hG hown hlocks hml htb hB ls hl
    have hl : lv_has ls 6 [(0, .ref (ad 0)), (1, .int (x)), (2, .int (y)), (3, .int (z1)), (4, .ref (qo))] := hl
    obtain ⟨⟨hW, hP⟩, hK, hE, hT, hZ, hX⟩ := hB
    have hS : va_S (fun q => Ao ad 36 q ∨ q = qo) s.heap s.heap [] := va_S.rf
    refine W.widen (k := 1) (n := 6) (by decide) (by decide) ?_
    refine lv_aload hx hb dL_open_0 (lv_at hl 4 rfl) ?_
    refine lv_iconst (v := nI 0) hx hb dL_open_2 (by decide) ?_
    refine lv_aload_n hx hb dL_open_3 rfl (lv_at hl 0 rfl) ?_
    refine lv_iload_n hx hb dL_open_4 rfl (lv_at hl 1 rfl) ?_
    refine lv_iload_n hx hb dL_open_5 rfl (lv_at hl 2 rfl) ?_
    refine lv_iload_n hx hb dL_open_6 rfl (lv_at hl 3 rfl) ?_
    refine k2_V hx hb hml hown hG cs_L_73 hok (by decide) (pzV (hK.sub (tys' := [(cI, .int), (cC, .char)]) [0, 1] rfl) rfl hW.rc hW) rfl hl.1 rfl (Nat.le_of_ble_eq_true rfl) dL_open_7 ⟨Nat.le_refl _, Nat.le_refl _⟩ rfl hS (fun q h => Or.inl h) (fun H locs hW hz hk hS => ?_)
    have hP := oneK hP (hk qo (va_lt hP (k := 0) rfl) hqo)
    refine lv_i2l (v := Int32.toInt64 ((sp_open S x y z1).2.1)) hx hb dL_open_10 rfl ?_
    refine x_last0 hx hb hK hP hS (Or.inr rfl) 2 rfl dL_open_11 (fun H locs f9 hf hP ho hS => ?_)
    have hW := hW.kept (fun i hi => ho _ (fun e9 => hqo ⟨i, hi, e9.symm⟩))
    refine lv_goto (tgt := 23) hx hb dL_open_12 (by decide) ?_
    refine lv_iconst (v := nI 0) hx hb dL_open_23 (by decide) ?_
    exact w_i (by rw [hc]) ⟨hW, f9, hP, fun _ => hf⟩ hS hx hb hr hlocks dL_open_24
  · obtain ⟨hc1, hc2⟩ := (cd_open S x y z1).resolve_left hc
    have hxx := xx_open l hst D cI cC ad ta z S N x y z1 hI hc
    rcases (show (sp_open S x y z1).1 = 1 ∨ (sp_open S x y z1).1 = 2 from by omega) with hk9 | hk9
    · skip
      rw [hk9] at hxx
      refine m_startW (by decide) (Nat.le_of_ble_eq_true rfl) ?_
      intro p e s m below meth c hx hb hr hG hown hlocks hml htb hB ls hl
      have hl : lv_has ls 6 [(0, .ref (ad 0)), (1, .int (x)), (2, .int (y)), (3, .int (z1)), (4, .ref (qo))] := hl
      obtain ⟨⟨hW, hP⟩, hK, hE, hT, hZ, hX⟩ := hB
      refine lv_aload hx hb dL_open_0 (lv_at hl 4 rfl) ?_
      refine lv_iconst (v := nI 0) hx hb dL_open_2 (by decide) ?_
      refine lv_aload_n hx hb dL_open_3 rfl (lv_at hl 0 rfl) ?_
      refine lv_iload_n hx hb dL_open_4 rfl (lv_at hl 1 rfl) ?_
      refine lv_iload_n hx hb dL_open_5 rfl (lv_at hl 2 rfl) ?_
      refine lv_iload_n hx hb dL_open_6 rfl (lv_at hl 3 rfl) ?_
      refine k3_V hx hb hml hown hG cs_L_73 hxx (by decide) (pztV (hK.sub (tys' := [(cI, .int), (cC, .char)]) [0, 1] rfl) hE hT hZ (fun _ _ _ => rfl) rfl hW.rc hW) rfl hl.1 rfl (Nat.le_of_ble_eq_true rfl) dL_open_7 ⟨Nat.le_refl _, Nat.le_refl _⟩ (fun H1 q9 ce h1 h2 h3 h4 h5 => ?_)
      have h5 : s.vm.findClass "java/lang/IndexOutOfBoundsException" = some ce.cls := h5
      refine vx_catch hown [] ⟨0, 12, 15, 19⟩ [⟨0, 12, 19, 13⟩] (htb.trans rfl) (fun y9 hy9 => nomatch hy9) rfl (by decide) (hG _ cl_L_19) (hE.at _ (List.mem_of_getElem? (i := 3) rfl)) h3 h4 h5 ?_
      refine lv_astore (lv' := [(5, .ref (q9)), (0, .ref (ad 0)), (1, .int (x)), (2, .int (y)), (3, .int (z1)), (4, .ref (qo))]) hx hb dL_open_15 hl (by decide) rfl (fun ls hl => ?_)
      refine lv_iconst (v := nI 1) hx hb dL_open_17 (by decide) ?_
      exact w_i (by rw [hk9]) ⟨by rw [hc2]; exact (hW.kept (fun i hi => h2 _ (hW.lt hi))).mono (by omega), f, oneK hP (h2 _ (va_lt hP (k := 0) rfl)), fun h => absurd h hc⟩ ⟨h1, fun q hq _ => h2 q hq, fun y9 hy9 => nomatch hy9⟩ hx hb hr hlocks dL_open_18
    · skip
      rw [hk9] at hxx
      refine m_startW (by decide) (Nat.le_of_ble_eq_true rfl) ?_
      intro p e s m below meth c hx hb hr hG hown hlocks hml htb hB ls hl
      have hl : lv_has ls 6 [(0, .ref (ad 0)), (1, .int (x)), (2, .int (y)), (3, .int (z1)), (4, .ref (qo))] := hl
      obtain ⟨⟨hW, hP⟩, hK, hE, hT, hZ, hX⟩ := hB
      refine lv_aload hx hb dL_open_0 (lv_at hl 4 rfl) ?_
      refine lv_iconst (v := nI 0) hx hb dL_open_2 (by decide) ?_
      refine lv_aload_n hx hb dL_open_3 rfl (lv_at hl 0 rfl) ?_
      refine lv_iload_n hx hb dL_open_4 rfl (lv_at hl 1 rfl) ?_
      refine lv_iload_n hx hb dL_open_5 rfl (lv_at hl 2 rfl) ?_
      refine lv_iload_n hx hb dL_open_6 rfl (lv_at hl 3 rfl) ?_
      refine k3_V hx hb hml hown hG cs_L_73 hxx (by decide) (pztV (hK.sub (tys' := [(cI, .int), (cC, .char)]) [0, 1] rfl) hE hT hZ (fun _ _ _ => rfl) rfl hW.rc hW) rfl hl.1 rfl (Nat.le_of_ble_eq_true rfl) dL_open_7 ⟨Nat.le_refl _, Nat.le_refl _⟩ (fun H1 q9 ce h1 h2 h3 h4 h5 => ?_)
      have h5 : s.vm.findClass "java/lang/IllegalArgumentException" = some ce.cls := h5
      refine vx_catch hown [⟨0, 12, 15, 19⟩] ⟨0, 12, 19, 13⟩ [] (htb.trans rfl) (fun y9 hy9 => by
          rcases List.mem_cons.mp hy9 with rfl | hy9
          · exact Or.inr ⟨by decide, "java/lang/IndexOutOfBoundsException", hG _ cl_L_19, hX.1⟩
          nomatch hy9) rfl (by decide) (hG _ cl_L_13) (hE.at _ (List.mem_of_getElem? (i := 4) rfl)) h3 h4 h5 ?_
      refine lv_astore (lv' := [(5, .ref (q9)), (0, .ref (ad 0)), (1, .int (x)), (2, .int (y)), (3, .int (z1)), (4, .ref (qo))]) hx hb dL_open_19 hl (by decide) rfl (fun ls hl => ?_)
      refine lv_iconst (v := nI 2) hx hb dL_open_21 (by decide) ?_
      exact w_i (by rw [hk9]) ⟨by rw [hc2]; exact (hW.kept (fun i hi => h2 _ (hW.lt hi))).mono (by omega), f, oneK hP (h2 _ (va_lt hP (k := 0) rfl)), fun h => absurd h hc⟩ ⟨h1, fun q hq _ => h2 q hq, fun y9 hy9 => nomatch hy9⟩ hx hb hr hlocks dL_open_22
theorem cd_hasNext (S : St) (x : Int32) : cdP 2 S (sp_hasNext S x) := by
  unfold sp_hasNext 
  repeat' split
  all_goals first | exact Or.inl rfl | exact Or.inr ⟨Nat.le_of_ble_eq_true rfl, rfl⟩
set_option maxHeartbeats 4000000 in
set_option maxRecDepth 100000 in
theorem wr_hasNext (l : Launch) (hst : l.stackTraces = false) (D : va_G) (cI cC cL : ClassId) (ad ta : Nat → Nat) (z : Nat) (S : St) (N : Nat) (qo : Nat) (f : Nat → Int64) (x : Int32) (hI : Inv S) (hN : N + 2000 < 2 ^ 31) (hap : Ap ad 36) (hqo : ¬ Ao ad 36 qo) : Met l yL_hasNext (wsW_ yL_hasNext cL_hasNext 4 (some .int) [(0, 16, 19, 19), (0, 16, 22, 21)]) rmW (va_Pc [.ref (ad 0), .int (x), .ref (qo)] (pzw D [(cI, .int), (cC, .char), (cL, .long)] ta z (fun H => Wc D cI cC ad S N H ∧ va_P D vwCl (ouW cL qo f) H))) (Wq (some (.int (nI (sp_hasNext S x).1))) (fun H => Wc D cI cC ad (sp_hasNext S x).2.2 (N + 2000) H ∧ ∃ f9, va_P D vwCl (ouW cL qo f9) H ∧ ((sp_hasNext S x).1 = 0 → f9 0 = zl (sp_hasNext S x).2.1)) (fun q => Ao ad 36 q ∨ q = qo)) 1 6 (fun q => Ao ad 36 q ∨ q = qo) := by
  by_cases hc : (sp_hasNext S x).1 = 0
  · have hok := ok_hasNext l D cI cC ad S N x hI hN hap hc
    refine m_startW (by decide) (Nat.le_of_ble_eq_true rfl) ?_
    intro p e s m below meth c hx hb hr hG hown hlocks hml htb hB ls hl
    have hl : lv_has ls 4 [(0, .ref (ad 0)), (1, .int (x)), (2, .ref (qo))] := hl
    obtain ⟨⟨hW, hP⟩, hK, hE, hT, hZ, hX⟩ := hB
    have hS : va_S (fun q => Ao ad 36 q ∨ q = qo) s.heap s.heap [] := va_S.rf
    refine W.widen (k := 1) (n := 6) (by decide) (by decide) ?_
    refine lv_aload_n hx hb dL_hasNext_0 rfl (lv_at hl 2 rfl) ?_
    refine lv_iconst (v := nI 0) hx hb dL_hasNext_1 (by decide) ?_
    refine lv_aload_n hx hb dL_hasNext_2 rfl (lv_at hl 0 rfl) ?_
    refine lv_iload_n hx hb dL_hasNext_3 rfl (lv_at hl 1 rfl) ?_
    refine k2_V hx hb hml hown hG cs_L_76 hok (by decide) (pzV (hK.sub (tys' := [(cI, .int), (cC, .char)]) [0, 1] rfl) rfl hW.rc hW) rfl hl.1 rfl (Nat.le_of_ble_eq_true rfl) dL_hasNext_4 ⟨Nat.le_refl _, Nat.le_refl _⟩ rfl hS (fun q h => Or.inl h) (fun H locs hW hz hk hS => ?_)
    have hP := oneK hP (hk qo (va_lt hP (k := 0) rfl) hqo)
    refine x_ifb_eq (tgt := 14) hx hb dL_hasNext_7 (by decide) (fun c1 => ?_) (fun c1 => ?_)
    · refine lv_lconst (v := lN (0)) hx hb dL_hasNext_14 (by decide) ?_
      refine x_last0 hx hb hK hP hS (Or.inr rfl) 2 rfl dL_hasNext_15 (fun H locs f9 hf hP ho hS => ?_)
      have hW := hW.kept (fun i hi => ho _ (fun e9 => hqo ⟨i, hi, e9.symm⟩))
      refine lv_goto (tgt := 25) hx hb dL_hasNext_16 (by decide) ?_
      refine lv_iconst (v := nI 0) hx hb dL_hasNext_25 (by decide) ?_
      exact w_i (by rw [hc]) ⟨hW, f9, hP, fun _ => by rw [hf, c1]; rfl⟩ hS hx hb hr hlocks dL_hasNext_26
    · refine lv_lconst (v := lN (1)) hx hb dL_hasNext_10 (by decide) ?_
      refine lv_goto (tgt := 15) hx hb dL_hasNext_11 (by decide) ?_
      refine x_last0 hx hb hK hP hS (Or.inr rfl) 2 rfl dL_hasNext_15 (fun H locs f9 hf hP ho hS => ?_)
      have hW := hW.kept (fun i hi => ho _ (fun e9 => hqo ⟨i, hi, e9.symm⟩))
      refine lv_goto (tgt := 25) hx hb dL_hasNext_16 (by decide) ?_
      refine lv_iconst (v := nI 0) hx hb dL_hasNext_25 (by decide) ?_
      exact w_i (by rw [hc]) ⟨hW, f9, hP, fun _ => by rw [hf, c1]; rfl⟩ hS hx hb hr hlocks dL_hasNext_26
  · obtain ⟨hc1, hc2⟩ := (cd_hasNext S x).resolve_left hc
    have hxx := xx_hasNext l hst D cI cC ad ta z S N x hI hc
    rcases (show (sp_hasNext S x).1 = 1 ∨ (sp_hasNext S x).1 = 2 from by omega) with hk9 | hk9
    · skip
      rw [hk9] at hxx
      refine m_startW (by decide) (Nat.le_of_ble_eq_true rfl) ?_
      intro p e s m below meth c hx hb hr hG hown hlocks hml htb hB ls hl
      have hl : lv_has ls 4 [(0, .ref (ad 0)), (1, .int (x)), (2, .ref (qo))] := hl
      obtain ⟨⟨hW, hP⟩, hK, hE, hT, hZ, hX⟩ := hB
      refine lv_aload_n hx hb dL_hasNext_0 rfl (lv_at hl 2 rfl) ?_
      refine lv_iconst (v := nI 0) hx hb dL_hasNext_1 (by decide) ?_
      refine lv_aload_n hx hb dL_hasNext_2 rfl (lv_at hl 0 rfl) ?_
      refine lv_iload_n hx hb dL_hasNext_3 rfl (lv_at hl 1 rfl) ?_
      refine k3_V hx hb hml hown hG cs_L_76 hxx (by decide) (pztV (hK.sub (tys' := [(cI, .int), (cC, .char)]) [0, 1] rfl) hE hT hZ (fun _ _ _ => rfl) rfl hW.rc hW) rfl hl.1 rfl (Nat.le_of_ble_eq_true rfl) dL_hasNext_4 ⟨Nat.le_refl _, Nat.le_refl _⟩ (fun H1 q9 ce h1 h2 h3 h4 h5 => ?_)
      have h5 : s.vm.findClass "java/lang/IndexOutOfBoundsException" = some ce.cls := h5
      refine vx_catch hown [] ⟨0, 16, 19, 19⟩ [⟨0, 16, 22, 21⟩] (htb.trans rfl) (fun y9 hy9 => nomatch hy9) rfl (by decide) (hG _ cl_L_19) (hE.at _ (List.mem_of_getElem? (i := 3) rfl)) h3 h4 h5 ?_
      refine lv_astore_n (lv' := [(3, .ref (q9)), (0, .ref (ad 0)), (1, .int (x)), (2, .ref (qo))]) hx hb dL_hasNext_19 rfl hl (by decide) rfl (fun ls hl => ?_)
      refine lv_iconst (v := nI 1) hx hb dL_hasNext_20 (by decide) ?_
      exact w_i (by rw [hk9]) ⟨by rw [hc2]; exact (hW.kept (fun i hi => h2 _ (hW.lt hi))).mono (by omega), f, oneK hP (h2 _ (va_lt hP (k := 0) rfl)), fun h => absurd h hc⟩ ⟨h1, fun q hq _ => h2 q hq, fun y9 hy9 => nomatch hy9⟩ hx hb hr hlocks dL_hasNext_21
    · skip
      rw [hk9] at hxx
      refine m_startW (by decide) (Nat.le_of_ble_eq_true rfl) ?_
      intro p e s m below meth c hx hb hr hG hown hlocks hml htb hB ls hl
      have hl : lv_has ls 4 [(0, .ref (ad 0)), (1, .int (x)), (2, .ref (qo))] := hl
      obtain ⟨⟨hW, hP⟩, hK, hE, hT, hZ, hX⟩ := hB
      refine lv_aload_n hx hb dL_hasNext_0 rfl (lv_at hl 2 rfl) ?_
      refine lv_iconst (v := nI 0) hx hb dL_hasNext_1 (by decide) ?_
      refine lv_aload_n hx hb dL_hasNext_2 rfl (lv_at hl 0 rfl) ?_
      refine lv_iload_n hx hb dL_hasNext_3 rfl (lv_at hl 1 rfl) ?_
      refine k3_V hx hb hml hown hG cs_L_76 hxx (by decide) (pztV (hK.sub (tys' := [(cI, .int), (cC, .char)]) [0, 1] rfl) hE hT hZ (fun _ _ _ => rfl) rfl hW.rc hW) rfl hl.1 rfl (Nat.le_of_ble_eq_true rfl) dL_hasNext_4 ⟨Nat.le_refl _, Nat.le_refl _⟩ (fun H1 q9 ce h1 h2 h3 h4 h5 => ?_)
      have h5 : s.vm.findClass "java/lang/IllegalStateException" = some ce.cls := h5
      refine vx_catch hown [⟨0, 16, 19, 19⟩] ⟨0, 16, 22, 21⟩ [] (htb.trans rfl) (fun y9 hy9 => by
          rcases List.mem_cons.mp hy9 with rfl | hy9
          · exact Or.inr ⟨by decide, "java/lang/IndexOutOfBoundsException", hG _ cl_L_19, hX.2.1⟩
          nomatch hy9) rfl (by decide) (hG _ cl_L_21) (hE.at _ (List.mem_of_getElem? (i := 5) rfl)) h3 h4 h5 ?_
      refine lv_astore_n (lv' := [(3, .ref (q9)), (0, .ref (ad 0)), (1, .int (x)), (2, .ref (qo))]) hx hb dL_hasNext_22 rfl hl (by decide) rfl (fun ls hl => ?_)
      refine lv_iconst (v := nI 2) hx hb dL_hasNext_23 (by decide) ?_
      exact w_i (by rw [hk9]) ⟨by rw [hc2]; exact (hW.kept (fun i hi => h2 _ (hW.lt hi))).mono (by omega), f, oneK hP (h2 _ (va_lt hP (k := 0) rfl)), fun h => absurd h hc⟩ ⟨h1, fun q hq _ => h2 q hq, fun y9 hy9 => nomatch hy9⟩ hx hb hr hlocks dL_hasNext_24
theorem cd_next (S : St) (x : Int32) : cdP 3 S (sp_next S x) := by
  unfold sp_next 
  repeat' split
  all_goals first | exact Or.inl rfl | exact Or.inr ⟨Nat.le_of_ble_eq_true rfl, rfl⟩
set_option maxHeartbeats 4000000 in
set_option maxRecDepth 100000 in
theorem wr_next (l : Launch) (hst : l.stackTraces = false) (D : va_G) (cI cC cL : ClassId) (ad ta : Nat → Nat) (z : Nat) (S : St) (N : Nat) (qo : Nat) (f : Nat → Int64) (x : Int32) (hI : Inv S) (hN : N + 2000 < 2 ^ 31) (hap : Ap ad 36) (hqo : ¬ Ao ad 36 qo) : Met l yL_next (wsW_ yL_next cL_next 4 (some .int) [(0, 9, 12, 19), (0, 9, 15, 21), (0, 9, 18, 44)]) rmW (va_Pc [.ref (ad 0), .int (x), .ref (qo)] (pzw D [(cI, .int), (cC, .char), (cL, .long)] ta z (fun H => Wc D cI cC ad S N H ∧ va_P D vwCl (ouW cL qo f) H))) (Wq (some (.int (nI (sp_next S x).1))) (fun H => Wc D cI cC ad (sp_next S x).2.2 (N + 2000) H ∧ ∃ f9, va_P D vwCl (ouW cL qo f9) H ∧ ((sp_next S x).1 = 0 → f9 0 = Int32.toInt64 (sp_next S x).2.1)) (fun q => Ao ad 36 q ∨ q = qo)) 1 6 (fun q => Ao ad 36 q ∨ q = qo) := by
  by_cases hc : (sp_next S x).1 = 0
  · have hok := ok_next l D cI cC ad S N x hI hN hap hc
    refine m_startW (by decide) (Nat.le_of_ble_eq_true rfl) ?_
    intro p e s m below meth c hx hb hr hG hown hlocks hml htb hB ls hl
    have hl : lv_has ls 4 [(0, .ref (ad 0)), (1, .int (x)), (2, .ref (qo))] := hl
    obtain ⟨⟨hW, hP⟩, hK, hE, hT, hZ, hX⟩ := hB
    have hS : va_S (fun q => Ao ad 36 q ∨ q = qo) s.heap s.heap [] := va_S.rf
    refine W.widen (k := 1) (n := 6) (by decide) (by decide) ?_
    refine lv_aload_n hx hb dL_next_0 rfl (lv_at hl 2 rfl) ?_
    refine lv_iconst (v := nI 0) hx hb dL_next_1 (by decide) ?_
    refine lv_aload_n hx hb dL_next_2 rfl (lv_at hl 0 rfl) ?_
    refine lv_iload_n hx hb dL_next_3 rfl (lv_at hl 1 rfl) ?_
    refine k2_V hx hb hml hown hG cs_L_79 hok (by decide) (pzV (hK.sub (tys' := [(cI, .int), (cC, .char)]) [0, 1] rfl) rfl hW.rc hW) rfl hl.1 rfl (Nat.le_of_ble_eq_true rfl) dL_next_4 ⟨Nat.le_refl _, Nat.le_refl _⟩ rfl hS (fun q h => Or.inl h) (fun H locs hW hz hk hS => ?_)
    have hP := oneK hP (hk qo (va_lt hP (k := 0) rfl) hqo)
    refine lv_i2l (v := Int32.toInt64 ((sp_next S x).2.1)) hx hb dL_next_7 rfl ?_
    refine x_last0 hx hb hK hP hS (Or.inr rfl) 2 rfl dL_next_8 (fun H locs f9 hf hP ho hS => ?_)
    have hW := hW.kept (fun i hi => ho _ (fun e9 => hqo ⟨i, hi, e9.symm⟩))
    refine lv_goto (tgt := 21) hx hb dL_next_9 (by decide) ?_
    refine lv_iconst (v := nI 0) hx hb dL_next_21 (by decide) ?_
    exact w_i (by rw [hc]) ⟨hW, f9, hP, fun _ => hf⟩ hS hx hb hr hlocks dL_next_22
  · obtain ⟨hc1, hc2⟩ := (cd_next S x).resolve_left hc
    have hxx := xx_next l hst D cI cC ad ta z S N x hI hc
    rcases (show (sp_next S x).1 = 1 ∨ (sp_next S x).1 = 2 ∨ (sp_next S x).1 = 3 from by omega) with hk9 | hk9 | hk9
    · skip
      rw [hk9] at hxx
      refine m_startW (by decide) (Nat.le_of_ble_eq_true rfl) ?_
      intro p e s m below meth c hx hb hr hG hown hlocks hml htb hB ls hl
      have hl : lv_has ls 4 [(0, .ref (ad 0)), (1, .int (x)), (2, .ref (qo))] := hl
      obtain ⟨⟨hW, hP⟩, hK, hE, hT, hZ, hX⟩ := hB
      refine lv_aload_n hx hb dL_next_0 rfl (lv_at hl 2 rfl) ?_
      refine lv_iconst (v := nI 0) hx hb dL_next_1 (by decide) ?_
      refine lv_aload_n hx hb dL_next_2 rfl (lv_at hl 0 rfl) ?_
      refine lv_iload_n hx hb dL_next_3 rfl (lv_at hl 1 rfl) ?_
      refine k3_V hx hb hml hown hG cs_L_79 hxx (by decide) (pztV (hK.sub (tys' := [(cI, .int), (cC, .char)]) [0, 1] rfl) hE hT hZ (fun _ _ _ => rfl) rfl hW.rc hW) rfl hl.1 rfl (Nat.le_of_ble_eq_true rfl) dL_next_4 ⟨Nat.le_refl _, Nat.le_refl _⟩ (fun H1 q9 ce h1 h2 h3 h4 h5 => ?_)
      have h5 : s.vm.findClass "java/lang/IndexOutOfBoundsException" = some ce.cls := h5
      refine vx_catch hown [] ⟨0, 9, 12, 19⟩ [⟨0, 9, 15, 21⟩, ⟨0, 9, 18, 44⟩] (htb.trans rfl) (fun y9 hy9 => nomatch hy9) rfl (by decide) (hG _ cl_L_19) (hE.at _ (List.mem_of_getElem? (i := 3) rfl)) h3 h4 h5 ?_
      refine lv_astore_n (lv' := [(3, .ref (q9)), (0, .ref (ad 0)), (1, .int (x)), (2, .ref (qo))]) hx hb dL_next_12 rfl hl (by decide) rfl (fun ls hl => ?_)
      refine lv_iconst (v := nI 1) hx hb dL_next_13 (by decide) ?_
      exact w_i (by rw [hk9]) ⟨by rw [hc2]; exact (hW.kept (fun i hi => h2 _ (hW.lt hi))).mono (by omega), f, oneK hP (h2 _ (va_lt hP (k := 0) rfl)), fun h => absurd h hc⟩ ⟨h1, fun q hq _ => h2 q hq, fun y9 hy9 => nomatch hy9⟩ hx hb hr hlocks dL_next_14
    · skip
      rw [hk9] at hxx
      refine m_startW (by decide) (Nat.le_of_ble_eq_true rfl) ?_
      intro p e s m below meth c hx hb hr hG hown hlocks hml htb hB ls hl
      have hl : lv_has ls 4 [(0, .ref (ad 0)), (1, .int (x)), (2, .ref (qo))] := hl
      obtain ⟨⟨hW, hP⟩, hK, hE, hT, hZ, hX⟩ := hB
      refine lv_aload_n hx hb dL_next_0 rfl (lv_at hl 2 rfl) ?_
      refine lv_iconst (v := nI 0) hx hb dL_next_1 (by decide) ?_
      refine lv_aload_n hx hb dL_next_2 rfl (lv_at hl 0 rfl) ?_
      refine lv_iload_n hx hb dL_next_3 rfl (lv_at hl 1 rfl) ?_
      refine k3_V hx hb hml hown hG cs_L_79 hxx (by decide) (pztV (hK.sub (tys' := [(cI, .int), (cC, .char)]) [0, 1] rfl) hE hT hZ (fun _ _ _ => rfl) rfl hW.rc hW) rfl hl.1 rfl (Nat.le_of_ble_eq_true rfl) dL_next_4 ⟨Nat.le_refl _, Nat.le_refl _⟩ (fun H1 q9 ce h1 h2 h3 h4 h5 => ?_)
      have h5 : s.vm.findClass "java/lang/IllegalStateException" = some ce.cls := h5
      refine vx_catch hown [⟨0, 9, 12, 19⟩] ⟨0, 9, 15, 21⟩ [⟨0, 9, 18, 44⟩] (htb.trans rfl) (fun y9 hy9 => by
          rcases List.mem_cons.mp hy9 with rfl | hy9
          · exact Or.inr ⟨by decide, "java/lang/IndexOutOfBoundsException", hG _ cl_L_19, hX.2.1⟩
          nomatch hy9) rfl (by decide) (hG _ cl_L_21) (hE.at _ (List.mem_of_getElem? (i := 5) rfl)) h3 h4 h5 ?_
      refine lv_astore_n (lv' := [(3, .ref (q9)), (0, .ref (ad 0)), (1, .int (x)), (2, .ref (qo))]) hx hb dL_next_15 rfl hl (by decide) rfl (fun ls hl => ?_)
      refine lv_iconst (v := nI 2) hx hb dL_next_16 (by decide) ?_
      exact w_i (by rw [hk9]) ⟨by rw [hc2]; exact (hW.kept (fun i hi => h2 _ (hW.lt hi))).mono (by omega), f, oneK hP (h2 _ (va_lt hP (k := 0) rfl)), fun h => absurd h hc⟩ ⟨h1, fun q hq _ => h2 q hq, fun y9 hy9 => nomatch hy9⟩ hx hb hr hlocks dL_next_17
    · skip
      rw [hk9] at hxx
      refine m_startW (by decide) (Nat.le_of_ble_eq_true rfl) ?_
      intro p e s m below meth c hx hb hr hG hown hlocks hml htb hB ls hl
      have hl : lv_has ls 4 [(0, .ref (ad 0)), (1, .int (x)), (2, .ref (qo))] := hl
      obtain ⟨⟨hW, hP⟩, hK, hE, hT, hZ, hX⟩ := hB
      refine lv_aload_n hx hb dL_next_0 rfl (lv_at hl 2 rfl) ?_
      refine lv_iconst (v := nI 0) hx hb dL_next_1 (by decide) ?_
      refine lv_aload_n hx hb dL_next_2 rfl (lv_at hl 0 rfl) ?_
      refine lv_iload_n hx hb dL_next_3 rfl (lv_at hl 1 rfl) ?_
      refine k3_V hx hb hml hown hG cs_L_79 hxx (by decide) (pztV (hK.sub (tys' := [(cI, .int), (cC, .char)]) [0, 1] rfl) hE hT hZ (fun _ _ _ => rfl) rfl hW.rc hW) rfl hl.1 rfl (Nat.le_of_ble_eq_true rfl) dL_next_4 ⟨Nat.le_refl _, Nat.le_refl _⟩ (fun H1 q9 ce h1 h2 h3 h4 h5 => ?_)
      have h5 : s.vm.findClass "java/util/NoSuchElementException" = some ce.cls := h5
      refine vx_catch hown [⟨0, 9, 12, 19⟩, ⟨0, 9, 15, 21⟩] ⟨0, 9, 18, 44⟩ [] (htb.trans rfl) (fun y9 hy9 => by
          rcases List.mem_cons.mp hy9 with rfl | hy9
          · exact Or.inr ⟨by decide, "java/lang/IndexOutOfBoundsException", hG _ cl_L_19, hX.2.2.2.1⟩
          rcases List.mem_cons.mp hy9 with rfl | hy9
          · exact Or.inr ⟨by decide, "java/lang/IllegalStateException", hG _ cl_L_21, hX.2.2.2.2.2⟩
          nomatch hy9) rfl (by decide) (hG _ cl_L_44) (hE.at _ (List.mem_of_getElem? (i := 6) rfl)) h3 h4 h5 ?_
      refine lv_astore_n (lv' := [(3, .ref (q9)), (0, .ref (ad 0)), (1, .int (x)), (2, .ref (qo))]) hx hb dL_next_18 rfl hl (by decide) rfl (fun ls hl => ?_)
      refine lv_iconst (v := nI 3) hx hb dL_next_19 (by decide) ?_
      exact w_i (by rw [hk9]) ⟨by rw [hc2]; exact (hW.kept (fun i hi => h2 _ (hW.lt hi))).mono (by omega), f, oneK hP (h2 _ (va_lt hP (k := 0) rfl)), fun h => absurd h hc⟩ ⟨h1, fun q hq _ => h2 q hq, fun y9 hy9 => nomatch hy9⟩ hx hb hr hlocks dL_next_20
theorem cd_removeAt (S : St) (x : Int32) : cdP 2 S (sp_removeAt S x) := by
  unfold sp_removeAt 
  repeat' split
  all_goals first | exact Or.inl rfl | exact Or.inr ⟨Nat.le_of_ble_eq_true rfl, rfl⟩
set_option maxHeartbeats 4000000 in
set_option maxRecDepth 100000 in
theorem wr_removeAt (l : Launch) (hst : l.stackTraces = false) (D : va_G) (cI cC cL : ClassId) (ad ta : Nat → Nat) (z : Nat) (S : St) (N : Nat) (qo : Nat) (f : Nat → Int64) (x : Int32) (hI : Inv S) (hN : N + 2000 < 2 ^ 31) (hap : Ap ad 36) (hqo : ¬ Ao ad 36 qo) : Met l yL_removeAt (wsW_ yL_removeAt cL_removeAt 4 (some .int) [(0, 9, 12, 19), (0, 9, 15, 21)]) rmW (va_Pc [.ref (ad 0), .int (x), .ref (qo)] (pzw D [(cI, .int), (cC, .char), (cL, .long)] ta z (fun H => Wc D cI cC ad S N H ∧ va_P D vwCl (ouW cL qo f) H))) (Wq (some (.int (nI (sp_removeAt S x).1))) (fun H => Wc D cI cC ad (sp_removeAt S x).2.2 (N + 2000) H ∧ ∃ f9, va_P D vwCl (ouW cL qo f9) H ∧ ((sp_removeAt S x).1 = 0 → f9 0 = Int32.toInt64 (sp_removeAt S x).2.1)) (fun q => Ao ad 36 q ∨ q = qo)) 1 6 (fun q => Ao ad 36 q ∨ q = qo) := by
  by_cases hc : (sp_removeAt S x).1 = 0
  · have hok := ok_removeAt l D cI cC ad S N x hI hN hap hc
    refine m_startW (by decide) (Nat.le_of_ble_eq_true rfl) ?_
    intro p e s m below meth c hx hb hr hG hown hlocks hml htb hB ls hl
    have hl : lv_has ls 4 [(0, .ref (ad 0)), (1, .int (x)), (2, .ref (qo))] := hl
    obtain ⟨⟨hW, hP⟩, hK, hE, hT, hZ, hX⟩ := hB
    have hS : va_S (fun q => Ao ad 36 q ∨ q = qo) s.heap s.heap [] := va_S.rf
    refine W.widen (k := 1) (n := 6) (by decide) (by decide) ?_
    refine lv_aload_n hx hb dL_removeAt_0 rfl (lv_at hl 2 rfl) ?_
    refine lv_iconst (v := nI 0) hx hb dL_removeAt_1 (by decide) ?_
    refine lv_aload_n hx hb dL_removeAt_2 rfl (lv_at hl 0 rfl) ?_
    refine lv_iload_n hx hb dL_removeAt_3 rfl (lv_at hl 1 rfl) ?_
    refine k2_V hx hb hml hown hG cs_L_82 hok (by decide) (pzV (hK.sub (tys' := [(cI, .int), (cC, .char)]) [0, 1] rfl) rfl hW.rc hW) rfl hl.1 rfl (Nat.le_of_ble_eq_true rfl) dL_removeAt_4 ⟨Nat.le_refl _, Nat.le_refl _⟩ rfl hS (fun q h => Or.inl h) (fun H locs hW hz hk hS => ?_)
    have hP := oneK hP (hk qo (va_lt hP (k := 0) rfl) hqo)
    refine lv_i2l (v := Int32.toInt64 ((sp_removeAt S x).2.1)) hx hb dL_removeAt_7 rfl ?_
    refine x_last0 hx hb hK hP hS (Or.inr rfl) 2 rfl dL_removeAt_8 (fun H locs f9 hf hP ho hS => ?_)
    have hW := hW.kept (fun i hi => ho _ (fun e9 => hqo ⟨i, hi, e9.symm⟩))
    refine lv_goto (tgt := 18) hx hb dL_removeAt_9 (by decide) ?_
    refine lv_iconst (v := nI 0) hx hb dL_removeAt_18 (by decide) ?_
    exact w_i (by rw [hc]) ⟨hW, f9, hP, fun _ => hf⟩ hS hx hb hr hlocks dL_removeAt_19
  · obtain ⟨hc1, hc2⟩ := (cd_removeAt S x).resolve_left hc
    have hxx := xx_removeAt l hst D cI cC ad ta z S N x hI hc
    rcases (show (sp_removeAt S x).1 = 1 ∨ (sp_removeAt S x).1 = 2 from by omega) with hk9 | hk9
    · skip
      rw [hk9] at hxx
      refine m_startW (by decide) (Nat.le_of_ble_eq_true rfl) ?_
      intro p e s m below meth c hx hb hr hG hown hlocks hml htb hB ls hl
      have hl : lv_has ls 4 [(0, .ref (ad 0)), (1, .int (x)), (2, .ref (qo))] := hl
      obtain ⟨⟨hW, hP⟩, hK, hE, hT, hZ, hX⟩ := hB
      refine lv_aload_n hx hb dL_removeAt_0 rfl (lv_at hl 2 rfl) ?_
      refine lv_iconst (v := nI 0) hx hb dL_removeAt_1 (by decide) ?_
      refine lv_aload_n hx hb dL_removeAt_2 rfl (lv_at hl 0 rfl) ?_
      refine lv_iload_n hx hb dL_removeAt_3 rfl (lv_at hl 1 rfl) ?_
      refine k3_V hx hb hml hown hG cs_L_82 hxx (by decide) (pztV (hK.sub (tys' := [(cI, .int), (cC, .char)]) [0, 1] rfl) hE hT hZ (fun _ _ _ => rfl) rfl hW.rc hW) rfl hl.1 rfl (Nat.le_of_ble_eq_true rfl) dL_removeAt_4 ⟨Nat.le_refl _, Nat.le_refl _⟩ (fun H1 q9 ce h1 h2 h3 h4 h5 => ?_)
      have h5 : s.vm.findClass "java/lang/IndexOutOfBoundsException" = some ce.cls := h5
      refine vx_catch hown [] ⟨0, 9, 12, 19⟩ [⟨0, 9, 15, 21⟩] (htb.trans rfl) (fun y9 hy9 => nomatch hy9) rfl (by decide) (hG _ cl_L_19) (hE.at _ (List.mem_of_getElem? (i := 3) rfl)) h3 h4 h5 ?_
      refine lv_astore_n (lv' := [(3, .ref (q9)), (0, .ref (ad 0)), (1, .int (x)), (2, .ref (qo))]) hx hb dL_removeAt_12 rfl hl (by decide) rfl (fun ls hl => ?_)
      refine lv_iconst (v := nI 1) hx hb dL_removeAt_13 (by decide) ?_
      exact w_i (by rw [hk9]) ⟨by rw [hc2]; exact (hW.kept (fun i hi => h2 _ (hW.lt hi))).mono (by omega), f, oneK hP (h2 _ (va_lt hP (k := 0) rfl)), fun h => absurd h hc⟩ ⟨h1, fun q hq _ => h2 q hq, fun y9 hy9 => nomatch hy9⟩ hx hb hr hlocks dL_removeAt_14
    · skip
      rw [hk9] at hxx
      refine m_startW (by decide) (Nat.le_of_ble_eq_true rfl) ?_
      intro p e s m below meth c hx hb hr hG hown hlocks hml htb hB ls hl
      have hl : lv_has ls 4 [(0, .ref (ad 0)), (1, .int (x)), (2, .ref (qo))] := hl
      obtain ⟨⟨hW, hP⟩, hK, hE, hT, hZ, hX⟩ := hB
      refine lv_aload_n hx hb dL_removeAt_0 rfl (lv_at hl 2 rfl) ?_
      refine lv_iconst (v := nI 0) hx hb dL_removeAt_1 (by decide) ?_
      refine lv_aload_n hx hb dL_removeAt_2 rfl (lv_at hl 0 rfl) ?_
      refine lv_iload_n hx hb dL_removeAt_3 rfl (lv_at hl 1 rfl) ?_
      refine k3_V hx hb hml hown hG cs_L_82 hxx (by decide) (pztV (hK.sub (tys' := [(cI, .int), (cC, .char)]) [0, 1] rfl) hE hT hZ (fun _ _ _ => rfl) rfl hW.rc hW) rfl hl.1 rfl (Nat.le_of_ble_eq_true rfl) dL_removeAt_4 ⟨Nat.le_refl _, Nat.le_refl _⟩ (fun H1 q9 ce h1 h2 h3 h4 h5 => ?_)
      have h5 : s.vm.findClass "java/lang/IllegalStateException" = some ce.cls := h5
      refine vx_catch hown [⟨0, 9, 12, 19⟩] ⟨0, 9, 15, 21⟩ [] (htb.trans rfl) (fun y9 hy9 => by
          rcases List.mem_cons.mp hy9 with rfl | hy9
          · exact Or.inr ⟨by decide, "java/lang/IndexOutOfBoundsException", hG _ cl_L_19, hX.2.1⟩
          nomatch hy9) rfl (by decide) (hG _ cl_L_21) (hE.at _ (List.mem_of_getElem? (i := 5) rfl)) h3 h4 h5 ?_
      refine lv_astore_n (lv' := [(3, .ref (q9)), (0, .ref (ad 0)), (1, .int (x)), (2, .ref (qo))]) hx hb dL_removeAt_15 rfl hl (by decide) rfl (fun ls hl => ?_)
      refine lv_iconst (v := nI 2) hx hb dL_removeAt_16 (by decide) ?_
      exact w_i (by rw [hk9]) ⟨by rw [hc2]; exact (hW.kept (fun i hi => h2 _ (hW.lt hi))).mono (by omega), f, oneK hP (h2 _ (va_lt hP (k := 0) rfl)), fun h => absurd h hc⟩ ⟨h1, fun q hq _ => h2 q hq, fun y9 hy9 => nomatch hy9⟩ hx hb hr hlocks dL_removeAt_17
theorem cd_setAt (S : St) (x v : Int32) : cdP 3 S (sp_setAt S x v) := by
  unfold sp_setAt 
  repeat' split
  all_goals first | exact Or.inl rfl | exact Or.inr ⟨Nat.le_of_ble_eq_true rfl, rfl⟩
set_option maxHeartbeats 4000000 in
set_option maxRecDepth 100000 in
theorem wr_setAt (l : Launch) (hst : l.stackTraces = false) (D : va_G) (cI cC cL : ClassId) (ad ta : Nat → Nat) (z : Nat) (S : St) (N : Nat) (qo : Nat) (f : Nat → Int64) (x v : Int32) (hI : Inv S) (hN : N + 2000 < 2 ^ 31) (hap : Ap ad 36) (hqo : ¬ Ao ad 36 qo) : Met l yL_setAt (wsW_ yL_setAt cL_setAt 5 (some .int) [(0, 10, 13, 19), (0, 10, 17, 13), (0, 10, 21, 21)]) rmW (va_Pc [.ref (ad 0), .int (x), .int (v), .ref (qo)] (pzw D [(cI, .int), (cC, .char), (cL, .long)] ta z (fun H => Wc D cI cC ad S N H ∧ va_P D vwCl (ouW cL qo f) H))) (Wq (some (.int (nI (sp_setAt S x v).1))) (fun H => Wc D cI cC ad (sp_setAt S x v).2.2 (N + 2000) H ∧ ∃ f9, va_P D vwCl (ouW cL qo f9) H ∧ ((sp_setAt S x v).1 = 0 → f9 0 = Int32.toInt64 (sp_setAt S x v).2.1)) (fun q => Ao ad 36 q ∨ q = qo)) 1 6 (fun q => Ao ad 36 q ∨ q = qo) := by
  by_cases hc : (sp_setAt S x v).1 = 0
  · have hok := ok_setAt l D cI cC ad S N x v hI hN hap hc
    refine m_startW (by decide) (Nat.le_of_ble_eq_true rfl) ?_
    intro p e s m below meth c hx hb hr hG hown hlocks hml htb hB ls hl
    have hl : lv_has ls 5 [(0, .ref (ad 0)), (1, .int (x)), (2, .int (v)), (3, .ref (qo))] := hl
    obtain ⟨⟨hW, hP⟩, hK, hE, hT, hZ, hX⟩ := hB
    have hS : va_S (fun q => Ao ad 36 q ∨ q = qo) s.heap s.heap [] := va_S.rf
    refine W.widen (k := 1) (n := 6) (by decide) (by decide) ?_
    refine lv_aload_n hx hb dL_setAt_0 rfl (lv_at hl 3 rfl) ?_
    refine lv_iconst (v := nI 0) hx hb dL_setAt_1 (by decide) ?_
    refine lv_aload_n hx hb dL_setAt_2 rfl (lv_at hl 0 rfl) ?_
    refine lv_iload_n hx hb dL_setAt_3 rfl (lv_at hl 1 rfl) ?_
    refine lv_iload_n hx hb dL_setAt_4 rfl (lv_at hl 2 rfl) ?_
    refine k2_V hx hb hml hown hG cs_L_85 hok (by decide) (pzV (hK.sub (tys' := [(cI, .int), (cC, .char)]) [0, 1] rfl) rfl hW.rc hW) rfl hl.1 rfl (Nat.le_of_ble_eq_true rfl) dL_setAt_5 ⟨Nat.le_refl _, Nat.le_refl _⟩ rfl hS (fun q h => Or.inl h) (fun H locs hW hz hk hS => ?_)
    have hP := oneK hP (hk qo (va_lt hP (k := 0) rfl) hqo)
    refine lv_i2l (v := Int32.toInt64 ((sp_setAt S x v).2.1)) hx hb dL_setAt_8 rfl ?_
    refine x_last0 hx hb hK hP hS (Or.inr rfl) 2 rfl dL_setAt_9 (fun H locs f9 hf hP ho hS => ?_)
    have hW := hW.kept (fun i hi => ho _ (fun e9 => hqo ⟨i, hi, e9.symm⟩))
    refine lv_goto (tgt := 25) hx hb dL_setAt_10 (by decide) ?_
    refine lv_iconst (v := nI 0) hx hb dL_setAt_25 (by decide) ?_
    exact w_i (by rw [hc]) ⟨hW, f9, hP, fun _ => hf⟩ hS hx hb hr hlocks dL_setAt_26
  · obtain ⟨hc1, hc2⟩ := (cd_setAt S x v).resolve_left hc
    have hxx := xx_setAt l hst D cI cC ad ta z S N x v hI hc
    rcases (show (sp_setAt S x v).1 = 1 ∨ (sp_setAt S x v).1 = 2 ∨ (sp_setAt S x v).1 = 3 from by omega) with hk9 | hk9 | hk9
    · skip
      rw [hk9] at hxx
      refine m_startW (by decide) (Nat.le_of_ble_eq_true rfl) ?_
      intro p e s m below meth c hx hb hr hG hown hlocks hml htb hB ls hl
      have hl : lv_has ls 5 [(0, .ref (ad 0)), (1, .int (x)), (2, .int (v)), (3, .ref (qo))] := hl
      obtain ⟨⟨hW, hP⟩, hK, hE, hT, hZ, hX⟩ := hB
      refine lv_aload_n hx hb dL_setAt_0 rfl (lv_at hl 3 rfl) ?_
      refine lv_iconst (v := nI 0) hx hb dL_setAt_1 (by decide) ?_
      refine lv_aload_n hx hb dL_setAt_2 rfl (lv_at hl 0 rfl) ?_
      refine lv_iload_n hx hb dL_setAt_3 rfl (lv_at hl 1 rfl) ?_
      refine lv_iload_n hx hb dL_setAt_4 rfl (lv_at hl 2 rfl) ?_
      refine k3_V hx hb hml hown hG cs_L_85 hxx (by decide) (pztV (hK.sub (tys' := [(cI, .int), (cC, .char)]) [0, 1] rfl) hE hT hZ (fun _ _ _ => rfl) rfl hW.rc hW) rfl hl.1 rfl (Nat.le_of_ble_eq_true rfl) dL_setAt_5 ⟨Nat.le_refl _, Nat.le_refl _⟩ (fun H1 q9 ce h1 h2 h3 h4 h5 => ?_)
      have h5 : s.vm.findClass "java/lang/IndexOutOfBoundsException" = some ce.cls := h5
      refine vx_catch hown [] ⟨0, 10, 13, 19⟩ [⟨0, 10, 17, 13⟩, ⟨0, 10, 21, 21⟩] (htb.trans rfl) (fun y9 hy9 => nomatch hy9) rfl (by decide) (hG _ cl_L_19) (hE.at _ (List.mem_of_getElem? (i := 3) rfl)) h3 h4 h5 ?_
      refine lv_astore (lv' := [(4, .ref (q9)), (0, .ref (ad 0)), (1, .int (x)), (2, .int (v)), (3, .ref (qo))]) hx hb dL_setAt_13 hl (by decide) rfl (fun ls hl => ?_)
      refine lv_iconst (v := nI 1) hx hb dL_setAt_15 (by decide) ?_
      exact w_i (by rw [hk9]) ⟨by rw [hc2]; exact (hW.kept (fun i hi => h2 _ (hW.lt hi))).mono (by omega), f, oneK hP (h2 _ (va_lt hP (k := 0) rfl)), fun h => absurd h hc⟩ ⟨h1, fun q hq _ => h2 q hq, fun y9 hy9 => nomatch hy9⟩ hx hb hr hlocks dL_setAt_16
    · skip
      rw [hk9] at hxx
      refine m_startW (by decide) (Nat.le_of_ble_eq_true rfl) ?_
      intro p e s m below meth c hx hb hr hG hown hlocks hml htb hB ls hl
      have hl : lv_has ls 5 [(0, .ref (ad 0)), (1, .int (x)), (2, .int (v)), (3, .ref (qo))] := hl
      obtain ⟨⟨hW, hP⟩, hK, hE, hT, hZ, hX⟩ := hB
      refine lv_aload_n hx hb dL_setAt_0 rfl (lv_at hl 3 rfl) ?_
      refine lv_iconst (v := nI 0) hx hb dL_setAt_1 (by decide) ?_
      refine lv_aload_n hx hb dL_setAt_2 rfl (lv_at hl 0 rfl) ?_
      refine lv_iload_n hx hb dL_setAt_3 rfl (lv_at hl 1 rfl) ?_
      refine lv_iload_n hx hb dL_setAt_4 rfl (lv_at hl 2 rfl) ?_
      refine k3_V hx hb hml hown hG cs_L_85 hxx (by decide) (pztV (hK.sub (tys' := [(cI, .int), (cC, .char)]) [0, 1] rfl) hE hT hZ (fun _ _ _ => rfl) rfl hW.rc hW) rfl hl.1 rfl (Nat.le_of_ble_eq_true rfl) dL_setAt_5 ⟨Nat.le_refl _, Nat.le_refl _⟩ (fun H1 q9 ce h1 h2 h3 h4 h5 => ?_)
      have h5 : s.vm.findClass "java/lang/IllegalArgumentException" = some ce.cls := h5
      refine vx_catch hown [⟨0, 10, 13, 19⟩] ⟨0, 10, 17, 13⟩ [⟨0, 10, 21, 21⟩] (htb.trans rfl) (fun y9 hy9 => by
          rcases List.mem_cons.mp hy9 with rfl | hy9
          · exact Or.inr ⟨by decide, "java/lang/IndexOutOfBoundsException", hG _ cl_L_19, hX.1⟩
          nomatch hy9) rfl (by decide) (hG _ cl_L_13) (hE.at _ (List.mem_of_getElem? (i := 4) rfl)) h3 h4 h5 ?_
      refine lv_astore (lv' := [(4, .ref (q9)), (0, .ref (ad 0)), (1, .int (x)), (2, .int (v)), (3, .ref (qo))]) hx hb dL_setAt_17 hl (by decide) rfl (fun ls hl => ?_)
      refine lv_iconst (v := nI 2) hx hb dL_setAt_19 (by decide) ?_
      exact w_i (by rw [hk9]) ⟨by rw [hc2]; exact (hW.kept (fun i hi => h2 _ (hW.lt hi))).mono (by omega), f, oneK hP (h2 _ (va_lt hP (k := 0) rfl)), fun h => absurd h hc⟩ ⟨h1, fun q hq _ => h2 q hq, fun y9 hy9 => nomatch hy9⟩ hx hb hr hlocks dL_setAt_20
    · skip
      rw [hk9] at hxx
      refine m_startW (by decide) (Nat.le_of_ble_eq_true rfl) ?_
      intro p e s m below meth c hx hb hr hG hown hlocks hml htb hB ls hl
      have hl : lv_has ls 5 [(0, .ref (ad 0)), (1, .int (x)), (2, .int (v)), (3, .ref (qo))] := hl
      obtain ⟨⟨hW, hP⟩, hK, hE, hT, hZ, hX⟩ := hB
      refine lv_aload_n hx hb dL_setAt_0 rfl (lv_at hl 3 rfl) ?_
      refine lv_iconst (v := nI 0) hx hb dL_setAt_1 (by decide) ?_
      refine lv_aload_n hx hb dL_setAt_2 rfl (lv_at hl 0 rfl) ?_
      refine lv_iload_n hx hb dL_setAt_3 rfl (lv_at hl 1 rfl) ?_
      refine lv_iload_n hx hb dL_setAt_4 rfl (lv_at hl 2 rfl) ?_
      refine k3_V hx hb hml hown hG cs_L_85 hxx (by decide) (pztV (hK.sub (tys' := [(cI, .int), (cC, .char)]) [0, 1] rfl) hE hT hZ (fun _ _ _ => rfl) rfl hW.rc hW) rfl hl.1 rfl (Nat.le_of_ble_eq_true rfl) dL_setAt_5 ⟨Nat.le_refl _, Nat.le_refl _⟩ (fun H1 q9 ce h1 h2 h3 h4 h5 => ?_)
      have h5 : s.vm.findClass "java/lang/IllegalStateException" = some ce.cls := h5
      refine vx_catch hown [⟨0, 10, 13, 19⟩, ⟨0, 10, 17, 13⟩] ⟨0, 10, 21, 21⟩ [] (htb.trans rfl) (fun y9 hy9 => by
          rcases List.mem_cons.mp hy9 with rfl | hy9
          · exact Or.inr ⟨by decide, "java/lang/IndexOutOfBoundsException", hG _ cl_L_19, hX.2.1⟩
          rcases List.mem_cons.mp hy9 with rfl | hy9
          · exact Or.inr ⟨by decide, "java/lang/IllegalArgumentException", hG _ cl_L_13, hX.2.2.1⟩
          nomatch hy9) rfl (by decide) (hG _ cl_L_21) (hE.at _ (List.mem_of_getElem? (i := 5) rfl)) h3 h4 h5 ?_
      refine lv_astore (lv' := [(4, .ref (q9)), (0, .ref (ad 0)), (1, .int (x)), (2, .int (v)), (3, .ref (qo))]) hx hb dL_setAt_21 hl (by decide) rfl (fun ls hl => ?_)
      refine lv_iconst (v := nI 3) hx hb dL_setAt_23 (by decide) ?_
      exact w_i (by rw [hk9]) ⟨by rw [hc2]; exact (hW.kept (fun i hi => h2 _ (hW.lt hi))).mono (by omega), f, oneK hP (h2 _ (va_lt hP (k := 0) rfl)), fun h => absurd h hc⟩ ⟨h1, fun q hq _ => h2 q hq, fun y9 hy9 => nomatch hy9⟩ hx hb hr hlocks dL_setAt_24
theorem cd_bookOf (S : St) (x : Int32) : cdP 1 S (sp_bookOf S x) := by
  unfold sp_bookOf 
  repeat' split
  all_goals first | exact Or.inl rfl | exact Or.inr ⟨Nat.le_of_ble_eq_true rfl, rfl⟩
set_option maxHeartbeats 4000000 in
set_option maxRecDepth 100000 in
theorem wr_bookOf (l : Launch) (hst : l.stackTraces = false) (D : va_G) (cI cC cL : ClassId) (ad ta : Nat → Nat) (z : Nat) (S : St) (N : Nat) (qo : Nat) (f : Nat → Int64) (x : Int32) (hI : Inv S) (hN : N + 2000 < 2 ^ 31) (hap : Ap ad 36) (hqo : ¬ Ao ad 36 qo) : Met l yL_bookOf (wsW_ yL_bookOf cL_bookOf 4 (some .int) [(0, 9, 12, 19)]) rmW (va_Pc [.ref (ad 0), .int (x), .ref (qo)] (pzw D [(cI, .int), (cC, .char), (cL, .long)] ta z (fun H => Wc D cI cC ad S N H ∧ va_P D vwCl (ouW cL qo f) H))) (Wq (some (.int (nI (sp_bookOf S x).1))) (fun H => Wc D cI cC ad (sp_bookOf S x).2.2 (N + 2000) H ∧ ∃ f9, va_P D vwCl (ouW cL qo f9) H ∧ ((sp_bookOf S x).1 = 0 → f9 0 = Int32.toInt64 (sp_bookOf S x).2.1)) (fun q => Ao ad 36 q ∨ q = qo)) 1 6 (fun q => Ao ad 36 q ∨ q = qo) := by
  by_cases hc : (sp_bookOf S x).1 = 0
  · have hok := ok_bookOf l D cI cC ad S N x hI hN hap hc
    refine m_startW (by decide) (Nat.le_of_ble_eq_true rfl) ?_
    intro p e s m below meth c hx hb hr hG hown hlocks hml htb hB ls hl
    have hl : lv_has ls 4 [(0, .ref (ad 0)), (1, .int (x)), (2, .ref (qo))] := hl
    obtain ⟨⟨hW, hP⟩, hK, hE, hT, hZ, hX⟩ := hB
    have hS : va_S (fun q => Ao ad 36 q ∨ q = qo) s.heap s.heap [] := va_S.rf
    refine W.widen (k := 1) (n := 6) (by decide) (by decide) ?_
    refine lv_aload_n hx hb dL_bookOf_0 rfl (lv_at hl 2 rfl) ?_
    refine lv_iconst (v := nI 0) hx hb dL_bookOf_1 (by decide) ?_
    refine lv_aload_n hx hb dL_bookOf_2 rfl (lv_at hl 0 rfl) ?_
    refine lv_iload_n hx hb dL_bookOf_3 rfl (lv_at hl 1 rfl) ?_
    refine k2_V hx hb hml hown hG cs_L_88 hok (by decide) (pzV (hK.sub (tys' := [(cI, .int), (cC, .char)]) [0, 1] rfl) rfl hW.rc hW) rfl hl.1 rfl (Nat.le_of_ble_eq_true rfl) dL_bookOf_4 ⟨Nat.le_refl _, Nat.le_refl _⟩ rfl hS (fun q h => Or.inl h) (fun H locs hW hz hk hS => ?_)
    have hP := oneK hP (hk qo (va_lt hP (k := 0) rfl) hqo)
    refine lv_i2l (v := Int32.toInt64 ((sp_bookOf S x).2.1)) hx hb dL_bookOf_7 rfl ?_
    refine x_last0 hx hb hK hP hS (Or.inr rfl) 2 rfl dL_bookOf_8 (fun H locs f9 hf hP ho hS => ?_)
    have hW := hW.kept (fun i hi => ho _ (fun e9 => hqo ⟨i, hi, e9.symm⟩))
    refine lv_goto (tgt := 15) hx hb dL_bookOf_9 (by decide) ?_
    refine lv_iconst (v := nI 0) hx hb dL_bookOf_15 (by decide) ?_
    exact w_i (by rw [hc]) ⟨hW, f9, hP, fun _ => hf⟩ hS hx hb hr hlocks dL_bookOf_16
  · obtain ⟨hc1, hc2⟩ := (cd_bookOf S x).resolve_left hc
    have hxx := xx_bookOf l hst D cI cC ad ta z S N x hI hc
    have hk9 : (sp_bookOf S x).1 = 1 := by omega
    rw [hk9] at hxx
    refine m_startW (by decide) (Nat.le_of_ble_eq_true rfl) ?_
    intro p e s m below meth c hx hb hr hG hown hlocks hml htb hB ls hl
    have hl : lv_has ls 4 [(0, .ref (ad 0)), (1, .int (x)), (2, .ref (qo))] := hl
    obtain ⟨⟨hW, hP⟩, hK, hE, hT, hZ, hX⟩ := hB
    refine lv_aload_n hx hb dL_bookOf_0 rfl (lv_at hl 2 rfl) ?_
    refine lv_iconst (v := nI 0) hx hb dL_bookOf_1 (by decide) ?_
    refine lv_aload_n hx hb dL_bookOf_2 rfl (lv_at hl 0 rfl) ?_
    refine lv_iload_n hx hb dL_bookOf_3 rfl (lv_at hl 1 rfl) ?_
    refine k3_V hx hb hml hown hG cs_L_88 hxx (by decide) (pztV (hK.sub (tys' := [(cI, .int), (cC, .char)]) [0, 1] rfl) hE hT hZ (fun _ _ _ => rfl) rfl hW.rc hW) rfl hl.1 rfl (Nat.le_of_ble_eq_true rfl) dL_bookOf_4 ⟨Nat.le_refl _, Nat.le_refl _⟩ (fun H1 q9 ce h1 h2 h3 h4 h5 => ?_)
    have h5 : s.vm.findClass "java/lang/IndexOutOfBoundsException" = some ce.cls := h5
    refine vx_catch hown [] ⟨0, 9, 12, 19⟩ [] (htb.trans rfl) (fun y9 hy9 => nomatch hy9) rfl (by decide) (hG _ cl_L_19) (hE.at _ (List.mem_of_getElem? (i := 3) rfl)) h3 h4 h5 ?_
    refine lv_astore_n (lv' := [(3, .ref (q9)), (0, .ref (ad 0)), (1, .int (x)), (2, .ref (qo))]) hx hb dL_bookOf_12 rfl hl (by decide) rfl (fun ls hl => ?_)
    refine lv_iconst (v := nI 1) hx hb dL_bookOf_13 (by decide) ?_
    exact w_i (by rw [hk9]) ⟨by rw [hc2]; exact (hW.kept (fun i hi => h2 _ (hW.lt hi))).mono (by omega), f, oneK hP (h2 _ (va_lt hP (k := 0) rfl)), fun h => absurd h hc⟩ ⟨h1, fun q hq _ => h2 q hq, fun y9 hy9 => nomatch hy9⟩ hx hb hr hlocks dL_bookOf_14
theorem cd_size (S : St) (x : Int32) : cdP 1 S (sp_size S x) := by
  unfold sp_size askB
  repeat' split
  all_goals first | exact Or.inl rfl | exact Or.inr ⟨Nat.le_of_ble_eq_true rfl, rfl⟩
set_option maxHeartbeats 4000000 in
set_option maxRecDepth 100000 in
theorem wr_size (l : Launch) (hst : l.stackTraces = false) (D : va_G) (cI cC cL : ClassId) (ad ta : Nat → Nat) (z : Nat) (S : St) (N : Nat) (qo : Nat) (f : Nat → Int64) (x : Int32) (hI : Inv S) (hN : N + 2000 < 2 ^ 31) (hap : Ap ad 36) (hqo : ¬ Ao ad 36 qo) : Met l yL_size (wsW_ yL_size cL_size 4 (some .int) [(0, 9, 12, 19)]) rmW (va_Pc [.ref (ad 0), .int (x), .ref (qo)] (pzw D [(cI, .int), (cC, .char), (cL, .long)] ta z (fun H => Wc D cI cC ad S N H ∧ va_P D vwCl (ouW cL qo f) H))) (Wq (some (.int (nI (sp_size S x).1))) (fun H => Wc D cI cC ad (sp_size S x).2.2 (N + 2000) H ∧ ∃ f9, va_P D vwCl (ouW cL qo f9) H ∧ ((sp_size S x).1 = 0 → f9 0 = Int32.toInt64 (sp_size S x).2.1)) (fun q => Ao ad 36 q ∨ q = qo)) 1 6 (fun q => Ao ad 36 q ∨ q = qo) := by
  by_cases hc : (sp_size S x).1 = 0
  · have hok := ok_size l D cI cC ad S N x hI hN hap hc
    refine m_startW (by decide) (Nat.le_of_ble_eq_true rfl) ?_
    intro p e s m below meth c hx hb hr hG hown hlocks hml htb hB ls hl
    have hl : lv_has ls 4 [(0, .ref (ad 0)), (1, .int (x)), (2, .ref (qo))] := hl
    obtain ⟨⟨hW, hP⟩, hK, hE, hT, hZ, hX⟩ := hB
    have hS : va_S (fun q => Ao ad 36 q ∨ q = qo) s.heap s.heap [] := va_S.rf
    refine W.widen (k := 1) (n := 6) (by decide) (by decide) ?_
    refine lv_aload_n hx hb dL_size_0 rfl (lv_at hl 2 rfl) ?_
    refine lv_iconst (v := nI 0) hx hb dL_size_1 (by decide) ?_
    refine lv_aload_n hx hb dL_size_2 rfl (lv_at hl 0 rfl) ?_
    refine lv_iload_n hx hb dL_size_3 rfl (lv_at hl 1 rfl) ?_
    refine k2_V hx hb hml hown hG cs_L_91 hok (by decide) (pzV (hK.sub (tys' := [(cI, .int), (cC, .char)]) [0, 1] rfl) rfl hW.rc hW) rfl hl.1 rfl (Nat.le_of_ble_eq_true rfl) dL_size_4 ⟨Nat.le_refl _, Nat.le_refl _⟩ rfl hS (fun q h => Or.inl h) (fun H locs hW hz hk hS => ?_)
    have hP := oneK hP (hk qo (va_lt hP (k := 0) rfl) hqo)
    refine lv_i2l (v := Int32.toInt64 ((sp_size S x).2.1)) hx hb dL_size_7 rfl ?_
    refine x_last0 hx hb hK hP hS (Or.inr rfl) 2 rfl dL_size_8 (fun H locs f9 hf hP ho hS => ?_)
    have hW := hW.kept (fun i hi => ho _ (fun e9 => hqo ⟨i, hi, e9.symm⟩))
    refine lv_goto (tgt := 15) hx hb dL_size_9 (by decide) ?_
    refine lv_iconst (v := nI 0) hx hb dL_size_15 (by decide) ?_
    exact w_i (by rw [hc]) ⟨hW, f9, hP, fun _ => hf⟩ hS hx hb hr hlocks dL_size_16
  · obtain ⟨hc1, hc2⟩ := (cd_size S x).resolve_left hc
    have hxx := xx_size l hst D cI cC ad ta z S N x hI hc
    have hk9 : (sp_size S x).1 = 1 := by omega
    rw [hk9] at hxx
    refine m_startW (by decide) (Nat.le_of_ble_eq_true rfl) ?_
    intro p e s m below meth c hx hb hr hG hown hlocks hml htb hB ls hl
    have hl : lv_has ls 4 [(0, .ref (ad 0)), (1, .int (x)), (2, .ref (qo))] := hl
    obtain ⟨⟨hW, hP⟩, hK, hE, hT, hZ, hX⟩ := hB
    refine lv_aload_n hx hb dL_size_0 rfl (lv_at hl 2 rfl) ?_
    refine lv_iconst (v := nI 0) hx hb dL_size_1 (by decide) ?_
    refine lv_aload_n hx hb dL_size_2 rfl (lv_at hl 0 rfl) ?_
    refine lv_iload_n hx hb dL_size_3 rfl (lv_at hl 1 rfl) ?_
    refine k3_V hx hb hml hown hG cs_L_91 hxx (by decide) (pztV (hK.sub (tys' := [(cI, .int), (cC, .char)]) [0, 1] rfl) hE hT hZ (fun _ _ _ => rfl) rfl hW.rc hW) rfl hl.1 rfl (Nat.le_of_ble_eq_true rfl) dL_size_4 ⟨Nat.le_refl _, Nat.le_refl _⟩ (fun H1 q9 ce h1 h2 h3 h4 h5 => ?_)
    have h5 : s.vm.findClass "java/lang/IndexOutOfBoundsException" = some ce.cls := h5
    refine vx_catch hown [] ⟨0, 9, 12, 19⟩ [] (htb.trans rfl) (fun y9 hy9 => nomatch hy9) rfl (by decide) (hG _ cl_L_19) (hE.at _ (List.mem_of_getElem? (i := 3) rfl)) h3 h4 h5 ?_
    refine lv_astore_n (lv' := [(3, .ref (q9)), (0, .ref (ad 0)), (1, .int (x)), (2, .ref (qo))]) hx hb dL_size_12 rfl hl (by decide) rfl (fun ls hl => ?_)
    refine lv_iconst (v := nI 1) hx hb dL_size_13 (by decide) ?_
    exact w_i (by rw [hk9]) ⟨by rw [hc2]; exact (hW.kept (fun i hi => h2 _ (hW.lt hi))).mono (by omega), f, oneK hP (h2 _ (va_lt hP (k := 0) rfl)), fun h => absurd h hc⟩ ⟨h1, fun q hq _ => h2 q hq, fun y9 hy9 => nomatch hy9⟩ hx hb hr hlocks dL_size_14
theorem cd_hasKey (S : St) (x key : Int32) : cdP 1 S (sp_hasKey S x key) := by
  unfold sp_hasKey askB
  repeat' split
  all_goals first | exact Or.inl rfl | exact Or.inr ⟨Nat.le_of_ble_eq_true rfl, rfl⟩
set_option maxHeartbeats 4000000 in
set_option maxRecDepth 100000 in
theorem wr_hasKey (l : Launch) (hst : l.stackTraces = false) (D : va_G) (cI cC cL : ClassId) (ad ta : Nat → Nat) (z : Nat) (S : St) (N : Nat) (qo : Nat) (f : Nat → Int64) (x key : Int32) (hI : Inv S) (hN : N + 2000 < 2 ^ 31) (hap : Ap ad 36) (hqo : ¬ Ao ad 36 qo) : Met l yL_hasKey (wsW_ yL_hasKey cL_hasKey 5 (some .int) [(0, 17, 20, 19)]) rmW (va_Pc [.ref (ad 0), .int (x), .int (key), .ref (qo)] (pzw D [(cI, .int), (cC, .char), (cL, .long)] ta z (fun H => Wc D cI cC ad S N H ∧ va_P D vwCl (ouW cL qo f) H))) (Wq (some (.int (nI (sp_hasKey S x key).1))) (fun H => Wc D cI cC ad (sp_hasKey S x key).2.2 (N + 2000) H ∧ ∃ f9, va_P D vwCl (ouW cL qo f9) H ∧ ((sp_hasKey S x key).1 = 0 → f9 0 = zl (sp_hasKey S x key).2.1)) (fun q => Ao ad 36 q ∨ q = qo)) 1 6 (fun q => Ao ad 36 q ∨ q = qo) := by
  by_cases hc : (sp_hasKey S x key).1 = 0
  · have hok := ok_hasKey l D cI cC ad S N x key hI hN hap hc
    refine m_startW (by decide) (Nat.le_of_ble_eq_true rfl) ?_
    intro p e s m below meth c hx hb hr hG hown hlocks hml htb hB ls hl
    have hl : lv_has ls 5 [(0, .ref (ad 0)), (1, .int (x)), (2, .int (key)), (3, .ref (qo))] := hl
    obtain ⟨⟨hW, hP⟩, hK, hE, hT, hZ, hX⟩ := hB
    have hS : va_S (fun q => Ao ad 36 q ∨ q = qo) s.heap s.heap [] := va_S.rf
    refine W.widen (k := 1) (n := 6) (by decide) (by decide) ?_
    refine lv_aload_n hx hb dL_hasKey_0 rfl (lv_at hl 3 rfl) ?_
    refine lv_iconst (v := nI 0) hx hb dL_hasKey_1 (by decide) ?_
    refine lv_aload_n hx hb dL_hasKey_2 rfl (lv_at hl 0 rfl) ?_
    refine lv_iload_n hx hb dL_hasKey_3 rfl (lv_at hl 1 rfl) ?_
    refine lv_iload_n hx hb dL_hasKey_4 rfl (lv_at hl 2 rfl) ?_
    refine k2_V hx hb hml hown hG cs_L_94 hok (by decide) (pzV (hK.sub (tys' := [(cI, .int), (cC, .char)]) [0, 1] rfl) rfl hW.rc hW) rfl hl.1 rfl (Nat.le_of_ble_eq_true rfl) dL_hasKey_5 ⟨Nat.le_refl _, Nat.le_refl _⟩ rfl hS (fun q h => Or.inl h) (fun H locs hW hz hk hS => ?_)
    have hP := oneK hP (hk qo (va_lt hP (k := 0) rfl) hqo)
    refine x_ifb_eq (tgt := 15) hx hb dL_hasKey_8 (by decide) (fun c1 => ?_) (fun c1 => ?_)
    · refine lv_lconst (v := lN (0)) hx hb dL_hasKey_15 (by decide) ?_
      refine x_last0 hx hb hK hP hS (Or.inr rfl) 2 rfl dL_hasKey_16 (fun H locs f9 hf hP ho hS => ?_)
      have hW := hW.kept (fun i hi => ho _ (fun e9 => hqo ⟨i, hi, e9.symm⟩))
      refine lv_goto (tgt := 24) hx hb dL_hasKey_17 (by decide) ?_
      refine lv_iconst (v := nI 0) hx hb dL_hasKey_24 (by decide) ?_
      exact w_i (by rw [hc]) ⟨hW, f9, hP, fun _ => by rw [hf, c1]; rfl⟩ hS hx hb hr hlocks dL_hasKey_25
    · refine lv_lconst (v := lN (1)) hx hb dL_hasKey_11 (by decide) ?_
      refine lv_goto (tgt := 16) hx hb dL_hasKey_12 (by decide) ?_
      refine x_last0 hx hb hK hP hS (Or.inr rfl) 2 rfl dL_hasKey_16 (fun H locs f9 hf hP ho hS => ?_)
      have hW := hW.kept (fun i hi => ho _ (fun e9 => hqo ⟨i, hi, e9.symm⟩))
      refine lv_goto (tgt := 24) hx hb dL_hasKey_17 (by decide) ?_
      refine lv_iconst (v := nI 0) hx hb dL_hasKey_24 (by decide) ?_
      exact w_i (by rw [hc]) ⟨hW, f9, hP, fun _ => by rw [hf, c1]; rfl⟩ hS hx hb hr hlocks dL_hasKey_25
  · obtain ⟨hc1, hc2⟩ := (cd_hasKey S x key).resolve_left hc
    have hxx := xx_hasKey l hst D cI cC ad ta z S N x key hI hc
    have hk9 : (sp_hasKey S x key).1 = 1 := by omega
    rw [hk9] at hxx
    refine m_startW (by decide) (Nat.le_of_ble_eq_true rfl) ?_
    intro p e s m below meth c hx hb hr hG hown hlocks hml htb hB ls hl
    have hl : lv_has ls 5 [(0, .ref (ad 0)), (1, .int (x)), (2, .int (key)), (3, .ref (qo))] := hl
    obtain ⟨⟨hW, hP⟩, hK, hE, hT, hZ, hX⟩ := hB
    refine lv_aload_n hx hb dL_hasKey_0 rfl (lv_at hl 3 rfl) ?_
    refine lv_iconst (v := nI 0) hx hb dL_hasKey_1 (by decide) ?_
    refine lv_aload_n hx hb dL_hasKey_2 rfl (lv_at hl 0 rfl) ?_
    refine lv_iload_n hx hb dL_hasKey_3 rfl (lv_at hl 1 rfl) ?_
    refine lv_iload_n hx hb dL_hasKey_4 rfl (lv_at hl 2 rfl) ?_
    refine k3_V hx hb hml hown hG cs_L_94 hxx (by decide) (pztV (hK.sub (tys' := [(cI, .int), (cC, .char)]) [0, 1] rfl) hE hT hZ (fun _ _ _ => rfl) rfl hW.rc hW) rfl hl.1 rfl (Nat.le_of_ble_eq_true rfl) dL_hasKey_5 ⟨Nat.le_refl _, Nat.le_refl _⟩ (fun H1 q9 ce h1 h2 h3 h4 h5 => ?_)
    have h5 : s.vm.findClass "java/lang/IndexOutOfBoundsException" = some ce.cls := h5
    refine vx_catch hown [] ⟨0, 17, 20, 19⟩ [] (htb.trans rfl) (fun y9 hy9 => nomatch hy9) rfl (by decide) (hG _ cl_L_19) (hE.at _ (List.mem_of_getElem? (i := 3) rfl)) h3 h4 h5 ?_
    refine lv_astore (lv' := [(4, .ref (q9)), (0, .ref (ad 0)), (1, .int (x)), (2, .int (key)), (3, .ref (qo))]) hx hb dL_hasKey_20 hl (by decide) rfl (fun ls hl => ?_)
    refine lv_iconst (v := nI 1) hx hb dL_hasKey_22 (by decide) ?_
    exact w_i (by rw [hk9]) ⟨by rw [hc2]; exact (hW.kept (fun i hi => h2 _ (hW.lt hi))).mono (by omega), f, oneK hP (h2 _ (va_lt hP (k := 0) rfl)), fun h => absurd h hc⟩ ⟨h1, fun q hq _ => h2 q hq, fun y9 hy9 => nomatch hy9⟩ hx hb hr hlocks dL_hasKey_23
theorem cd_hasValue (S : St) (x v : Int32) : cdP 1 S (sp_hasValue S x v) := by
  unfold sp_hasValue askB
  repeat' split
  all_goals first | exact Or.inl rfl | exact Or.inr ⟨Nat.le_of_ble_eq_true rfl, rfl⟩
set_option maxHeartbeats 4000000 in
set_option maxRecDepth 100000 in
theorem wr_hasValue (l : Launch) (hst : l.stackTraces = false) (D : va_G) (cI cC cL : ClassId) (ad ta : Nat → Nat) (z : Nat) (S : St) (N : Nat) (qo : Nat) (f : Nat → Int64) (x v : Int32) (hI : Inv S) (hN : N + 2000 < 2 ^ 31) (hap : Ap ad 36) (hqo : ¬ Ao ad 36 qo) : Met l yL_hasValue (wsW_ yL_hasValue cL_hasValue 5 (some .int) [(0, 17, 20, 19)]) rmW (va_Pc [.ref (ad 0), .int (x), .int (v), .ref (qo)] (pzw D [(cI, .int), (cC, .char), (cL, .long)] ta z (fun H => Wc D cI cC ad S N H ∧ va_P D vwCl (ouW cL qo f) H))) (Wq (some (.int (nI (sp_hasValue S x v).1))) (fun H => Wc D cI cC ad (sp_hasValue S x v).2.2 (N + 2000) H ∧ ∃ f9, va_P D vwCl (ouW cL qo f9) H ∧ ((sp_hasValue S x v).1 = 0 → f9 0 = zl (sp_hasValue S x v).2.1)) (fun q => Ao ad 36 q ∨ q = qo)) 1 6 (fun q => Ao ad 36 q ∨ q = qo) := by
  by_cases hc : (sp_hasValue S x v).1 = 0
  · have hok := ok_hasValue l D cI cC ad S N x v hI hN hap hc
    refine m_startW (by decide) (Nat.le_of_ble_eq_true rfl) ?_
    intro p e s m below meth c hx hb hr hG hown hlocks hml htb hB ls hl
    have hl : lv_has ls 5 [(0, .ref (ad 0)), (1, .int (x)), (2, .int (v)), (3, .ref (qo))] := hl
    obtain ⟨⟨hW, hP⟩, hK, hE, hT, hZ, hX⟩ := hB
    have hS : va_S (fun q => Ao ad 36 q ∨ q = qo) s.heap s.heap [] := va_S.rf
    refine W.widen (k := 1) (n := 6) (by decide) (by decide) ?_
    refine lv_aload_n hx hb dL_hasValue_0 rfl (lv_at hl 3 rfl) ?_
    refine lv_iconst (v := nI 0) hx hb dL_hasValue_1 (by decide) ?_
    refine lv_aload_n hx hb dL_hasValue_2 rfl (lv_at hl 0 rfl) ?_
    refine lv_iload_n hx hb dL_hasValue_3 rfl (lv_at hl 1 rfl) ?_
    refine lv_iload_n hx hb dL_hasValue_4 rfl (lv_at hl 2 rfl) ?_
    refine k2_V hx hb hml hown hG cs_L_97 hok (by decide) (pzV (hK.sub (tys' := [(cI, .int), (cC, .char)]) [0, 1] rfl) rfl hW.rc hW) rfl hl.1 rfl (Nat.le_of_ble_eq_true rfl) dL_hasValue_5 ⟨Nat.le_refl _, Nat.le_refl _⟩ rfl hS (fun q h => Or.inl h) (fun H locs hW hz hk hS => ?_)
    have hP := oneK hP (hk qo (va_lt hP (k := 0) rfl) hqo)
    refine x_ifb_eq (tgt := 15) hx hb dL_hasValue_8 (by decide) (fun c1 => ?_) (fun c1 => ?_)
    · refine lv_lconst (v := lN (0)) hx hb dL_hasValue_15 (by decide) ?_
      refine x_last0 hx hb hK hP hS (Or.inr rfl) 2 rfl dL_hasValue_16 (fun H locs f9 hf hP ho hS => ?_)
      have hW := hW.kept (fun i hi => ho _ (fun e9 => hqo ⟨i, hi, e9.symm⟩))
      refine lv_goto (tgt := 24) hx hb dL_hasValue_17 (by decide) ?_
      refine lv_iconst (v := nI 0) hx hb dL_hasValue_24 (by decide) ?_
      exact w_i (by rw [hc]) ⟨hW, f9, hP, fun _ => by rw [hf, c1]; rfl⟩ hS hx hb hr hlocks dL_hasValue_25
    · refine lv_lconst (v := lN (1)) hx hb dL_hasValue_11 (by decide) ?_
      refine lv_goto (tgt := 16) hx hb dL_hasValue_12 (by decide) ?_
      refine x_last0 hx hb hK hP hS (Or.inr rfl) 2 rfl dL_hasValue_16 (fun H locs f9 hf hP ho hS => ?_)
      have hW := hW.kept (fun i hi => ho _ (fun e9 => hqo ⟨i, hi, e9.symm⟩))
      refine lv_goto (tgt := 24) hx hb dL_hasValue_17 (by decide) ?_
      refine lv_iconst (v := nI 0) hx hb dL_hasValue_24 (by decide) ?_
      exact w_i (by rw [hc]) ⟨hW, f9, hP, fun _ => by rw [hf, c1]; rfl⟩ hS hx hb hr hlocks dL_hasValue_25
  · obtain ⟨hc1, hc2⟩ := (cd_hasValue S x v).resolve_left hc
    have hxx := xx_hasValue l hst D cI cC ad ta z S N x v hI hc
    have hk9 : (sp_hasValue S x v).1 = 1 := by omega
    rw [hk9] at hxx
    refine m_startW (by decide) (Nat.le_of_ble_eq_true rfl) ?_
    intro p e s m below meth c hx hb hr hG hown hlocks hml htb hB ls hl
    have hl : lv_has ls 5 [(0, .ref (ad 0)), (1, .int (x)), (2, .int (v)), (3, .ref (qo))] := hl
    obtain ⟨⟨hW, hP⟩, hK, hE, hT, hZ, hX⟩ := hB
    refine lv_aload_n hx hb dL_hasValue_0 rfl (lv_at hl 3 rfl) ?_
    refine lv_iconst (v := nI 0) hx hb dL_hasValue_1 (by decide) ?_
    refine lv_aload_n hx hb dL_hasValue_2 rfl (lv_at hl 0 rfl) ?_
    refine lv_iload_n hx hb dL_hasValue_3 rfl (lv_at hl 1 rfl) ?_
    refine lv_iload_n hx hb dL_hasValue_4 rfl (lv_at hl 2 rfl) ?_
    refine k3_V hx hb hml hown hG cs_L_97 hxx (by decide) (pztV (hK.sub (tys' := [(cI, .int), (cC, .char)]) [0, 1] rfl) hE hT hZ (fun _ _ _ => rfl) rfl hW.rc hW) rfl hl.1 rfl (Nat.le_of_ble_eq_true rfl) dL_hasValue_5 ⟨Nat.le_refl _, Nat.le_refl _⟩ (fun H1 q9 ce h1 h2 h3 h4 h5 => ?_)
    have h5 : s.vm.findClass "java/lang/IndexOutOfBoundsException" = some ce.cls := h5
    refine vx_catch hown [] ⟨0, 17, 20, 19⟩ [] (htb.trans rfl) (fun y9 hy9 => nomatch hy9) rfl (by decide) (hG _ cl_L_19) (hE.at _ (List.mem_of_getElem? (i := 3) rfl)) h3 h4 h5 ?_
    refine lv_astore (lv' := [(4, .ref (q9)), (0, .ref (ad 0)), (1, .int (x)), (2, .int (v)), (3, .ref (qo))]) hx hb dL_hasValue_20 hl (by decide) rfl (fun ls hl => ?_)
    refine lv_iconst (v := nI 1) hx hb dL_hasValue_22 (by decide) ?_
    exact w_i (by rw [hk9]) ⟨by rw [hc2]; exact (hW.kept (fun i hi => h2 _ (hW.lt hi))).mono (by omega), f, oneK hP (h2 _ (va_lt hP (k := 0) rfl)), fun h => absurd h hc⟩ ⟨h1, fun q hq _ => h2 q hq, fun y9 hy9 => nomatch hy9⟩ hx hb hr hlocks dL_hasValue_23
theorem cd_get (S : St) (x key or_ : Int32) : cdP 1 S (sp_get S x key or_) := by
  unfold sp_get askB
  repeat' split
  all_goals first | exact Or.inl rfl | exact Or.inr ⟨Nat.le_of_ble_eq_true rfl, rfl⟩
set_option maxHeartbeats 4000000 in
set_option maxRecDepth 100000 in
theorem wr_get (l : Launch) (hst : l.stackTraces = false) (D : va_G) (cI cC cL : ClassId) (ad ta : Nat → Nat) (z : Nat) (S : St) (N : Nat) (qo : Nat) (f : Nat → Int64) (x key or_ : Int32) (hI : Inv S) (hN : N + 2000 < 2 ^ 31) (hap : Ap ad 36) (hqo : ¬ Ao ad 36 qo) : Met l yL_get (wsW_ yL_get cL_get 6 (some .int) [(0, 12, 15, 19)]) rmW (va_Pc [.ref (ad 0), .int (x), .int (key), .int (or_), .ref (qo)] (pzw D [(cI, .int), (cC, .char), (cL, .long)] ta z (fun H => Wc D cI cC ad S N H ∧ va_P D vwCl (ouW cL qo f) H))) (Wq (some (.int (nI (sp_get S x key or_).1))) (fun H => Wc D cI cC ad (sp_get S x key or_).2.2 (N + 2000) H ∧ ∃ f9, va_P D vwCl (ouW cL qo f9) H ∧ ((sp_get S x key or_).1 = 0 → f9 0 = Int32.toInt64 (sp_get S x key or_).2.1)) (fun q => Ao ad 36 q ∨ q = qo)) 1 6 (fun q => Ao ad 36 q ∨ q = qo) := by
  by_cases hc : (sp_get S x key or_).1 = 0
  · have hok := ok_get l D cI cC ad S N x key or_ hI hN hap hc
    refine m_startW (by decide) (Nat.le_of_ble_eq_true rfl) ?_
    intro p e s m below meth c hx hb hr hG hown hlocks hml htb hB ls hl
    have hl : lv_has ls 6 [(0, .ref (ad 0)), (1, .int (x)), (2, .int (key)), (3, .int (or_)), (4, .ref (qo))] := hl
    obtain ⟨⟨hW, hP⟩, hK, hE, hT, hZ, hX⟩ := hB
    have hS : va_S (fun q => Ao ad 36 q ∨ q = qo) s.heap s.heap [] := va_S.rf
    refine W.widen (k := 1) (n := 6) (by decide) (by decide) ?_
    refine lv_aload hx hb dL_get_0 (lv_at hl 4 rfl) ?_
    refine lv_iconst (v := nI 0) hx hb dL_get_2 (by decide) ?_
    refine lv_aload_n hx hb dL_get_3 rfl (lv_at hl 0 rfl) ?_
    refine lv_iload_n hx hb dL_get_4 rfl (lv_at hl 1 rfl) ?_
    refine lv_iload_n hx hb dL_get_5 rfl (lv_at hl 2 rfl) ?_
    refine lv_iload_n hx hb dL_get_6 rfl (lv_at hl 3 rfl) ?_
    refine k2_V hx hb hml hown hG cs_L_100 hok (by decide) (pzV (hK.sub (tys' := [(cI, .int), (cC, .char)]) [0, 1] rfl) rfl hW.rc hW) rfl hl.1 rfl (Nat.le_of_ble_eq_true rfl) dL_get_7 ⟨Nat.le_refl _, Nat.le_refl _⟩ rfl hS (fun q h => Or.inl h) (fun H locs hW hz hk hS => ?_)
    have hP := oneK hP (hk qo (va_lt hP (k := 0) rfl) hqo)
    refine lv_i2l (v := Int32.toInt64 ((sp_get S x key or_).2.1)) hx hb dL_get_10 rfl ?_
    refine x_last0 hx hb hK hP hS (Or.inr rfl) 2 rfl dL_get_11 (fun H locs f9 hf hP ho hS => ?_)
    have hW := hW.kept (fun i hi => ho _ (fun e9 => hqo ⟨i, hi, e9.symm⟩))
    refine lv_goto (tgt := 19) hx hb dL_get_12 (by decide) ?_
    refine lv_iconst (v := nI 0) hx hb dL_get_19 (by decide) ?_
    exact w_i (by rw [hc]) ⟨hW, f9, hP, fun _ => hf⟩ hS hx hb hr hlocks dL_get_20
  · obtain ⟨hc1, hc2⟩ := (cd_get S x key or_).resolve_left hc
    have hxx := xx_get l hst D cI cC ad ta z S N x key or_ hI hc
    have hk9 : (sp_get S x key or_).1 = 1 := by omega
    rw [hk9] at hxx
    refine m_startW (by decide) (Nat.le_of_ble_eq_true rfl) ?_
    intro p e s m below meth c hx hb hr hG hown hlocks hml htb hB ls hl
    have hl : lv_has ls 6 [(0, .ref (ad 0)), (1, .int (x)), (2, .int (key)), (3, .int (or_)), (4, .ref (qo))] := hl
    obtain ⟨⟨hW, hP⟩, hK, hE, hT, hZ, hX⟩ := hB
    refine lv_aload hx hb dL_get_0 (lv_at hl 4 rfl) ?_
    refine lv_iconst (v := nI 0) hx hb dL_get_2 (by decide) ?_
    refine lv_aload_n hx hb dL_get_3 rfl (lv_at hl 0 rfl) ?_
    refine lv_iload_n hx hb dL_get_4 rfl (lv_at hl 1 rfl) ?_
    refine lv_iload_n hx hb dL_get_5 rfl (lv_at hl 2 rfl) ?_
    refine lv_iload_n hx hb dL_get_6 rfl (lv_at hl 3 rfl) ?_
    refine k3_V hx hb hml hown hG cs_L_100 hxx (by decide) (pztV (hK.sub (tys' := [(cI, .int), (cC, .char)]) [0, 1] rfl) hE hT hZ (fun _ _ _ => rfl) rfl hW.rc hW) rfl hl.1 rfl (Nat.le_of_ble_eq_true rfl) dL_get_7 ⟨Nat.le_refl _, Nat.le_refl _⟩ (fun H1 q9 ce h1 h2 h3 h4 h5 => ?_)
    have h5 : s.vm.findClass "java/lang/IndexOutOfBoundsException" = some ce.cls := h5
    refine vx_catch hown [] ⟨0, 12, 15, 19⟩ [] (htb.trans rfl) (fun y9 hy9 => nomatch hy9) rfl (by decide) (hG _ cl_L_19) (hE.at _ (List.mem_of_getElem? (i := 3) rfl)) h3 h4 h5 ?_
    refine lv_astore (lv' := [(5, .ref (q9)), (0, .ref (ad 0)), (1, .int (x)), (2, .int (key)), (3, .int (or_)), (4, .ref (qo))]) hx hb dL_get_15 hl (by decide) rfl (fun ls hl => ?_)
    refine lv_iconst (v := nI 1) hx hb dL_get_17 (by decide) ?_
    exact w_i (by rw [hk9]) ⟨by rw [hc2]; exact (hW.kept (fun i hi => h2 _ (hW.lt hi))).mono (by omega), f, oneK hP (h2 _ (va_lt hP (k := 0) rfl)), fun h => absurd h hc⟩ ⟨h1, fun q hq _ => h2 q hq, fun y9 hy9 => nomatch hy9⟩ hx hb hr hlocks dL_get_18
theorem cd_keyAt (S : St) (x y : Int32) : cdP 1 S (sp_keyAt S x y) := by
  unfold sp_keyAt askP
  repeat' split
  all_goals first | exact Or.inl rfl | exact Or.inr ⟨Nat.le_of_ble_eq_true rfl, rfl⟩
set_option maxHeartbeats 4000000 in
set_option maxRecDepth 100000 in
theorem wr_keyAt (l : Launch) (hst : l.stackTraces = false) (D : va_G) (cI cC cL : ClassId) (ad ta : Nat → Nat) (z : Nat) (S : St) (N : Nat) (qo : Nat) (f : Nat → Int64) (x y : Int32) (hI : Inv S) (hN : N + 2000 < 2 ^ 31) (hap : Ap ad 36) (hqo : ¬ Ao ad 36 qo) : Met l yL_keyAt (wsW_ yL_keyAt cL_keyAt 5 (some .int) [(0, 10, 13, 19)]) rmW (va_Pc [.ref (ad 0), .int (x), .int (y), .ref (qo)] (pzw D [(cI, .int), (cC, .char), (cL, .long)] ta z (fun H => Wc D cI cC ad S N H ∧ va_P D vwCl (ouW cL qo f) H))) (Wq (some (.int (nI (sp_keyAt S x y).1))) (fun H => Wc D cI cC ad (sp_keyAt S x y).2.2 (N + 2000) H ∧ ∃ f9, va_P D vwCl (ouW cL qo f9) H ∧ ((sp_keyAt S x y).1 = 0 → f9 0 = Int32.toInt64 (sp_keyAt S x y).2.1)) (fun q => Ao ad 36 q ∨ q = qo)) 1 6 (fun q => Ao ad 36 q ∨ q = qo) := by
  by_cases hc : (sp_keyAt S x y).1 = 0
  · have hok := ok_keyAt l D cI cC ad S N x y hI hN hap hc
    refine m_startW (by decide) (Nat.le_of_ble_eq_true rfl) ?_
    intro p e s m below meth c hx hb hr hG hown hlocks hml htb hB ls hl
    have hl : lv_has ls 5 [(0, .ref (ad 0)), (1, .int (x)), (2, .int (y)), (3, .ref (qo))] := hl
    obtain ⟨⟨hW, hP⟩, hK, hE, hT, hZ, hX⟩ := hB
    have hS : va_S (fun q => Ao ad 36 q ∨ q = qo) s.heap s.heap [] := va_S.rf
    refine W.widen (k := 1) (n := 6) (by decide) (by decide) ?_
    refine lv_aload_n hx hb dL_keyAt_0 rfl (lv_at hl 3 rfl) ?_
    refine lv_iconst (v := nI 0) hx hb dL_keyAt_1 (by decide) ?_
    refine lv_aload_n hx hb dL_keyAt_2 rfl (lv_at hl 0 rfl) ?_
    refine lv_iload_n hx hb dL_keyAt_3 rfl (lv_at hl 1 rfl) ?_
    refine lv_iload_n hx hb dL_keyAt_4 rfl (lv_at hl 2 rfl) ?_
    refine k2_V hx hb hml hown hG cs_L_103 hok (by decide) (pzV (hK.sub (tys' := [(cI, .int), (cC, .char)]) [0, 1] rfl) rfl hW.rc hW) rfl hl.1 rfl (Nat.le_of_ble_eq_true rfl) dL_keyAt_5 ⟨Nat.le_refl _, Nat.le_refl _⟩ rfl hS (fun q h => Or.inl h) (fun H locs hW hz hk hS => ?_)
    have hP := oneK hP (hk qo (va_lt hP (k := 0) rfl) hqo)
    refine lv_i2l (v := Int32.toInt64 ((sp_keyAt S x y).2.1)) hx hb dL_keyAt_8 rfl ?_
    refine x_last0 hx hb hK hP hS (Or.inr rfl) 2 rfl dL_keyAt_9 (fun H locs f9 hf hP ho hS => ?_)
    have hW := hW.kept (fun i hi => ho _ (fun e9 => hqo ⟨i, hi, e9.symm⟩))
    refine lv_goto (tgt := 17) hx hb dL_keyAt_10 (by decide) ?_
    refine lv_iconst (v := nI 0) hx hb dL_keyAt_17 (by decide) ?_
    exact w_i (by rw [hc]) ⟨hW, f9, hP, fun _ => hf⟩ hS hx hb hr hlocks dL_keyAt_18
  · obtain ⟨hc1, hc2⟩ := (cd_keyAt S x y).resolve_left hc
    have hxx := xx_keyAt l hst D cI cC ad ta z S N x y hI hc
    have hk9 : (sp_keyAt S x y).1 = 1 := by omega
    rw [hk9] at hxx
    refine m_startW (by decide) (Nat.le_of_ble_eq_true rfl) ?_
    intro p e s m below meth c hx hb hr hG hown hlocks hml htb hB ls hl
    have hl : lv_has ls 5 [(0, .ref (ad 0)), (1, .int (x)), (2, .int (y)), (3, .ref (qo))] := hl
    obtain ⟨⟨hW, hP⟩, hK, hE, hT, hZ, hX⟩ := hB
    refine lv_aload_n hx hb dL_keyAt_0 rfl (lv_at hl 3 rfl) ?_
    refine lv_iconst (v := nI 0) hx hb dL_keyAt_1 (by decide) ?_
    refine lv_aload_n hx hb dL_keyAt_2 rfl (lv_at hl 0 rfl) ?_
    refine lv_iload_n hx hb dL_keyAt_3 rfl (lv_at hl 1 rfl) ?_
    refine lv_iload_n hx hb dL_keyAt_4 rfl (lv_at hl 2 rfl) ?_
    refine k3_V hx hb hml hown hG cs_L_103 hxx (by decide) (pztV (hK.sub (tys' := [(cI, .int), (cC, .char)]) [0, 1] rfl) hE hT hZ (fun _ _ _ => rfl) rfl hW.rc hW) rfl hl.1 rfl (Nat.le_of_ble_eq_true rfl) dL_keyAt_5 ⟨Nat.le_refl _, Nat.le_refl _⟩ (fun H1 q9 ce h1 h2 h3 h4 h5 => ?_)
    have h5 : s.vm.findClass "java/lang/IndexOutOfBoundsException" = some ce.cls := h5
    refine vx_catch hown [] ⟨0, 10, 13, 19⟩ [] (htb.trans rfl) (fun y9 hy9 => nomatch hy9) rfl (by decide) (hG _ cl_L_19) (hE.at _ (List.mem_of_getElem? (i := 3) rfl)) h3 h4 h5 ?_
    refine lv_astore (lv' := [(4, .ref (q9)), (0, .ref (ad 0)), (1, .int (x)), (2, .int (y)), (3, .ref (qo))]) hx hb dL_keyAt_13 hl (by decide) rfl (fun ls hl => ?_)
    refine lv_iconst (v := nI 1) hx hb dL_keyAt_15 (by decide) ?_
    exact w_i (by rw [hk9]) ⟨by rw [hc2]; exact (hW.kept (fun i hi => h2 _ (hW.lt hi))).mono (by omega), f, oneK hP (h2 _ (va_lt hP (k := 0) rfl)), fun h => absurd h hc⟩ ⟨h1, fun q hq _ => h2 q hq, fun y9 hy9 => nomatch hy9⟩ hx hb hr hlocks dL_keyAt_16
theorem cd_valueAt (S : St) (x y : Int32) : cdP 1 S (sp_valueAt S x y) := by
  unfold sp_valueAt askP
  repeat' split
  all_goals first | exact Or.inl rfl | exact Or.inr ⟨Nat.le_of_ble_eq_true rfl, rfl⟩
set_option maxHeartbeats 4000000 in
set_option maxRecDepth 100000 in
theorem wr_valueAt (l : Launch) (hst : l.stackTraces = false) (D : va_G) (cI cC cL : ClassId) (ad ta : Nat → Nat) (z : Nat) (S : St) (N : Nat) (qo : Nat) (f : Nat → Int64) (x y : Int32) (hI : Inv S) (hN : N + 2000 < 2 ^ 31) (hap : Ap ad 36) (hqo : ¬ Ao ad 36 qo) : Met l yL_valueAt (wsW_ yL_valueAt cL_valueAt 5 (some .int) [(0, 10, 13, 19)]) rmW (va_Pc [.ref (ad 0), .int (x), .int (y), .ref (qo)] (pzw D [(cI, .int), (cC, .char), (cL, .long)] ta z (fun H => Wc D cI cC ad S N H ∧ va_P D vwCl (ouW cL qo f) H))) (Wq (some (.int (nI (sp_valueAt S x y).1))) (fun H => Wc D cI cC ad (sp_valueAt S x y).2.2 (N + 2000) H ∧ ∃ f9, va_P D vwCl (ouW cL qo f9) H ∧ ((sp_valueAt S x y).1 = 0 → f9 0 = Int32.toInt64 (sp_valueAt S x y).2.1)) (fun q => Ao ad 36 q ∨ q = qo)) 1 6 (fun q => Ao ad 36 q ∨ q = qo) := by
  by_cases hc : (sp_valueAt S x y).1 = 0
  · have hok := ok_valueAt l D cI cC ad S N x y hI hN hap hc
    refine m_startW (by decide) (Nat.le_of_ble_eq_true rfl) ?_
    intro p e s m below meth c hx hb hr hG hown hlocks hml htb hB ls hl
    have hl : lv_has ls 5 [(0, .ref (ad 0)), (1, .int (x)), (2, .int (y)), (3, .ref (qo))] := hl
    obtain ⟨⟨hW, hP⟩, hK, hE, hT, hZ, hX⟩ := hB
    have hS : va_S (fun q => Ao ad 36 q ∨ q = qo) s.heap s.heap [] := va_S.rf
    refine W.widen (k := 1) (n := 6) (by decide) (by decide) ?_
    refine lv_aload_n hx hb dL_valueAt_0 rfl (lv_at hl 3 rfl) ?_
    refine lv_iconst (v := nI 0) hx hb dL_valueAt_1 (by decide) ?_
    refine lv_aload_n hx hb dL_valueAt_2 rfl (lv_at hl 0 rfl) ?_
    refine lv_iload_n hx hb dL_valueAt_3 rfl (lv_at hl 1 rfl) ?_
    refine lv_iload_n hx hb dL_valueAt_4 rfl (lv_at hl 2 rfl) ?_
    refine k2_V hx hb hml hown hG cs_L_106 hok (by decide) (pzV (hK.sub (tys' := [(cI, .int), (cC, .char)]) [0, 1] rfl) rfl hW.rc hW) rfl hl.1 rfl (Nat.le_of_ble_eq_true rfl) dL_valueAt_5 ⟨Nat.le_refl _, Nat.le_refl _⟩ rfl hS (fun q h => Or.inl h) (fun H locs hW hz hk hS => ?_)
    have hP := oneK hP (hk qo (va_lt hP (k := 0) rfl) hqo)
    refine lv_i2l (v := Int32.toInt64 ((sp_valueAt S x y).2.1)) hx hb dL_valueAt_8 rfl ?_
    refine x_last0 hx hb hK hP hS (Or.inr rfl) 2 rfl dL_valueAt_9 (fun H locs f9 hf hP ho hS => ?_)
    have hW := hW.kept (fun i hi => ho _ (fun e9 => hqo ⟨i, hi, e9.symm⟩))
    refine lv_goto (tgt := 17) hx hb dL_valueAt_10 (by decide) ?_
    refine lv_iconst (v := nI 0) hx hb dL_valueAt_17 (by decide) ?_
    exact w_i (by rw [hc]) ⟨hW, f9, hP, fun _ => hf⟩ hS hx hb hr hlocks dL_valueAt_18
  · obtain ⟨hc1, hc2⟩ := (cd_valueAt S x y).resolve_left hc
    have hxx := xx_valueAt l hst D cI cC ad ta z S N x y hI hc
    have hk9 : (sp_valueAt S x y).1 = 1 := by omega
    rw [hk9] at hxx
    refine m_startW (by decide) (Nat.le_of_ble_eq_true rfl) ?_
    intro p e s m below meth c hx hb hr hG hown hlocks hml htb hB ls hl
    have hl : lv_has ls 5 [(0, .ref (ad 0)), (1, .int (x)), (2, .int (y)), (3, .ref (qo))] := hl
    obtain ⟨⟨hW, hP⟩, hK, hE, hT, hZ, hX⟩ := hB
    refine lv_aload_n hx hb dL_valueAt_0 rfl (lv_at hl 3 rfl) ?_
    refine lv_iconst (v := nI 0) hx hb dL_valueAt_1 (by decide) ?_
    refine lv_aload_n hx hb dL_valueAt_2 rfl (lv_at hl 0 rfl) ?_
    refine lv_iload_n hx hb dL_valueAt_3 rfl (lv_at hl 1 rfl) ?_
    refine lv_iload_n hx hb dL_valueAt_4 rfl (lv_at hl 2 rfl) ?_
    refine k3_V hx hb hml hown hG cs_L_106 hxx (by decide) (pztV (hK.sub (tys' := [(cI, .int), (cC, .char)]) [0, 1] rfl) hE hT hZ (fun _ _ _ => rfl) rfl hW.rc hW) rfl hl.1 rfl (Nat.le_of_ble_eq_true rfl) dL_valueAt_5 ⟨Nat.le_refl _, Nat.le_refl _⟩ (fun H1 q9 ce h1 h2 h3 h4 h5 => ?_)
    have h5 : s.vm.findClass "java/lang/IndexOutOfBoundsException" = some ce.cls := h5
    refine vx_catch hown [] ⟨0, 10, 13, 19⟩ [] (htb.trans rfl) (fun y9 hy9 => nomatch hy9) rfl (by decide) (hG _ cl_L_19) (hE.at _ (List.mem_of_getElem? (i := 3) rfl)) h3 h4 h5 ?_
    refine lv_astore (lv' := [(4, .ref (q9)), (0, .ref (ad 0)), (1, .int (x)), (2, .int (y)), (3, .ref (qo))]) hx hb dL_valueAt_13 hl (by decide) rfl (fun ls hl => ?_)
    refine lv_iconst (v := nI 1) hx hb dL_valueAt_15 (by decide) ?_
    exact w_i (by rw [hk9]) ⟨by rw [hc2]; exact (hW.kept (fun i hi => h2 _ (hW.lt hi))).mono (by omega), f, oneK hP (h2 _ (va_lt hP (k := 0) rfl)), fun h => absurd h hc⟩ ⟨h1, fun q hq _ => h2 q hq, fun y9 hy9 => nomatch hy9⟩ hx hb hr hlocks dL_valueAt_16
theorem cd_placeOf (S : St) (x key : Int32) : cdP 1 S (sp_placeOf S x key) := by
  unfold sp_placeOf askB
  repeat' split
  all_goals first | exact Or.inl rfl | exact Or.inr ⟨Nat.le_of_ble_eq_true rfl, rfl⟩
set_option maxHeartbeats 4000000 in
set_option maxRecDepth 100000 in
theorem wr_placeOf (l : Launch) (hst : l.stackTraces = false) (D : va_G) (cI cC cL : ClassId) (ad ta : Nat → Nat) (z : Nat) (S : St) (N : Nat) (qo : Nat) (f : Nat → Int64) (x key : Int32) (hI : Inv S) (hN : N + 2000 < 2 ^ 31) (hap : Ap ad 36) (hqo : ¬ Ao ad 36 qo) : Met l yL_placeOf (wsW_ yL_placeOf cL_placeOf 5 (some .int) [(0, 10, 13, 19)]) rmW (va_Pc [.ref (ad 0), .int (x), .int (key), .ref (qo)] (pzw D [(cI, .int), (cC, .char), (cL, .long)] ta z (fun H => Wc D cI cC ad S N H ∧ va_P D vwCl (ouW cL qo f) H))) (Wq (some (.int (nI (sp_placeOf S x key).1))) (fun H => Wc D cI cC ad (sp_placeOf S x key).2.2 (N + 2000) H ∧ ∃ f9, va_P D vwCl (ouW cL qo f9) H ∧ ((sp_placeOf S x key).1 = 0 → f9 0 = Int32.toInt64 (sp_placeOf S x key).2.1)) (fun q => Ao ad 36 q ∨ q = qo)) 1 6 (fun q => Ao ad 36 q ∨ q = qo) := by
  by_cases hc : (sp_placeOf S x key).1 = 0
  · have hok := ok_placeOf l D cI cC ad S N x key hI hN hap hc
    refine m_startW (by decide) (Nat.le_of_ble_eq_true rfl) ?_
    intro p e s m below meth c hx hb hr hG hown hlocks hml htb hB ls hl
    have hl : lv_has ls 5 [(0, .ref (ad 0)), (1, .int (x)), (2, .int (key)), (3, .ref (qo))] := hl
    obtain ⟨⟨hW, hP⟩, hK, hE, hT, hZ, hX⟩ := hB
    have hS : va_S (fun q => Ao ad 36 q ∨ q = qo) s.heap s.heap [] := va_S.rf
    refine W.widen (k := 1) (n := 6) (by decide) (by decide) ?_
    refine lv_aload_n hx hb dL_placeOf_0 rfl (lv_at hl 3 rfl) ?_
    refine lv_iconst (v := nI 0) hx hb dL_placeOf_1 (by decide) ?_
    refine lv_aload_n hx hb dL_placeOf_2 rfl (lv_at hl 0 rfl) ?_
    refine lv_iload_n hx hb dL_placeOf_3 rfl (lv_at hl 1 rfl) ?_
    refine lv_iload_n hx hb dL_placeOf_4 rfl (lv_at hl 2 rfl) ?_
    refine k2_V hx hb hml hown hG cs_L_109 hok (by decide) (pzV (hK.sub (tys' := [(cI, .int), (cC, .char)]) [0, 1] rfl) rfl hW.rc hW) rfl hl.1 rfl (Nat.le_of_ble_eq_true rfl) dL_placeOf_5 ⟨Nat.le_refl _, Nat.le_refl _⟩ rfl hS (fun q h => Or.inl h) (fun H locs hW hz hk hS => ?_)
    have hP := oneK hP (hk qo (va_lt hP (k := 0) rfl) hqo)
    refine lv_i2l (v := Int32.toInt64 ((sp_placeOf S x key).2.1)) hx hb dL_placeOf_8 rfl ?_
    refine x_last0 hx hb hK hP hS (Or.inr rfl) 2 rfl dL_placeOf_9 (fun H locs f9 hf hP ho hS => ?_)
    have hW := hW.kept (fun i hi => ho _ (fun e9 => hqo ⟨i, hi, e9.symm⟩))
    refine lv_goto (tgt := 17) hx hb dL_placeOf_10 (by decide) ?_
    refine lv_iconst (v := nI 0) hx hb dL_placeOf_17 (by decide) ?_
    exact w_i (by rw [hc]) ⟨hW, f9, hP, fun _ => hf⟩ hS hx hb hr hlocks dL_placeOf_18
  · obtain ⟨hc1, hc2⟩ := (cd_placeOf S x key).resolve_left hc
    have hxx := xx_placeOf l hst D cI cC ad ta z S N x key hI hc
    have hk9 : (sp_placeOf S x key).1 = 1 := by omega
    rw [hk9] at hxx
    refine m_startW (by decide) (Nat.le_of_ble_eq_true rfl) ?_
    intro p e s m below meth c hx hb hr hG hown hlocks hml htb hB ls hl
    have hl : lv_has ls 5 [(0, .ref (ad 0)), (1, .int (x)), (2, .int (key)), (3, .ref (qo))] := hl
    obtain ⟨⟨hW, hP⟩, hK, hE, hT, hZ, hX⟩ := hB
    refine lv_aload_n hx hb dL_placeOf_0 rfl (lv_at hl 3 rfl) ?_
    refine lv_iconst (v := nI 0) hx hb dL_placeOf_1 (by decide) ?_
    refine lv_aload_n hx hb dL_placeOf_2 rfl (lv_at hl 0 rfl) ?_
    refine lv_iload_n hx hb dL_placeOf_3 rfl (lv_at hl 1 rfl) ?_
    refine lv_iload_n hx hb dL_placeOf_4 rfl (lv_at hl 2 rfl) ?_
    refine k3_V hx hb hml hown hG cs_L_109 hxx (by decide) (pztV (hK.sub (tys' := [(cI, .int), (cC, .char)]) [0, 1] rfl) hE hT hZ (fun _ _ _ => rfl) rfl hW.rc hW) rfl hl.1 rfl (Nat.le_of_ble_eq_true rfl) dL_placeOf_5 ⟨Nat.le_refl _, Nat.le_refl _⟩ (fun H1 q9 ce h1 h2 h3 h4 h5 => ?_)
    have h5 : s.vm.findClass "java/lang/IndexOutOfBoundsException" = some ce.cls := h5
    refine vx_catch hown [] ⟨0, 10, 13, 19⟩ [] (htb.trans rfl) (fun y9 hy9 => nomatch hy9) rfl (by decide) (hG _ cl_L_19) (hE.at _ (List.mem_of_getElem? (i := 3) rfl)) h3 h4 h5 ?_
    refine lv_astore (lv' := [(4, .ref (q9)), (0, .ref (ad 0)), (1, .int (x)), (2, .int (key)), (3, .ref (qo))]) hx hb dL_placeOf_13 hl (by decide) rfl (fun ls hl => ?_)
    refine lv_iconst (v := nI 1) hx hb dL_placeOf_15 (by decide) ?_
    exact w_i (by rw [hk9]) ⟨by rw [hc2]; exact (hW.kept (fun i hi => h2 _ (hW.lt hi))).mono (by omega), f, oneK hP (h2 _ (va_lt hP (k := 0) rfl)), fun h => absurd h hc⟩ ⟨h1, fun q hq _ => h2 q hq, fun y9 hy9 => nomatch hy9⟩ hx hb hr hlocks dL_placeOf_16
theorem cd_areEqual (S : St) (x y : Int32) : cdP 1 S (sp_areEqual S x y) := by
  unfold sp_areEqual ask2
  repeat' split
  all_goals first | exact Or.inl rfl | exact Or.inr ⟨Nat.le_of_ble_eq_true rfl, rfl⟩
set_option maxHeartbeats 4000000 in
set_option maxRecDepth 100000 in
theorem wr_areEqual (l : Launch) (hst : l.stackTraces = false) (D : va_G) (cI cC cL : ClassId) (ad ta : Nat → Nat) (z : Nat) (S : St) (N : Nat) (qo : Nat) (f : Nat → Int64) (x y : Int32) (hI : Inv S) (hN : N + 2000 < 2 ^ 31) (hap : Ap ad 36) (hqo : ¬ Ao ad 36 qo) : Met l yL_areEqual (wsW_ yL_areEqual cL_areEqual 5 (some .int) [(0, 17, 20, 19)]) rmW (va_Pc [.ref (ad 0), .int (x), .int (y), .ref (qo)] (pzw D [(cI, .int), (cC, .char), (cL, .long)] ta z (fun H => Wc D cI cC ad S N H ∧ va_P D vwCl (ouW cL qo f) H))) (Wq (some (.int (nI (sp_areEqual S x y).1))) (fun H => Wc D cI cC ad (sp_areEqual S x y).2.2 (N + 2000) H ∧ ∃ f9, va_P D vwCl (ouW cL qo f9) H ∧ ((sp_areEqual S x y).1 = 0 → f9 0 = zl (sp_areEqual S x y).2.1)) (fun q => Ao ad 36 q ∨ q = qo)) 1 6 (fun q => Ao ad 36 q ∨ q = qo) := by
  by_cases hc : (sp_areEqual S x y).1 = 0
  · have hok := ok_areEqual l D cI cC ad S N x y hI hN hap hc
    refine m_startW (by decide) (Nat.le_of_ble_eq_true rfl) ?_
    intro p e s m below meth c hx hb hr hG hown hlocks hml htb hB ls hl
    have hl : lv_has ls 5 [(0, .ref (ad 0)), (1, .int (x)), (2, .int (y)), (3, .ref (qo))] := hl
    obtain ⟨⟨hW, hP⟩, hK, hE, hT, hZ, hX⟩ := hB
    have hS : va_S (fun q => Ao ad 36 q ∨ q = qo) s.heap s.heap [] := va_S.rf
    refine W.widen (k := 1) (n := 6) (by decide) (by decide) ?_
    refine lv_aload_n hx hb dL_areEqual_0 rfl (lv_at hl 3 rfl) ?_
    refine lv_iconst (v := nI 0) hx hb dL_areEqual_1 (by decide) ?_
    refine lv_aload_n hx hb dL_areEqual_2 rfl (lv_at hl 0 rfl) ?_
    refine lv_iload_n hx hb dL_areEqual_3 rfl (lv_at hl 1 rfl) ?_
    refine lv_iload_n hx hb dL_areEqual_4 rfl (lv_at hl 2 rfl) ?_
    refine k2_V hx hb hml hown hG cs_L_112 hok (by decide) (pzV (hK.sub (tys' := [(cI, .int), (cC, .char)]) [0, 1] rfl) rfl hW.rc hW) rfl hl.1 rfl (Nat.le_of_ble_eq_true rfl) dL_areEqual_5 ⟨Nat.le_refl _, Nat.le_refl _⟩ rfl hS (fun q h => Or.inl h) (fun H locs hW hz hk hS => ?_)
    have hP := oneK hP (hk qo (va_lt hP (k := 0) rfl) hqo)
    refine x_ifb_eq (tgt := 15) hx hb dL_areEqual_8 (by decide) (fun c1 => ?_) (fun c1 => ?_)
    · refine lv_lconst (v := lN (0)) hx hb dL_areEqual_15 (by decide) ?_
      refine x_last0 hx hb hK hP hS (Or.inr rfl) 2 rfl dL_areEqual_16 (fun H locs f9 hf hP ho hS => ?_)
      have hW := hW.kept (fun i hi => ho _ (fun e9 => hqo ⟨i, hi, e9.symm⟩))
      refine lv_goto (tgt := 24) hx hb dL_areEqual_17 (by decide) ?_
      refine lv_iconst (v := nI 0) hx hb dL_areEqual_24 (by decide) ?_
      exact w_i (by rw [hc]) ⟨hW, f9, hP, fun _ => by rw [hf, c1]; rfl⟩ hS hx hb hr hlocks dL_areEqual_25
    · refine lv_lconst (v := lN (1)) hx hb dL_areEqual_11 (by decide) ?_
      refine lv_goto (tgt := 16) hx hb dL_areEqual_12 (by decide) ?_
      refine x_last0 hx hb hK hP hS (Or.inr rfl) 2 rfl dL_areEqual_16 (fun H locs f9 hf hP ho hS => ?_)
      have hW := hW.kept (fun i hi => ho _ (fun e9 => hqo ⟨i, hi, e9.symm⟩))
      refine lv_goto (tgt := 24) hx hb dL_areEqual_17 (by decide) ?_
      refine lv_iconst (v := nI 0) hx hb dL_areEqual_24 (by decide) ?_
      exact w_i (by rw [hc]) ⟨hW, f9, hP, fun _ => by rw [hf, c1]; rfl⟩ hS hx hb hr hlocks dL_areEqual_25
  · obtain ⟨hc1, hc2⟩ := (cd_areEqual S x y).resolve_left hc
    have hxx := xx_areEqual l hst D cI cC ad ta z S N x y hI hc
    have hk9 : (sp_areEqual S x y).1 = 1 := by omega
    rw [hk9] at hxx
    refine m_startW (by decide) (Nat.le_of_ble_eq_true rfl) ?_
    intro p e s m below meth c hx hb hr hG hown hlocks hml htb hB ls hl
    have hl : lv_has ls 5 [(0, .ref (ad 0)), (1, .int (x)), (2, .int (y)), (3, .ref (qo))] := hl
    obtain ⟨⟨hW, hP⟩, hK, hE, hT, hZ, hX⟩ := hB
    refine lv_aload_n hx hb dL_areEqual_0 rfl (lv_at hl 3 rfl) ?_
    refine lv_iconst (v := nI 0) hx hb dL_areEqual_1 (by decide) ?_
    refine lv_aload_n hx hb dL_areEqual_2 rfl (lv_at hl 0 rfl) ?_
    refine lv_iload_n hx hb dL_areEqual_3 rfl (lv_at hl 1 rfl) ?_
    refine lv_iload_n hx hb dL_areEqual_4 rfl (lv_at hl 2 rfl) ?_
    refine k3_V hx hb hml hown hG cs_L_112 hxx (by decide) (pztV (hK.sub (tys' := [(cI, .int), (cC, .char)]) [0, 1] rfl) hE hT hZ (fun _ _ _ => rfl) rfl hW.rc hW) rfl hl.1 rfl (Nat.le_of_ble_eq_true rfl) dL_areEqual_5 ⟨Nat.le_refl _, Nat.le_refl _⟩ (fun H1 q9 ce h1 h2 h3 h4 h5 => ?_)
    have h5 : s.vm.findClass "java/lang/IndexOutOfBoundsException" = some ce.cls := h5
    refine vx_catch hown [] ⟨0, 17, 20, 19⟩ [] (htb.trans rfl) (fun y9 hy9 => nomatch hy9) rfl (by decide) (hG _ cl_L_19) (hE.at _ (List.mem_of_getElem? (i := 3) rfl)) h3 h4 h5 ?_
    refine lv_astore (lv' := [(4, .ref (q9)), (0, .ref (ad 0)), (1, .int (x)), (2, .int (y)), (3, .ref (qo))]) hx hb dL_areEqual_20 hl (by decide) rfl (fun ls hl => ?_)
    refine lv_iconst (v := nI 1) hx hb dL_areEqual_22 (by decide) ?_
    exact w_i (by rw [hk9]) ⟨by rw [hc2]; exact (hW.kept (fun i hi => h2 _ (hW.lt hi))).mono (by omega), f, oneK hP (h2 _ (va_lt hP (k := 0) rfl)), fun h => absurd h hc⟩ ⟨h1, fun q hq _ => h2 q hq, fun y9 hy9 => nomatch hy9⟩ hx hb hr hlocks dL_areEqual_23
theorem cd_areAlike (S : St) (x y : Int32) : cdP 1 S (sp_areAlike S x y) := by
  unfold sp_areAlike ask2
  repeat' split
  all_goals first | exact Or.inl rfl | exact Or.inr ⟨Nat.le_of_ble_eq_true rfl, rfl⟩
set_option maxHeartbeats 4000000 in
set_option maxRecDepth 100000 in
theorem wr_areAlike (l : Launch) (hst : l.stackTraces = false) (D : va_G) (cI cC cL : ClassId) (ad ta : Nat → Nat) (z : Nat) (S : St) (N : Nat) (qo : Nat) (f : Nat → Int64) (x y : Int32) (hI : Inv S) (hN : N + 2000 < 2 ^ 31) (hap : Ap ad 36) (hqo : ¬ Ao ad 36 qo) : Met l yL_areAlike (wsW_ yL_areAlike cL_areAlike 5 (some .int) [(0, 17, 20, 19)]) rmW (va_Pc [.ref (ad 0), .int (x), .int (y), .ref (qo)] (pzw D [(cI, .int), (cC, .char), (cL, .long)] ta z (fun H => Wc D cI cC ad S N H ∧ va_P D vwCl (ouW cL qo f) H))) (Wq (some (.int (nI (sp_areAlike S x y).1))) (fun H => Wc D cI cC ad (sp_areAlike S x y).2.2 (N + 2000) H ∧ ∃ f9, va_P D vwCl (ouW cL qo f9) H ∧ ((sp_areAlike S x y).1 = 0 → f9 0 = zl (sp_areAlike S x y).2.1)) (fun q => Ao ad 36 q ∨ q = qo)) 1 6 (fun q => Ao ad 36 q ∨ q = qo) := by
  by_cases hc : (sp_areAlike S x y).1 = 0
  · have hok := ok_areAlike l D cI cC ad S N x y hI hN hap hc
    refine m_startW (by decide) (Nat.le_of_ble_eq_true rfl) ?_
    intro p e s m below meth c hx hb hr hG hown hlocks hml htb hB ls hl
    have hl : lv_has ls 5 [(0, .ref (ad 0)), (1, .int (x)), (2, .int (y)), (3, .ref (qo))] := hl
    obtain ⟨⟨hW, hP⟩, hK, hE, hT, hZ, hX⟩ := hB
    have hS : va_S (fun q => Ao ad 36 q ∨ q = qo) s.heap s.heap [] := va_S.rf
    refine W.widen (k := 1) (n := 6) (by decide) (by decide) ?_
    refine lv_aload_n hx hb dL_areAlike_0 rfl (lv_at hl 3 rfl) ?_
    refine lv_iconst (v := nI 0) hx hb dL_areAlike_1 (by decide) ?_
    refine lv_aload_n hx hb dL_areAlike_2 rfl (lv_at hl 0 rfl) ?_
    refine lv_iload_n hx hb dL_areAlike_3 rfl (lv_at hl 1 rfl) ?_
    refine lv_iload_n hx hb dL_areAlike_4 rfl (lv_at hl 2 rfl) ?_
    refine k2_V hx hb hml hown hG cs_L_115 hok (by decide) (pzV (hK.sub (tys' := [(cI, .int), (cC, .char)]) [0, 1] rfl) rfl hW.rc hW) rfl hl.1 rfl (Nat.le_of_ble_eq_true rfl) dL_areAlike_5 ⟨Nat.le_refl _, Nat.le_refl _⟩ rfl hS (fun q h => Or.inl h) (fun H locs hW hz hk hS => ?_)
    have hP := oneK hP (hk qo (va_lt hP (k := 0) rfl) hqo)
    refine x_ifb_eq (tgt := 15) hx hb dL_areAlike_8 (by decide) (fun c1 => ?_) (fun c1 => ?_)
    · refine lv_lconst (v := lN (0)) hx hb dL_areAlike_15 (by decide) ?_
      refine x_last0 hx hb hK hP hS (Or.inr rfl) 2 rfl dL_areAlike_16 (fun H locs f9 hf hP ho hS => ?_)
      have hW := hW.kept (fun i hi => ho _ (fun e9 => hqo ⟨i, hi, e9.symm⟩))
      refine lv_goto (tgt := 24) hx hb dL_areAlike_17 (by decide) ?_
      refine lv_iconst (v := nI 0) hx hb dL_areAlike_24 (by decide) ?_
      exact w_i (by rw [hc]) ⟨hW, f9, hP, fun _ => by rw [hf, c1]; rfl⟩ hS hx hb hr hlocks dL_areAlike_25
    · refine lv_lconst (v := lN (1)) hx hb dL_areAlike_11 (by decide) ?_
      refine lv_goto (tgt := 16) hx hb dL_areAlike_12 (by decide) ?_
      refine x_last0 hx hb hK hP hS (Or.inr rfl) 2 rfl dL_areAlike_16 (fun H locs f9 hf hP ho hS => ?_)
      have hW := hW.kept (fun i hi => ho _ (fun e9 => hqo ⟨i, hi, e9.symm⟩))
      refine lv_goto (tgt := 24) hx hb dL_areAlike_17 (by decide) ?_
      refine lv_iconst (v := nI 0) hx hb dL_areAlike_24 (by decide) ?_
      exact w_i (by rw [hc]) ⟨hW, f9, hP, fun _ => by rw [hf, c1]; rfl⟩ hS hx hb hr hlocks dL_areAlike_25
  · obtain ⟨hc1, hc2⟩ := (cd_areAlike S x y).resolve_left hc
    have hxx := xx_areAlike l hst D cI cC ad ta z S N x y hI hc
    have hk9 : (sp_areAlike S x y).1 = 1 := by omega
    rw [hk9] at hxx
    refine m_startW (by decide) (Nat.le_of_ble_eq_true rfl) ?_
    intro p e s m below meth c hx hb hr hG hown hlocks hml htb hB ls hl
    have hl : lv_has ls 5 [(0, .ref (ad 0)), (1, .int (x)), (2, .int (y)), (3, .ref (qo))] := hl
    obtain ⟨⟨hW, hP⟩, hK, hE, hT, hZ, hX⟩ := hB
    refine lv_aload_n hx hb dL_areAlike_0 rfl (lv_at hl 3 rfl) ?_
    refine lv_iconst (v := nI 0) hx hb dL_areAlike_1 (by decide) ?_
    refine lv_aload_n hx hb dL_areAlike_2 rfl (lv_at hl 0 rfl) ?_
    refine lv_iload_n hx hb dL_areAlike_3 rfl (lv_at hl 1 rfl) ?_
    refine lv_iload_n hx hb dL_areAlike_4 rfl (lv_at hl 2 rfl) ?_
    refine k3_V hx hb hml hown hG cs_L_115 hxx (by decide) (pztV (hK.sub (tys' := [(cI, .int), (cC, .char)]) [0, 1] rfl) hE hT hZ (fun _ _ _ => rfl) rfl hW.rc hW) rfl hl.1 rfl (Nat.le_of_ble_eq_true rfl) dL_areAlike_5 ⟨Nat.le_refl _, Nat.le_refl _⟩ (fun H1 q9 ce h1 h2 h3 h4 h5 => ?_)
    have h5 : s.vm.findClass "java/lang/IndexOutOfBoundsException" = some ce.cls := h5
    refine vx_catch hown [] ⟨0, 17, 20, 19⟩ [] (htb.trans rfl) (fun y9 hy9 => nomatch hy9) rfl (by decide) (hG _ cl_L_19) (hE.at _ (List.mem_of_getElem? (i := 3) rfl)) h3 h4 h5 ?_
    refine lv_astore (lv' := [(4, .ref (q9)), (0, .ref (ad 0)), (1, .int (x)), (2, .int (y)), (3, .ref (qo))]) hx hb dL_areAlike_20 hl (by decide) rfl (fun ls hl => ?_)
    refine lv_iconst (v := nI 1) hx hb dL_areAlike_22 (by decide) ?_
    exact w_i (by rw [hk9]) ⟨by rw [hc2]; exact (hW.kept (fun i hi => h2 _ (hW.lt hi))).mono (by omega), f, oneK hP (h2 _ (va_lt hP (k := 0) rfl)), fun h => absurd h hc⟩ ⟨h1, fun q hq _ => h2 q hq, fun y9 hy9 => nomatch hy9⟩ hx hb hr hlocks dL_areAlike_23
theorem cd_hash (S : St) (x : Int32) : cdP 1 S (sp_hash S x) := by
  unfold sp_hash askB
  repeat' split
  all_goals first | exact Or.inl rfl | exact Or.inr ⟨Nat.le_of_ble_eq_true rfl, rfl⟩
set_option maxHeartbeats 4000000 in
set_option maxRecDepth 100000 in
theorem wr_hash (l : Launch) (hst : l.stackTraces = false) (D : va_G) (cI cC cL : ClassId) (ad ta : Nat → Nat) (z : Nat) (S : St) (N : Nat) (qo : Nat) (f : Nat → Int64) (x : Int32) (hI : Inv S) (hN : N + 2000 < 2 ^ 31) (hap : Ap ad 36) (hqo : ¬ Ao ad 36 qo) : Met l yL_hash (wsW_ yL_hash cL_hash 4 (some .int) [(0, 9, 12, 19)]) rmW (va_Pc [.ref (ad 0), .int (x), .ref (qo)] (pzw D [(cI, .int), (cC, .char), (cL, .long)] ta z (fun H => Wc D cI cC ad S N H ∧ va_P D vwCl (ouW cL qo f) H))) (Wq (some (.int (nI (sp_hash S x).1))) (fun H => Wc D cI cC ad (sp_hash S x).2.2 (N + 2000) H ∧ ∃ f9, va_P D vwCl (ouW cL qo f9) H ∧ ((sp_hash S x).1 = 0 → f9 0 = Int32.toInt64 (sp_hash S x).2.1)) (fun q => Ao ad 36 q ∨ q = qo)) 1 6 (fun q => Ao ad 36 q ∨ q = qo) := by
  by_cases hc : (sp_hash S x).1 = 0
  · have hok := ok_hash l D cI cC ad S N x hI hN hap hc
    refine m_startW (by decide) (Nat.le_of_ble_eq_true rfl) ?_
    intro p e s m below meth c hx hb hr hG hown hlocks hml htb hB ls hl
    have hl : lv_has ls 4 [(0, .ref (ad 0)), (1, .int (x)), (2, .ref (qo))] := hl
    obtain ⟨⟨hW, hP⟩, hK, hE, hT, hZ, hX⟩ := hB
    have hS : va_S (fun q => Ao ad 36 q ∨ q = qo) s.heap s.heap [] := va_S.rf
    refine W.widen (k := 1) (n := 6) (by decide) (by decide) ?_
    refine lv_aload_n hx hb dL_hash_0 rfl (lv_at hl 2 rfl) ?_
    refine lv_iconst (v := nI 0) hx hb dL_hash_1 (by decide) ?_
    refine lv_aload_n hx hb dL_hash_2 rfl (lv_at hl 0 rfl) ?_
    refine lv_iload_n hx hb dL_hash_3 rfl (lv_at hl 1 rfl) ?_
    refine k2_V hx hb hml hown hG cs_L_118 hok (by decide) (pzV (hK.sub (tys' := [(cI, .int), (cC, .char)]) [0, 1] rfl) rfl hW.rc hW) rfl hl.1 rfl (Nat.le_of_ble_eq_true rfl) dL_hash_4 ⟨Nat.le_refl _, Nat.le_refl _⟩ rfl hS (fun q h => Or.inl h) (fun H locs hW hz hk hS => ?_)
    have hP := oneK hP (hk qo (va_lt hP (k := 0) rfl) hqo)
    refine lv_i2l (v := Int32.toInt64 ((sp_hash S x).2.1)) hx hb dL_hash_7 rfl ?_
    refine x_last0 hx hb hK hP hS (Or.inr rfl) 2 rfl dL_hash_8 (fun H locs f9 hf hP ho hS => ?_)
    have hW := hW.kept (fun i hi => ho _ (fun e9 => hqo ⟨i, hi, e9.symm⟩))
    refine lv_goto (tgt := 15) hx hb dL_hash_9 (by decide) ?_
    refine lv_iconst (v := nI 0) hx hb dL_hash_15 (by decide) ?_
    exact w_i (by rw [hc]) ⟨hW, f9, hP, fun _ => hf⟩ hS hx hb hr hlocks dL_hash_16
  · obtain ⟨hc1, hc2⟩ := (cd_hash S x).resolve_left hc
    have hxx := xx_hash l hst D cI cC ad ta z S N x hI hc
    have hk9 : (sp_hash S x).1 = 1 := by omega
    rw [hk9] at hxx
    refine m_startW (by decide) (Nat.le_of_ble_eq_true rfl) ?_
    intro p e s m below meth c hx hb hr hG hown hlocks hml htb hB ls hl
    have hl : lv_has ls 4 [(0, .ref (ad 0)), (1, .int (x)), (2, .ref (qo))] := hl
    obtain ⟨⟨hW, hP⟩, hK, hE, hT, hZ, hX⟩ := hB
    refine lv_aload_n hx hb dL_hash_0 rfl (lv_at hl 2 rfl) ?_
    refine lv_iconst (v := nI 0) hx hb dL_hash_1 (by decide) ?_
    refine lv_aload_n hx hb dL_hash_2 rfl (lv_at hl 0 rfl) ?_
    refine lv_iload_n hx hb dL_hash_3 rfl (lv_at hl 1 rfl) ?_
    refine k3_V hx hb hml hown hG cs_L_118 hxx (by decide) (pztV (hK.sub (tys' := [(cI, .int), (cC, .char)]) [0, 1] rfl) hE hT hZ (fun _ _ _ => rfl) rfl hW.rc hW) rfl hl.1 rfl (Nat.le_of_ble_eq_true rfl) dL_hash_4 ⟨Nat.le_refl _, Nat.le_refl _⟩ (fun H1 q9 ce h1 h2 h3 h4 h5 => ?_)
    have h5 : s.vm.findClass "java/lang/IndexOutOfBoundsException" = some ce.cls := h5
    refine vx_catch hown [] ⟨0, 9, 12, 19⟩ [] (htb.trans rfl) (fun y9 hy9 => nomatch hy9) rfl (by decide) (hG _ cl_L_19) (hE.at _ (List.mem_of_getElem? (i := 3) rfl)) h3 h4 h5 ?_
    refine lv_astore_n (lv' := [(3, .ref (q9)), (0, .ref (ad 0)), (1, .int (x)), (2, .ref (qo))]) hx hb dL_hash_12 rfl hl (by decide) rfl (fun ls hl => ?_)
    refine lv_iconst (v := nI 1) hx hb dL_hash_13 (by decide) ?_
    exact w_i (by rw [hk9]) ⟨by rw [hc2]; exact (hW.kept (fun i hi => h2 _ (hW.lt hi))).mono (by omega), f, oneK hP (h2 _ (va_lt hP (k := 0) rfl)), fun h => absurd h hc⟩ ⟨h1, fun q hq _ => h2 q hq, fun y9 hy9 => nomatch hy9⟩ hx hb hr hlocks dL_hash_14
theorem cd_sum (S : St) (x : Int32) : cdP 1 S (sp_sum S x) := by
  unfold sp_sum askB
  repeat' split
  all_goals first | exact Or.inl rfl | exact Or.inr ⟨Nat.le_of_ble_eq_true rfl, rfl⟩
set_option maxHeartbeats 4000000 in
set_option maxRecDepth 100000 in
theorem wr_sum (l : Launch) (hst : l.stackTraces = false) (D : va_G) (cI cC cL : ClassId) (ad ta : Nat → Nat) (z : Nat) (S : St) (N : Nat) (qo : Nat) (f : Nat → Int64) (x : Int32) (hI : Inv S) (hN : N + 2000 < 2 ^ 31) (hap : Ap ad 36) (hqo : ¬ Ao ad 36 qo) : Met l yL_sum (wsW_ yL_sum cL_sum 4 (some .int) [(0, 8, 11, 19)]) rmW (va_Pc [.ref (ad 0), .int (x), .ref (qo)] (pzw D [(cI, .int), (cC, .char), (cL, .long)] ta z (fun H => Wc D cI cC ad S N H ∧ va_P D vwCl (ouW cL qo f) H))) (Wq (some (.int (nI (sp_sum S x).1))) (fun H => Wc D cI cC ad (sp_sum S x).2.2 (N + 2000) H ∧ ∃ f9, va_P D vwCl (ouW cL qo f9) H ∧ ((sp_sum S x).1 = 0 → f9 0 = (sp_sum S x).2.1)) (fun q => Ao ad 36 q ∨ q = qo)) 1 6 (fun q => Ao ad 36 q ∨ q = qo) := by
  by_cases hc : (sp_sum S x).1 = 0
  · have hok := ok_sum l D cI cC ad S N x hI hN hap hc
    refine m_startW (by decide) (Nat.le_of_ble_eq_true rfl) ?_
    intro p e s m below meth c hx hb hr hG hown hlocks hml htb hB ls hl
    have hl : lv_has ls 4 [(0, .ref (ad 0)), (1, .int (x)), (2, .ref (qo))] := hl
    obtain ⟨⟨hW, hP⟩, hK, hE, hT, hZ, hX⟩ := hB
    have hS : va_S (fun q => Ao ad 36 q ∨ q = qo) s.heap s.heap [] := va_S.rf
    refine W.widen (k := 1) (n := 6) (by decide) (by decide) ?_
    refine lv_aload_n hx hb dL_sum_0 rfl (lv_at hl 2 rfl) ?_
    refine lv_iconst (v := nI 0) hx hb dL_sum_1 (by decide) ?_
    refine lv_aload_n hx hb dL_sum_2 rfl (lv_at hl 0 rfl) ?_
    refine lv_iload_n hx hb dL_sum_3 rfl (lv_at hl 1 rfl) ?_
    refine k2_V hx hb hml hown hG cs_L_121 hok (by decide) (pzV (hK.sub (tys' := [(cI, .int), (cC, .char)]) [0, 1] rfl) rfl hW.rc hW) rfl hl.1 rfl (Nat.le_of_ble_eq_true rfl) dL_sum_4 ⟨Nat.le_refl _, Nat.le_refl _⟩ rfl hS (fun q h => Or.inl h) (fun H locs hW hz hk hS => ?_)
    have hP := oneK hP (hk qo (va_lt hP (k := 0) rfl) hqo)
    refine x_last0 hx hb hK hP hS (Or.inr rfl) 2 rfl dL_sum_7 (fun H locs f9 hf hP ho hS => ?_)
    have hW := hW.kept (fun i hi => ho _ (fun e9 => hqo ⟨i, hi, e9.symm⟩))
    refine lv_goto (tgt := 14) hx hb dL_sum_8 (by decide) ?_
    refine lv_iconst (v := nI 0) hx hb dL_sum_14 (by decide) ?_
    exact w_i (by rw [hc]) ⟨hW, f9, hP, fun _ => hf⟩ hS hx hb hr hlocks dL_sum_15
  · obtain ⟨hc1, hc2⟩ := (cd_sum S x).resolve_left hc
    have hxx := xx_sum l hst D cI cC ad ta z S N x hI hc
    have hk9 : (sp_sum S x).1 = 1 := by omega
    rw [hk9] at hxx
    refine m_startW (by decide) (Nat.le_of_ble_eq_true rfl) ?_
    intro p e s m below meth c hx hb hr hG hown hlocks hml htb hB ls hl
    have hl : lv_has ls 4 [(0, .ref (ad 0)), (1, .int (x)), (2, .ref (qo))] := hl
    obtain ⟨⟨hW, hP⟩, hK, hE, hT, hZ, hX⟩ := hB
    refine lv_aload_n hx hb dL_sum_0 rfl (lv_at hl 2 rfl) ?_
    refine lv_iconst (v := nI 0) hx hb dL_sum_1 (by decide) ?_
    refine lv_aload_n hx hb dL_sum_2 rfl (lv_at hl 0 rfl) ?_
    refine lv_iload_n hx hb dL_sum_3 rfl (lv_at hl 1 rfl) ?_
    refine k3_V hx hb hml hown hG cs_L_121 hxx (by decide) (pztV (hK.sub (tys' := [(cI, .int), (cC, .char)]) [0, 1] rfl) hE hT hZ (fun _ _ _ => rfl) rfl hW.rc hW) rfl hl.1 rfl (Nat.le_of_ble_eq_true rfl) dL_sum_4 ⟨Nat.le_refl _, Nat.le_refl _⟩ (fun H1 q9 ce h1 h2 h3 h4 h5 => ?_)
    have h5 : s.vm.findClass "java/lang/IndexOutOfBoundsException" = some ce.cls := h5
    refine vx_catch hown [] ⟨0, 8, 11, 19⟩ [] (htb.trans rfl) (fun y9 hy9 => nomatch hy9) rfl (by decide) (hG _ cl_L_19) (hE.at _ (List.mem_of_getElem? (i := 3) rfl)) h3 h4 h5 ?_
    refine lv_astore_n (lv' := [(3, .ref (q9)), (0, .ref (ad 0)), (1, .int (x)), (2, .ref (qo))]) hx hb dL_sum_11 rfl hl (by decide) rfl (fun ls hl => ?_)
    refine lv_iconst (v := nI 1) hx hb dL_sum_12 (by decide) ?_
    exact w_i (by rw [hk9]) ⟨by rw [hc2]; exact (hW.kept (fun i hi => h2 _ (hW.lt hi))).mono (by omega), f, oneK hP (h2 _ (va_lt hP (k := 0) rfl)), fun h => absurd h hc⟩ ⟨h1, fun q hq _ => h2 q hq, fun y9 hy9 => nomatch hy9⟩ hx hb hr hlocks dL_sum_13
theorem cd_write (S : St) (x : Int32) : cdP 1 S (sp_write S x) := by
  unfold sp_write 
  repeat' split
  all_goals first | exact Or.inl rfl | exact Or.inr ⟨Nat.le_of_ble_eq_true rfl, rfl⟩
set_option maxHeartbeats 4000000 in
set_option maxRecDepth 100000 in
theorem wr_write (l : Launch) (hst : l.stackTraces = false) (D : va_G) (cI cC cL : ClassId) (ad ta : Nat → Nat) (z : Nat) (S : St) (N : Nat) (qo : Nat) (f : Nat → Int64) (x : Int32) (hI : Inv S) (hN : N + 2000 < 2 ^ 31) (hap : Ap ad 36) (hqo : ¬ Ao ad 36 qo) : Met l yL_write (wsW_ yL_write cL_write 4 (some .int) [(0, 9, 12, 19)]) rmW (va_Pc [.ref (ad 0), .int (x), .ref (qo)] (pzw D [(cI, .int), (cC, .char), (cL, .long)] ta z (fun H => Wc D cI cC ad S N H ∧ va_P D vwCl (ouW cL qo f) H))) (Wq (some (.int (nI (sp_write S x).1))) (fun H => Wc D cI cC ad (sp_write S x).2.2 (N + 2000) H ∧ ∃ f9, va_P D vwCl (ouW cL qo f9) H ∧ ((sp_write S x).1 = 0 → f9 0 = Int32.toInt64 (sp_write S x).2.1)) (fun q => Ao ad 36 q ∨ q = qo)) 1 6 (fun q => Ao ad 36 q ∨ q = qo) := by
  by_cases hc : (sp_write S x).1 = 0
  · have hok := ok_write l D cI cC ad S N x hI hN hap hc
    refine m_startW (by decide) (Nat.le_of_ble_eq_true rfl) ?_
    intro p e s m below meth c hx hb hr hG hown hlocks hml htb hB ls hl
    have hl : lv_has ls 4 [(0, .ref (ad 0)), (1, .int (x)), (2, .ref (qo))] := hl
    obtain ⟨⟨hW, hP⟩, hK, hE, hT, hZ, hX⟩ := hB
    have hS : va_S (fun q => Ao ad 36 q ∨ q = qo) s.heap s.heap [] := va_S.rf
    refine W.widen (k := 1) (n := 6) (by decide) (by decide) ?_
    refine lv_aload_n hx hb dL_write_0 rfl (lv_at hl 2 rfl) ?_
    refine lv_iconst (v := nI 0) hx hb dL_write_1 (by decide) ?_
    refine lv_aload_n hx hb dL_write_2 rfl (lv_at hl 0 rfl) ?_
    refine lv_iload_n hx hb dL_write_3 rfl (lv_at hl 1 rfl) ?_
    refine k2_V hx hb hml hown hG cs_L_125 hok (by decide) (pzV (hK.sub (tys' := [(cI, .int), (cC, .char)]) [0, 1] rfl) rfl hW.rc hW) rfl hl.1 rfl (Nat.le_of_ble_eq_true rfl) dL_write_4 ⟨Nat.le_refl _, Nat.le_refl _⟩ rfl hS (fun q h => Or.inl h) (fun H locs hW hz hk hS => ?_)
    have hP := oneK hP (hk qo (va_lt hP (k := 0) rfl) hqo)
    refine lv_i2l (v := Int32.toInt64 ((sp_write S x).2.1)) hx hb dL_write_7 rfl ?_
    refine x_last0 hx hb hK hP hS (Or.inr rfl) 2 rfl dL_write_8 (fun H locs f9 hf hP ho hS => ?_)
    have hW := hW.kept (fun i hi => ho _ (fun e9 => hqo ⟨i, hi, e9.symm⟩))
    refine lv_goto (tgt := 15) hx hb dL_write_9 (by decide) ?_
    refine lv_iconst (v := nI 0) hx hb dL_write_15 (by decide) ?_
    exact w_i (by rw [hc]) ⟨hW, f9, hP, fun _ => hf⟩ hS hx hb hr hlocks dL_write_16
  · obtain ⟨hc1, hc2⟩ := (cd_write S x).resolve_left hc
    have hxx := xx_write l hst D cI cC ad ta z S N x hI hc
    have hk9 : (sp_write S x).1 = 1 := by omega
    rw [hk9] at hxx
    refine m_startW (by decide) (Nat.le_of_ble_eq_true rfl) ?_
    intro p e s m below meth c hx hb hr hG hown hlocks hml htb hB ls hl
    have hl : lv_has ls 4 [(0, .ref (ad 0)), (1, .int (x)), (2, .ref (qo))] := hl
    obtain ⟨⟨hW, hP⟩, hK, hE, hT, hZ, hX⟩ := hB
    refine lv_aload_n hx hb dL_write_0 rfl (lv_at hl 2 rfl) ?_
    refine lv_iconst (v := nI 0) hx hb dL_write_1 (by decide) ?_
    refine lv_aload_n hx hb dL_write_2 rfl (lv_at hl 0 rfl) ?_
    refine lv_iload_n hx hb dL_write_3 rfl (lv_at hl 1 rfl) ?_
    refine k3_V hx hb hml hown hG cs_L_125 hxx (by decide) (pztV (hK.sub (tys' := [(cI, .int), (cC, .char)]) [0, 1] rfl) hE hT hZ (fun _ _ _ => rfl) rfl hW.rc hW) rfl hl.1 rfl (Nat.le_of_ble_eq_true rfl) dL_write_4 ⟨Nat.le_refl _, Nat.le_refl _⟩ (fun H1 q9 ce h1 h2 h3 h4 h5 => ?_)
    have h5 : s.vm.findClass "java/lang/IndexOutOfBoundsException" = some ce.cls := h5
    refine vx_catch hown [] ⟨0, 9, 12, 19⟩ [] (htb.trans rfl) (fun y9 hy9 => nomatch hy9) rfl (by decide) (hG _ cl_L_19) (hE.at _ (List.mem_of_getElem? (i := 3) rfl)) h3 h4 h5 ?_
    refine lv_astore_n (lv' := [(3, .ref (q9)), (0, .ref (ad 0)), (1, .int (x)), (2, .ref (qo))]) hx hb dL_write_12 rfl hl (by decide) rfl (fun ls hl => ?_)
    refine lv_iconst (v := nI 1) hx hb dL_write_13 (by decide) ?_
    exact w_i (by rw [hk9]) ⟨by rw [hc2]; exact (hW.kept (fun i hi => h2 _ (hW.lt hi))).mono (by omega), f, oneK hP (h2 _ (va_lt hP (k := 0) rfl)), fun h => absurd h hc⟩ ⟨h1, fun q hq _ => h2 q hq, fun y9 hy9 => nomatch hy9⟩ hx hb hr hlocks dL_write_14
theorem cd_outputAt (S : St) (x : Int32) : cdP 1 S (sp_outputAt S x) := by
  unfold sp_outputAt 
  repeat' split
  all_goals first | exact Or.inl rfl | exact Or.inr ⟨Nat.le_of_ble_eq_true rfl, rfl⟩
set_option maxHeartbeats 4000000 in
set_option maxRecDepth 100000 in
theorem wr_outputAt (l : Launch) (hst : l.stackTraces = false) (D : va_G) (cI cC cL : ClassId) (ad ta : Nat → Nat) (z : Nat) (S : St) (N : Nat) (qo : Nat) (f : Nat → Int64) (x : Int32) (hI : Inv S) (hN : N + 2000 < 2 ^ 31) (hap : Ap ad 36) (hqo : ¬ Ao ad 36 qo) : Met l yL_outputAt (wsW_ yL_outputAt cL_outputAt 4 (some .int) [(0, 9, 12, 44)]) rmW (va_Pc [.ref (ad 0), .int (x), .ref (qo)] (pzw D [(cI, .int), (cC, .char), (cL, .long)] ta z (fun H => Wc D cI cC ad S N H ∧ va_P D vwCl (ouW cL qo f) H))) (Wq (some (.int (nI (sp_outputAt S x).1))) (fun H => Wc D cI cC ad (sp_outputAt S x).2.2 (N + 2000) H ∧ ∃ f9, va_P D vwCl (ouW cL qo f9) H ∧ ((sp_outputAt S x).1 = 0 → f9 0 = Int32.toInt64 (sp_outputAt S x).2.1)) (fun q => Ao ad 36 q ∨ q = qo)) 1 6 (fun q => Ao ad 36 q ∨ q = qo) := by
  by_cases hc : (sp_outputAt S x).1 = 0
  · have hok := ok_outputAt l D cI cC ad S N x hI hN hap hc
    refine m_startW (by decide) (Nat.le_of_ble_eq_true rfl) ?_
    intro p e s m below meth c hx hb hr hG hown hlocks hml htb hB ls hl
    have hl : lv_has ls 4 [(0, .ref (ad 0)), (1, .int (x)), (2, .ref (qo))] := hl
    obtain ⟨⟨hW, hP⟩, hK, hE, hT, hZ, hX⟩ := hB
    have hS : va_S (fun q => Ao ad 36 q ∨ q = qo) s.heap s.heap [] := va_S.rf
    refine W.widen (k := 1) (n := 6) (by decide) (by decide) ?_
    refine lv_aload_n hx hb dL_outputAt_0 rfl (lv_at hl 2 rfl) ?_
    refine lv_iconst (v := nI 0) hx hb dL_outputAt_1 (by decide) ?_
    refine lv_aload_n hx hb dL_outputAt_2 rfl (lv_at hl 0 rfl) ?_
    refine lv_iload_n hx hb dL_outputAt_3 rfl (lv_at hl 1 rfl) ?_
    refine k2_V hx hb hml hown hG cs_L_128 hok (by decide) (pzV (hK.sub (tys' := [(cI, .int), (cC, .char)]) [0, 1] rfl) rfl hW.rc hW) rfl hl.1 rfl (Nat.le_of_ble_eq_true rfl) dL_outputAt_4 ⟨Nat.le_refl _, Nat.le_refl _⟩ rfl hS (fun q h => Or.inl h) (fun H locs hW hz hk hS => ?_)
    have hP := oneK hP (hk qo (va_lt hP (k := 0) rfl) hqo)
    refine lv_i2l (v := Int32.toInt64 ((sp_outputAt S x).2.1)) hx hb dL_outputAt_7 rfl ?_
    refine x_last0 hx hb hK hP hS (Or.inr rfl) 2 rfl dL_outputAt_8 (fun H locs f9 hf hP ho hS => ?_)
    have hW := hW.kept (fun i hi => ho _ (fun e9 => hqo ⟨i, hi, e9.symm⟩))
    refine lv_goto (tgt := 15) hx hb dL_outputAt_9 (by decide) ?_
    refine lv_iconst (v := nI 0) hx hb dL_outputAt_15 (by decide) ?_
    exact w_i (by rw [hc]) ⟨hW, f9, hP, fun _ => hf⟩ hS hx hb hr hlocks dL_outputAt_16
  · obtain ⟨hc1, hc2⟩ := (cd_outputAt S x).resolve_left hc
    have hxx := xx_outputAt l hst D cI cC ad ta z S N x hI hc
    have hk9 : (sp_outputAt S x).1 = 1 := by omega
    rw [hk9] at hxx
    refine m_startW (by decide) (Nat.le_of_ble_eq_true rfl) ?_
    intro p e s m below meth c hx hb hr hG hown hlocks hml htb hB ls hl
    have hl : lv_has ls 4 [(0, .ref (ad 0)), (1, .int (x)), (2, .ref (qo))] := hl
    obtain ⟨⟨hW, hP⟩, hK, hE, hT, hZ, hX⟩ := hB
    refine lv_aload_n hx hb dL_outputAt_0 rfl (lv_at hl 2 rfl) ?_
    refine lv_iconst (v := nI 0) hx hb dL_outputAt_1 (by decide) ?_
    refine lv_aload_n hx hb dL_outputAt_2 rfl (lv_at hl 0 rfl) ?_
    refine lv_iload_n hx hb dL_outputAt_3 rfl (lv_at hl 1 rfl) ?_
    refine k3_V hx hb hml hown hG cs_L_128 hxx (by decide) (pztV (hK.sub (tys' := [(cI, .int), (cC, .char)]) [0, 1] rfl) hE hT hZ (fun _ _ _ => rfl) rfl hW.rc hW) rfl hl.1 rfl (Nat.le_of_ble_eq_true rfl) dL_outputAt_4 ⟨Nat.le_refl _, Nat.le_refl _⟩ (fun H1 q9 ce h1 h2 h3 h4 h5 => ?_)
    have h5 : s.vm.findClass "java/util/NoSuchElementException" = some ce.cls := h5
    refine vx_catch hown [] ⟨0, 9, 12, 44⟩ [] (htb.trans rfl) (fun y9 hy9 => nomatch hy9) rfl (by decide) (hG _ cl_L_44) (hE.at _ (List.mem_of_getElem? (i := 6) rfl)) h3 h4 h5 ?_
    refine lv_astore_n (lv' := [(3, .ref (q9)), (0, .ref (ad 0)), (1, .int (x)), (2, .ref (qo))]) hx hb dL_outputAt_12 rfl hl (by decide) rfl (fun ls hl => ?_)
    refine lv_iconst (v := nI 1) hx hb dL_outputAt_13 (by decide) ?_
    exact w_i (by rw [hk9]) ⟨by rw [hc2]; exact (hW.kept (fun i hi => h2 _ (hW.lt hi))).mono (by omega), f, oneK hP (h2 _ (va_lt hP (k := 0) rfl)), fun h => absurd h hc⟩ ⟨h1, fun q hq _ => h2 q hq, fun y9 hy9 => nomatch hy9⟩ hx hb hr hlocks dL_outputAt_14
theorem cd_isAddRefused (S : St) (x y : Int32) : cdP 2 S (sp_isAddRefused S x y) := by
  unfold sp_isAddRefused 
  repeat' split
  all_goals first | exact Or.inl rfl | exact Or.inr ⟨Nat.le_of_ble_eq_true rfl, rfl⟩
set_option maxHeartbeats 4000000 in
set_option maxRecDepth 100000 in
theorem wr_isAddRefused (l : Launch) (hst : l.stackTraces = false) (D : va_G) (cI cC cL : ClassId) (ad ta : Nat → Nat) (z : Nat) (S : St) (N : Nat) (qo : Nat) (f : Nat → Int64) (x y : Int32) (hI : Inv S) (hN : N + 2000 < 2 ^ 31) (hap : Ap ad 36) (hqo : ¬ Ao ad 36 qo) : Met l yL_isAddRefused (wsW_ yL_isAddRefused cL_isAddRefused 5 (some .int) [(0, 17, 20, 19), (0, 17, 24, 13)]) rmW (va_Pc [.ref (ad 0), .int (x), .int (y), .ref (qo)] (pzw D [(cI, .int), (cC, .char), (cL, .long)] ta z (fun H => Wc D cI cC ad S N H ∧ va_P D vwCl (ouW cL qo f) H))) (Wq (some (.int (nI (sp_isAddRefused S x y).1))) (fun H => Wc D cI cC ad (sp_isAddRefused S x y).2.2 (N + 2000) H ∧ ∃ f9, va_P D vwCl (ouW cL qo f9) H ∧ ((sp_isAddRefused S x y).1 = 0 → f9 0 = zl (sp_isAddRefused S x y).2.1)) (fun q => Ao ad 36 q ∨ q = qo)) 1 6 (fun q => Ao ad 36 q ∨ q = qo) := by
  by_cases hc : (sp_isAddRefused S x y).1 = 0
  · have hok := ok_isAddRefused l D cI cC ad S N x y hI hN hap hc
    refine m_startW (by decide) (Nat.le_of_ble_eq_true rfl) ?_
    intro p e s m below meth c hx hb hr hG hown hlocks hml htb hB ls hl
    have hl : lv_has ls 5 [(0, .ref (ad 0)), (1, .int (x)), (2, .int (y)), (3, .ref (qo))] := hl
    obtain ⟨⟨hW, hP⟩, hK, hE, hT, hZ, hX⟩ := hB
    have hS : va_S (fun q => Ao ad 36 q ∨ q = qo) s.heap s.heap [] := va_S.rf
    refine W.widen (k := 1) (n := 6) (by decide) (by decide) ?_
    refine lv_aload_n hx hb dL_isAddRefused_0 rfl (lv_at hl 3 rfl) ?_
    refine lv_iconst (v := nI 0) hx hb dL_isAddRefused_1 (by decide) ?_
    refine lv_aload_n hx hb dL_isAddRefused_2 rfl (lv_at hl 0 rfl) ?_
    refine lv_iload_n hx hb dL_isAddRefused_3 rfl (lv_at hl 1 rfl) ?_
    refine lv_iload_n hx hb dL_isAddRefused_4 rfl (lv_at hl 2 rfl) ?_
    refine k2_V hx hb hml hown hG cs_L_131 hok (by decide) (pzV (hK.sub (tys' := [(cI, .int), (cC, .char)]) [0, 1] rfl) rfl hW.rc hW) rfl hl.1 rfl (Nat.le_of_ble_eq_true rfl) dL_isAddRefused_5 ⟨Nat.le_refl _, Nat.le_refl _⟩ rfl hS (fun q h => Or.inl h) (fun H locs hW hz hk hS => ?_)
    have hP := oneK hP (hk qo (va_lt hP (k := 0) rfl) hqo)
    refine x_ifb_eq (tgt := 15) hx hb dL_isAddRefused_8 (by decide) (fun c1 => ?_) (fun c1 => ?_)
    · refine lv_lconst (v := lN (0)) hx hb dL_isAddRefused_15 (by decide) ?_
      refine x_last0 hx hb hK hP hS (Or.inr rfl) 2 rfl dL_isAddRefused_16 (fun H locs f9 hf hP ho hS => ?_)
      have hW := hW.kept (fun i hi => ho _ (fun e9 => hqo ⟨i, hi, e9.symm⟩))
      refine lv_goto (tgt := 28) hx hb dL_isAddRefused_17 (by decide) ?_
      refine lv_iconst (v := nI 0) hx hb dL_isAddRefused_28 (by decide) ?_
      exact w_i (by rw [hc]) ⟨hW, f9, hP, fun _ => by rw [hf, c1]; rfl⟩ hS hx hb hr hlocks dL_isAddRefused_29
    · refine lv_lconst (v := lN (1)) hx hb dL_isAddRefused_11 (by decide) ?_
      refine lv_goto (tgt := 16) hx hb dL_isAddRefused_12 (by decide) ?_
      refine x_last0 hx hb hK hP hS (Or.inr rfl) 2 rfl dL_isAddRefused_16 (fun H locs f9 hf hP ho hS => ?_)
      have hW := hW.kept (fun i hi => ho _ (fun e9 => hqo ⟨i, hi, e9.symm⟩))
      refine lv_goto (tgt := 28) hx hb dL_isAddRefused_17 (by decide) ?_
      refine lv_iconst (v := nI 0) hx hb dL_isAddRefused_28 (by decide) ?_
      exact w_i (by rw [hc]) ⟨hW, f9, hP, fun _ => by rw [hf, c1]; rfl⟩ hS hx hb hr hlocks dL_isAddRefused_29
  · obtain ⟨hc1, hc2⟩ := (cd_isAddRefused S x y).resolve_left hc
    have hxx := xx_isAddRefused l hst D cI cC ad ta z S N x y hI hc
    rcases (show (sp_isAddRefused S x y).1 = 1 ∨ (sp_isAddRefused S x y).1 = 2 from by omega) with hk9 | hk9
    · skip
      rw [hk9] at hxx
      refine m_startW (by decide) (Nat.le_of_ble_eq_true rfl) ?_
      intro p e s m below meth c hx hb hr hG hown hlocks hml htb hB ls hl
      have hl : lv_has ls 5 [(0, .ref (ad 0)), (1, .int (x)), (2, .int (y)), (3, .ref (qo))] := hl
      obtain ⟨⟨hW, hP⟩, hK, hE, hT, hZ, hX⟩ := hB
      refine lv_aload_n hx hb dL_isAddRefused_0 rfl (lv_at hl 3 rfl) ?_
      refine lv_iconst (v := nI 0) hx hb dL_isAddRefused_1 (by decide) ?_
      refine lv_aload_n hx hb dL_isAddRefused_2 rfl (lv_at hl 0 rfl) ?_
      refine lv_iload_n hx hb dL_isAddRefused_3 rfl (lv_at hl 1 rfl) ?_
      refine lv_iload_n hx hb dL_isAddRefused_4 rfl (lv_at hl 2 rfl) ?_
      refine k3_V hx hb hml hown hG cs_L_131 hxx (by decide) (pztV (hK.sub (tys' := [(cI, .int), (cC, .char)]) [0, 1] rfl) hE hT hZ (fun _ _ _ => rfl) rfl hW.rc hW) rfl hl.1 rfl (Nat.le_of_ble_eq_true rfl) dL_isAddRefused_5 ⟨Nat.le_refl _, Nat.le_refl _⟩ (fun H1 q9 ce h1 h2 h3 h4 h5 => ?_)
      have h5 : s.vm.findClass "java/lang/IndexOutOfBoundsException" = some ce.cls := h5
      refine vx_catch hown [] ⟨0, 17, 20, 19⟩ [⟨0, 17, 24, 13⟩] (htb.trans rfl) (fun y9 hy9 => nomatch hy9) rfl (by decide) (hG _ cl_L_19) (hE.at _ (List.mem_of_getElem? (i := 3) rfl)) h3 h4 h5 ?_
      refine lv_astore (lv' := [(4, .ref (q9)), (0, .ref (ad 0)), (1, .int (x)), (2, .int (y)), (3, .ref (qo))]) hx hb dL_isAddRefused_20 hl (by decide) rfl (fun ls hl => ?_)
      refine lv_iconst (v := nI 1) hx hb dL_isAddRefused_22 (by decide) ?_
      exact w_i (by rw [hk9]) ⟨by rw [hc2]; exact (hW.kept (fun i hi => h2 _ (hW.lt hi))).mono (by omega), f, oneK hP (h2 _ (va_lt hP (k := 0) rfl)), fun h => absurd h hc⟩ ⟨h1, fun q hq _ => h2 q hq, fun y9 hy9 => nomatch hy9⟩ hx hb hr hlocks dL_isAddRefused_23
    · skip
      rw [hk9] at hxx
      refine m_startW (by decide) (Nat.le_of_ble_eq_true rfl) ?_
      intro p e s m below meth c hx hb hr hG hown hlocks hml htb hB ls hl
      have hl : lv_has ls 5 [(0, .ref (ad 0)), (1, .int (x)), (2, .int (y)), (3, .ref (qo))] := hl
      obtain ⟨⟨hW, hP⟩, hK, hE, hT, hZ, hX⟩ := hB
      refine lv_aload_n hx hb dL_isAddRefused_0 rfl (lv_at hl 3 rfl) ?_
      refine lv_iconst (v := nI 0) hx hb dL_isAddRefused_1 (by decide) ?_
      refine lv_aload_n hx hb dL_isAddRefused_2 rfl (lv_at hl 0 rfl) ?_
      refine lv_iload_n hx hb dL_isAddRefused_3 rfl (lv_at hl 1 rfl) ?_
      refine lv_iload_n hx hb dL_isAddRefused_4 rfl (lv_at hl 2 rfl) ?_
      refine k3_V hx hb hml hown hG cs_L_131 hxx (by decide) (pztV (hK.sub (tys' := [(cI, .int), (cC, .char)]) [0, 1] rfl) hE hT hZ (fun _ _ _ => rfl) rfl hW.rc hW) rfl hl.1 rfl (Nat.le_of_ble_eq_true rfl) dL_isAddRefused_5 ⟨Nat.le_refl _, Nat.le_refl _⟩ (fun H1 q9 ce h1 h2 h3 h4 h5 => ?_)
      have h5 : s.vm.findClass "java/lang/IllegalArgumentException" = some ce.cls := h5
      refine vx_catch hown [⟨0, 17, 20, 19⟩] ⟨0, 17, 24, 13⟩ [] (htb.trans rfl) (fun y9 hy9 => by
          rcases List.mem_cons.mp hy9 with rfl | hy9
          · exact Or.inr ⟨by decide, "java/lang/IndexOutOfBoundsException", hG _ cl_L_19, hX.1⟩
          nomatch hy9) rfl (by decide) (hG _ cl_L_13) (hE.at _ (List.mem_of_getElem? (i := 4) rfl)) h3 h4 h5 ?_
      refine lv_astore (lv' := [(4, .ref (q9)), (0, .ref (ad 0)), (1, .int (x)), (2, .int (y)), (3, .ref (qo))]) hx hb dL_isAddRefused_24 hl (by decide) rfl (fun ls hl => ?_)
      refine lv_iconst (v := nI 2) hx hb dL_isAddRefused_26 (by decide) ?_
      exact w_i (by rw [hk9]) ⟨by rw [hc2]; exact (hW.kept (fun i hi => h2 _ (hW.lt hi))).mono (by omega), f, oneK hP (h2 _ (va_lt hP (k := 0) rfl)), fun h => absurd h hc⟩ ⟨h1, fun q hq _ => h2 q hq, fun y9 hy9 => nomatch hy9⟩ hx hb hr hlocks dL_isAddRefused_27
theorem cd_isNothingRefused (S : St) (x y : Int32) : cdP 2 S (sp_isNothingRefused S x y) := by
  unfold sp_isNothingRefused 
  repeat' split
  all_goals first | exact Or.inl rfl | exact Or.inr ⟨Nat.le_of_ble_eq_true rfl, rfl⟩
set_option maxHeartbeats 4000000 in
set_option maxRecDepth 100000 in
theorem wr_isNothingRefused (l : Launch) (hst : l.stackTraces = false) (D : va_G) (cI cC cL : ClassId) (ad ta : Nat → Nat) (z : Nat) (S : St) (N : Nat) (qo : Nat) (f : Nat → Int64) (x y : Int32) (hI : Inv S) (hN : N + 2000 < 2 ^ 31) (hap : Ap ad 36) (hqo : ¬ Ao ad 36 qo) : Met l yL_isNothingRefused (wsW_ yL_isNothingRefused cL_isNothingRefused 5 (some .int) [(0, 17, 20, 19), (0, 17, 24, 13)]) rmW (va_Pc [.ref (ad 0), .int (x), .int (y), .ref (qo)] (pzw D [(cI, .int), (cC, .char), (cL, .long)] ta z (fun H => Wc D cI cC ad S N H ∧ va_P D vwCl (ouW cL qo f) H))) (Wq (some (.int (nI (sp_isNothingRefused S x y).1))) (fun H => Wc D cI cC ad (sp_isNothingRefused S x y).2.2 (N + 2000) H ∧ ∃ f9, va_P D vwCl (ouW cL qo f9) H ∧ ((sp_isNothingRefused S x y).1 = 0 → f9 0 = zl (sp_isNothingRefused S x y).2.1)) (fun q => Ao ad 36 q ∨ q = qo)) 1 6 (fun q => Ao ad 36 q ∨ q = qo) := by
  by_cases hc : (sp_isNothingRefused S x y).1 = 0
  · have hok := ok_isNothingRefused l D cI cC ad S N x y hI hN hap hc
    refine m_startW (by decide) (Nat.le_of_ble_eq_true rfl) ?_
    intro p e s m below meth c hx hb hr hG hown hlocks hml htb hB ls hl
    have hl : lv_has ls 5 [(0, .ref (ad 0)), (1, .int (x)), (2, .int (y)), (3, .ref (qo))] := hl
    obtain ⟨⟨hW, hP⟩, hK, hE, hT, hZ, hX⟩ := hB
    have hS : va_S (fun q => Ao ad 36 q ∨ q = qo) s.heap s.heap [] := va_S.rf
    refine W.widen (k := 1) (n := 6) (by decide) (by decide) ?_
    refine lv_aload_n hx hb dL_isNothingRefused_0 rfl (lv_at hl 3 rfl) ?_
    refine lv_iconst (v := nI 0) hx hb dL_isNothingRefused_1 (by decide) ?_
    refine lv_aload_n hx hb dL_isNothingRefused_2 rfl (lv_at hl 0 rfl) ?_
    refine lv_iload_n hx hb dL_isNothingRefused_3 rfl (lv_at hl 1 rfl) ?_
    refine lv_iload_n hx hb dL_isNothingRefused_4 rfl (lv_at hl 2 rfl) ?_
    refine k2_V hx hb hml hown hG cs_L_134 hok (by decide) (pzV (hK.sub (tys' := [(cI, .int), (cC, .char)]) [0, 1] rfl) rfl hW.rc hW) rfl hl.1 rfl (Nat.le_of_ble_eq_true rfl) dL_isNothingRefused_5 ⟨Nat.le_refl _, Nat.le_refl _⟩ rfl hS (fun q h => Or.inl h) (fun H locs hW hz hk hS => ?_)
    have hP := oneK hP (hk qo (va_lt hP (k := 0) rfl) hqo)
    refine x_ifb_eq (tgt := 15) hx hb dL_isNothingRefused_8 (by decide) (fun c1 => ?_) (fun c1 => ?_)
    · refine lv_lconst (v := lN (0)) hx hb dL_isNothingRefused_15 (by decide) ?_
      refine x_last0 hx hb hK hP hS (Or.inr rfl) 2 rfl dL_isNothingRefused_16 (fun H locs f9 hf hP ho hS => ?_)
      have hW := hW.kept (fun i hi => ho _ (fun e9 => hqo ⟨i, hi, e9.symm⟩))
      refine lv_goto (tgt := 28) hx hb dL_isNothingRefused_17 (by decide) ?_
      refine lv_iconst (v := nI 0) hx hb dL_isNothingRefused_28 (by decide) ?_
      exact w_i (by rw [hc]) ⟨hW, f9, hP, fun _ => by rw [hf, c1]; rfl⟩ hS hx hb hr hlocks dL_isNothingRefused_29
    · refine lv_lconst (v := lN (1)) hx hb dL_isNothingRefused_11 (by decide) ?_
      refine lv_goto (tgt := 16) hx hb dL_isNothingRefused_12 (by decide) ?_
      refine x_last0 hx hb hK hP hS (Or.inr rfl) 2 rfl dL_isNothingRefused_16 (fun H locs f9 hf hP ho hS => ?_)
      have hW := hW.kept (fun i hi => ho _ (fun e9 => hqo ⟨i, hi, e9.symm⟩))
      refine lv_goto (tgt := 28) hx hb dL_isNothingRefused_17 (by decide) ?_
      refine lv_iconst (v := nI 0) hx hb dL_isNothingRefused_28 (by decide) ?_
      exact w_i (by rw [hc]) ⟨hW, f9, hP, fun _ => by rw [hf, c1]; rfl⟩ hS hx hb hr hlocks dL_isNothingRefused_29
  · obtain ⟨hc1, hc2⟩ := (cd_isNothingRefused S x y).resolve_left hc
    have hxx := xx_isNothingRefused l hst D cI cC ad ta z S N x y hI hc
    rcases (show (sp_isNothingRefused S x y).1 = 1 ∨ (sp_isNothingRefused S x y).1 = 2 from by omega) with hk9 | hk9
    · skip
      rw [hk9] at hxx
      refine m_startW (by decide) (Nat.le_of_ble_eq_true rfl) ?_
      intro p e s m below meth c hx hb hr hG hown hlocks hml htb hB ls hl
      have hl : lv_has ls 5 [(0, .ref (ad 0)), (1, .int (x)), (2, .int (y)), (3, .ref (qo))] := hl
      obtain ⟨⟨hW, hP⟩, hK, hE, hT, hZ, hX⟩ := hB
      refine lv_aload_n hx hb dL_isNothingRefused_0 rfl (lv_at hl 3 rfl) ?_
      refine lv_iconst (v := nI 0) hx hb dL_isNothingRefused_1 (by decide) ?_
      refine lv_aload_n hx hb dL_isNothingRefused_2 rfl (lv_at hl 0 rfl) ?_
      refine lv_iload_n hx hb dL_isNothingRefused_3 rfl (lv_at hl 1 rfl) ?_
      refine lv_iload_n hx hb dL_isNothingRefused_4 rfl (lv_at hl 2 rfl) ?_
      refine k3_V hx hb hml hown hG cs_L_134 hxx (by decide) (pztV (hK.sub (tys' := [(cI, .int), (cC, .char)]) [0, 1] rfl) hE hT hZ (fun _ _ _ => rfl) rfl hW.rc hW) rfl hl.1 rfl (Nat.le_of_ble_eq_true rfl) dL_isNothingRefused_5 ⟨Nat.le_refl _, Nat.le_refl _⟩ (fun H1 q9 ce h1 h2 h3 h4 h5 => ?_)
      have h5 : s.vm.findClass "java/lang/IndexOutOfBoundsException" = some ce.cls := h5
      refine vx_catch hown [] ⟨0, 17, 20, 19⟩ [⟨0, 17, 24, 13⟩] (htb.trans rfl) (fun y9 hy9 => nomatch hy9) rfl (by decide) (hG _ cl_L_19) (hE.at _ (List.mem_of_getElem? (i := 3) rfl)) h3 h4 h5 ?_
      refine lv_astore (lv' := [(4, .ref (q9)), (0, .ref (ad 0)), (1, .int (x)), (2, .int (y)), (3, .ref (qo))]) hx hb dL_isNothingRefused_20 hl (by decide) rfl (fun ls hl => ?_)
      refine lv_iconst (v := nI 1) hx hb dL_isNothingRefused_22 (by decide) ?_
      exact w_i (by rw [hk9]) ⟨by rw [hc2]; exact (hW.kept (fun i hi => h2 _ (hW.lt hi))).mono (by omega), f, oneK hP (h2 _ (va_lt hP (k := 0) rfl)), fun h => absurd h hc⟩ ⟨h1, fun q hq _ => h2 q hq, fun y9 hy9 => nomatch hy9⟩ hx hb hr hlocks dL_isNothingRefused_23
    · skip
      rw [hk9] at hxx
      refine m_startW (by decide) (Nat.le_of_ble_eq_true rfl) ?_
      intro p e s m below meth c hx hb hr hG hown hlocks hml htb hB ls hl
      have hl : lv_has ls 5 [(0, .ref (ad 0)), (1, .int (x)), (2, .int (y)), (3, .ref (qo))] := hl
      obtain ⟨⟨hW, hP⟩, hK, hE, hT, hZ, hX⟩ := hB
      refine lv_aload_n hx hb dL_isNothingRefused_0 rfl (lv_at hl 3 rfl) ?_
      refine lv_iconst (v := nI 0) hx hb dL_isNothingRefused_1 (by decide) ?_
      refine lv_aload_n hx hb dL_isNothingRefused_2 rfl (lv_at hl 0 rfl) ?_
      refine lv_iload_n hx hb dL_isNothingRefused_3 rfl (lv_at hl 1 rfl) ?_
      refine lv_iload_n hx hb dL_isNothingRefused_4 rfl (lv_at hl 2 rfl) ?_
      refine k3_V hx hb hml hown hG cs_L_134 hxx (by decide) (pztV (hK.sub (tys' := [(cI, .int), (cC, .char)]) [0, 1] rfl) hE hT hZ (fun _ _ _ => rfl) rfl hW.rc hW) rfl hl.1 rfl (Nat.le_of_ble_eq_true rfl) dL_isNothingRefused_5 ⟨Nat.le_refl _, Nat.le_refl _⟩ (fun H1 q9 ce h1 h2 h3 h4 h5 => ?_)
      have h5 : s.vm.findClass "java/lang/IllegalArgumentException" = some ce.cls := h5
      refine vx_catch hown [⟨0, 17, 20, 19⟩] ⟨0, 17, 24, 13⟩ [] (htb.trans rfl) (fun y9 hy9 => by
          rcases List.mem_cons.mp hy9 with rfl | hy9
          · exact Or.inr ⟨by decide, "java/lang/IndexOutOfBoundsException", hG _ cl_L_19, hX.1⟩
          nomatch hy9) rfl (by decide) (hG _ cl_L_13) (hE.at _ (List.mem_of_getElem? (i := 4) rfl)) h3 h4 h5 ?_
      refine lv_astore (lv' := [(4, .ref (q9)), (0, .ref (ad 0)), (1, .int (x)), (2, .int (y)), (3, .ref (qo))]) hx hb dL_isNothingRefused_24 hl (by decide) rfl (fun ls hl => ?_)
      refine lv_iconst (v := nI 2) hx hb dL_isNothingRefused_26 (by decide) ?_
      exact w_i (by rw [hk9]) ⟨by rw [hc2]; exact (hW.kept (fun i hi => h2 _ (hW.lt hi))).mono (by omega), f, oneK hP (h2 _ (va_lt hP (k := 0) rfl)), fun h => absurd h hc⟩ ⟨h1, fun q hq _ => h2 q hq, fun y9 hy9 => nomatch hy9⟩ hx hb hr hlocks dL_isNothingRefused_27
