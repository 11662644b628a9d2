theorem BookAt.give {D : va_G} {cI : ClassId} {a : Nat → Nat} {lg : Bool} {bd : Nat} {L : Bk} {N : Nat} {H H1 : Heap} (h : BookAt D cI a lg bd L N H) (hap : Ap a 6) {j : Nat} {x : Int32} (hk : ∀ q : Nat, q < H.size → ¬ Ao a 3 q → H1[q]? = H[q]?) (hB : BkAt D cI a lg bd (sv L j x) H1) : BookAt D cI a lg bd (sv L j x) N H1 := by
  obtain ⟨h1, R, now, h2, h3⟩ := h
  exact ⟨hB, R, now, h2.kept (fun i hi => hk _ (h2.lt hi) (hap.off' hi)), h3.keys (sv_keys L j x)⟩
theorem full_room {S : St} (hI : Inv S) {b : Nat} (hb : b < 4) {key : Int32} (h : full S b key = false) (hf : fx (S.1 b) key = none) (h2 : b ≠ 2) : (S.1 b).length < 200 := by
  have h3 := (hI.1 b hb).2
  unfold full at h
  rw [decide_eq_true h2, hf] at h
  by_cases e : (S.1 b).length = 200
  · rw [decide_eq_true e] at h; cases h
  · omega
theorem full_r200 {S : St} (hI : Inv S) {b : Nat} (hb : b < 4) {key : Int32} (h : full S b key = false) (hf : fx (S.1 b) key = none) : (S.1 b).length < 200 := by
  by_cases e : b = 2
  · subst e
    have h1 := hI.2.1
    have h2 := hI.2.2.2.1
    omega
  · exact full_room hI hb h hf e
set_option maxHeartbeats 4000000 in
set_option maxRecDepth 100000 in
theorem ok_put (l : Launch) (D : va_G) (cI cC : ClassId) (ad : Nat → Nat) (S : St) (N : Nat) (x key v : Int32) (hI : Inv S) (hN : N + 2000 < 2 ^ 31) (hap : Ap ad 36) (hok : (sp_put S x key v).1 = 0) : Met l yX4_put (ws_ yX4_put cX4_put 5 (some .boolean)) (rmN 6) (va_Pc [.ref (ad 0), .int x, .int key, .int v] (pz D [(cI, .int), (cC, .char)] (fun H => Wc D cI cC ad S N H))) (Wq (some (.int (bI (sp_put S x key v).2.1))) (fun H => Wc D cI cC ad (sp_put S x key v).2.2 (N + 2000) H) (Ao ad 36)) 0 0 (Ao ad 36) := by
  have hbd2 : S.2.1 ≤ 40 := hI.2.2.2.1
  have hCC : ∀ cu, cu < 3 → ∀ y, S.2.2.1 cu = some y → y.1 < 4 := fun cu hcu y hy => by have h := hI.2.2.2.2.1 cu hcu; rw [hy] at h; exact h.1
  rcases bkn_cases 4 (by decide) x with ⟨b, hb4, rfl, hbk⟩ | ⟨hbk, hno⟩
  · skip
    have hN2 := hI.1 b hb4
    by_cases h3 : b = 3
    · skip
      exact absurd hok (by unfold sp_put; rw [hbk]; simp [h3])
    · skip
      cases hfu : full S b key with
      | true =>
        exact absurd hok (by unfold sp_put; rw [hbk]; simp [h3, hfu])
      | false =>
        cases hf : fx (S.1 b) key with
        | none =>
          have e9 : sp_put S (nI (b)) key v = (0, false, clB (upB S b (stq (lgO b) S.2.1 (S.1 b) key v)) b (-1)) := by simp [sp_put, hbk, h3, hfu, hf]
          rw [e9]
          refine m_start (by decide) (Nat.le_of_ble_eq_true rfl) ?_
          intro p e s m below meth c hx hb hr hG hown hlocks hml hB ls hl
          have hl : lv_has ls 5 [(0, .ref (ad 0)), (1, .int (nI (b))), (2, .int (key)), (3, .int (v))] := hl
          obtain ⟨hW, hK⟩ := hB
          have hS : va_S (Ao ad 36) s.heap s.heap [] := va_S.rf
          refine lv_aload_n hx hb dX4_put_0 rfl (lv_at hl 0 rfl) ?_
          refine lv_iload_n hx hb dX4_put_1 rfl (lv_at hl 1 rfl) ?_
          refine k1_V hx hb hml hown hG cs_X4_71 (k_bookChangedByHand l D cI cC ad S N b (by omega)) (by decide) (pzV hK rfl hW.rc hW) rfl hl.1 rfl (Nat.le_of_ble_eq_true rfl) dX4_put_2 ⟨Nat.zero_le _, Nat.zero_le _⟩ rfl ?_
          refine lv_astore (lv' := [(4, .ref ((bk_ ad b) 0)), (0, .ref (ad 0)), (1, .int (nI (b))), (2, .int (key)), (3, .int (v))]) hx hb dX4_put_5 hl (by decide) rfl (fun ls hl => ?_)
          refine lv_aload_n hx hb dX4_put_7 rfl (lv_at hl 1 rfl) ?_
          refine lv_aload hx hb dX4_put_8 (lv_at hl 0 rfl) ?_
          refine lv_iload_n hx hb dX4_put_10 rfl (lv_at hl 3 rfl) ?_
          refine k1_V hx hb hml hown hG cs_X4_75 (k_requireRoomForKey l D cI cC ad S N b key (by omega) hI hfu) (by decide) (pzV hK rfl hW.rc hW) rfl hl.1 rfl (Nat.le_of_ble_eq_true rfl) dX4_put_11 ⟨Nat.zero_le _, Nat.zero_le _⟩ rfl ?_
          refine lv_aload_n hx hb dX4_put_14 rfl (lv_at hl 1 rfl) ?_
          refine lv_iload_n hx hb dX4_put_15 rfl (lv_at hl 2 rfl) ?_
          refine lv_iconst (v := (-1)) hx hb dX4_put_16 (by decide) ?_
          refine k2_V hx hb hml hown hG cs_X4_67 (k_closeCursors l D cI cC ad S N b (-1) (by omega) hCC hap) (by decide) (pzV hK rfl hW.rc hW) rfl hl.1 rfl (Nat.le_of_ble_eq_true rfl) dX4_put_17 ⟨Nat.zero_le _, Nat.zero_le _⟩ rfl hS (fun q h => h) (fun H locs hW hz hk hS => ?_)
          refine lv_aload hx hb dX4_put_20 (lv_at hl 0 rfl) ?_
          refine lv_iload_n hx hb dX4_put_22 rfl (lv_at hl 3 rfl) ?_
          refine lv_iload_n hx hb dX4_put_23 rfl (lv_at hl 4 rfl) ?_
          refine k2_V hx hb hml hown hG cs_X4_79 (c_store_no l D cI (bk_ ad b) (lgO b) (bdO S b) (S.1 b) N key v (hf) (full_r200 hI hb4 hfu hf) (hN2.1) (bdO_le hI b) (by omega) (bk_Ap (by omega) hap)) (by decide) (pzV (hK.sub (tys' := [(cI, .int)]) [0] rfl) rfl (hW.bk (b := b) (by omega)).1.rc (hW.bk (b := b) (by omega))) rfl hl.1 rfl (Nat.le_of_ble_eq_true rfl) dX4_put_24 ⟨Nat.zero_le _, Nat.zero_le _⟩ rfl hS (bk_Ao (by omega)) (fun H locs hB0 hz hk hS => ?_)
          rw [stq_bd] at hB0
          have hW := hW.book hap (b := b) (by omega) bk_A hk (M := N + 1) (L := (stq (lgO b) S.2.1 (S.1 b) key v)) (by omega) hB0
          exact w_z (PB := (fun H => Wc D cI cC ad (clB (upB S b (stq (lgO b) S.2.1 (S.1 b) key v)) b (-1)) (N + 2000) H)) rfl (hW.mono (by omega)) hS hx hb hr hlocks dX4_put_27
        | some i =>
          have hi := (fx_some hf).1
          have e9 : sp_put S (nI (b)) key v = (0, true, clB (upB S b (stq (lgO b) S.2.1 (S.1 b) key v)) b (-1)) := by simp [sp_put, hbk, h3, hfu, hf]
          rw [e9]
          refine m_start (by decide) (Nat.le_of_ble_eq_true rfl) ?_
          intro p e s m below meth c hx hb hr hG hown hlocks hml hB ls hl
          have hl : lv_has ls 5 [(0, .ref (ad 0)), (1, .int (nI (b))), (2, .int (key)), (3, .int (v))] := hl
          obtain ⟨hW, hK⟩ := hB
          have hS : va_S (Ao ad 36) s.heap s.heap [] := va_S.rf
          refine lv_aload_n hx hb dX4_put_0 rfl (lv_at hl 0 rfl) ?_
          refine lv_iload_n hx hb dX4_put_1 rfl (lv_at hl 1 rfl) ?_
          refine k1_V hx hb hml hown hG cs_X4_71 (k_bookChangedByHand l D cI cC ad S N b (by omega)) (by decide) (pzV hK rfl hW.rc hW) rfl hl.1 rfl (Nat.le_of_ble_eq_true rfl) dX4_put_2 ⟨Nat.zero_le _, Nat.zero_le _⟩ rfl ?_
          refine lv_astore (lv' := [(4, .ref ((bk_ ad b) 0)), (0, .ref (ad 0)), (1, .int (nI (b))), (2, .int (key)), (3, .int (v))]) hx hb dX4_put_5 hl (by decide) rfl (fun ls hl => ?_)
          refine lv_aload_n hx hb dX4_put_7 rfl (lv_at hl 1 rfl) ?_
          refine lv_aload hx hb dX4_put_8 (lv_at hl 0 rfl) ?_
          refine lv_iload_n hx hb dX4_put_10 rfl (lv_at hl 3 rfl) ?_
          refine k1_V hx hb hml hown hG cs_X4_75 (k_requireRoomForKey l D cI cC ad S N b key (by omega) hI hfu) (by decide) (pzV hK rfl hW.rc hW) rfl hl.1 rfl (Nat.le_of_ble_eq_true rfl) dX4_put_11 ⟨Nat.zero_le _, Nat.zero_le _⟩ rfl ?_
          refine lv_aload_n hx hb dX4_put_14 rfl (lv_at hl 1 rfl) ?_
          refine lv_iload_n hx hb dX4_put_15 rfl (lv_at hl 2 rfl) ?_
          refine lv_iconst (v := (-1)) hx hb dX4_put_16 (by decide) ?_
          refine k2_V hx hb hml hown hG cs_X4_67 (k_closeCursors l D cI cC ad S N b (-1) (by omega) hCC hap) (by decide) (pzV hK rfl hW.rc hW) rfl hl.1 rfl (Nat.le_of_ble_eq_true rfl) dX4_put_17 ⟨Nat.zero_le _, Nat.zero_le _⟩ rfl hS (fun q h => h) (fun H locs hW hz hk hS => ?_)
          refine lv_aload hx hb dX4_put_20 (lv_at hl 0 rfl) ?_
          refine lv_iload_n hx hb dX4_put_22 rfl (lv_at hl 3 rfl) ?_
          refine lv_iload_n hx hb dX4_put_23 rfl (lv_at hl 4 rfl) ?_
          refine k2_V hx hb hml hown hG cs_X4_79 (c_store_at l D cI (bk_ ad b) (lgO b) (bdO S b) (S.1 b) N key v i (hf) (hN2.1) (bdO_le hI b) (by omega) (bk_Ap (by omega) hap)) (by decide) (pzV (hK.sub (tys' := [(cI, .int)]) [0] rfl) rfl (hW.bk (b := b) (by omega)).1.rc (hW.bk (b := b) (by omega))) rfl hl.1 rfl (Nat.le_of_ble_eq_true rfl) dX4_put_24 ⟨Nat.zero_le _, Nat.zero_le _⟩ rfl hS (bk_Ao (by omega)) (fun H locs hB0 hz hk hS => ?_)
          rw [stq_bd] at hB0
          have hW := hW.book hap (b := b) (by omega) bk_A hk (M := N + 1) (L := (stq (lgO b) S.2.1 (S.1 b) key v)) (by omega) hB0
          exact w_z (PB := (fun H => Wc D cI cC ad (clB (upB S b (stq (lgO b) S.2.1 (S.1 b) key v)) b (-1)) (N + 2000) H)) rfl (hW.mono (by omega)) hS hx hb hr hlocks dX4_put_27
  · skip
    exact absurd hok (by unfold sp_put; rw [hbk]; simp)
set_option maxHeartbeats 4000000 in
set_option maxRecDepth 100000 in
theorem ok_putNew (l : Launch) (D : va_G) (cI cC : ClassId) (ad : Nat → Nat) (S : St) (N : Nat) (x key v : Int32) (hI : Inv S) (hN : N + 2000 < 2 ^ 31) (hap : Ap ad 36) (hok : (sp_putNew S x key v).1 = 0) : Met l yX4_putNew (ws_ yX4_putNew cX4_putNew 6 (some .int)) (rmN 6) (va_Pc [.ref (ad 0), .int x, .int key, .int v] (pz D [(cI, .int), (cC, .char)] (fun H => Wc D cI cC ad S N H))) (Wq (some (.int (sp_putNew S x key v).2.1)) (fun H => Wc D cI cC ad (sp_putNew S x key v).2.2 (N + 2000) H) (Ao ad 36)) 0 0 (Ao ad 36) := by
  have hbd2 : S.2.1 ≤ 40 := hI.2.2.2.1
  have hCC : ∀ cu, cu < 3 → ∀ y, S.2.2.1 cu = some y → y.1 < 4 := fun cu hcu y hy => by have h := hI.2.2.2.2.1 cu hcu; rw [hy] at h; exact h.1
  rcases bkn_cases 4 (by decide) x with ⟨b, hb4, rfl, hbk⟩ | ⟨hbk, hno⟩
  · skip
    have hN2 := hI.1 b hb4
    by_cases h2 : 2 ≤ b
    · skip
      exact absurd hok (by unfold sp_putNew; rw [hbk]; simp [h2])
    · skip
      have hlg : lgO b = false := decide_eq_false (by omega)
      cases hfu : full S b key with
      | true =>
        exact absurd hok (by unfold sp_putNew; rw [hbk]; simp [h2, hfu])
      | false =>
        cases hf : fx (S.1 b) key with
        | none =>
          have e9 : sp_putNew S (nI (b)) key v = (0, v, clB (upB S b (S.1 b ++ [(key, v)])) b (-1)) := by simp [sp_putNew, hbk, h2, hfu, hf]
          rw [e9]
          refine m_start (by decide) (Nat.le_of_ble_eq_true rfl) ?_
          intro p e s m below meth c hx hb hr hG hown hlocks hml hB ls hl
          have hl : lv_has ls 6 [(0, .ref (ad 0)), (1, .int (nI (b))), (2, .int (key)), (3, .int (v))] := hl
          obtain ⟨hW, hK⟩ := hB
          have hS : va_S (Ao ad 36) s.heap s.heap [] := va_S.rf
          refine lv_aload_n hx hb dX4_putNew_0 rfl (lv_at hl 0 rfl) ?_
          refine lv_iload_n hx hb dX4_putNew_1 rfl (lv_at hl 1 rfl) ?_
          refine k1_V hx hb hml hown hG cs_X4_83 (k_plainBook l D cI cC ad S N b (by omega)) (by decide) (pzV hK rfl hW.rc hW) rfl hl.1 rfl (Nat.le_of_ble_eq_true rfl) dX4_putNew_2 ⟨Nat.zero_le _, Nat.zero_le _⟩ rfl ?_
          refine lv_astore (lv' := [(4, .ref ((bk_ ad b) 0)), (0, .ref (ad 0)), (1, .int (nI (b))), (2, .int (key)), (3, .int (v))]) hx hb dX4_putNew_5 hl (by decide) rfl (fun ls hl => ?_)
          refine lv_aload_n hx hb dX4_putNew_7 rfl (lv_at hl 1 rfl) ?_
          refine lv_aload hx hb dX4_putNew_8 (lv_at hl 0 rfl) ?_
          refine lv_iload_n hx hb dX4_putNew_10 rfl (lv_at hl 3 rfl) ?_
          refine k1_V hx hb hml hown hG cs_X4_75 (k_requireRoomForKey l D cI cC ad S N b key (by omega) hI hfu) (by decide) (pzV hK rfl hW.rc hW) rfl hl.1 rfl (Nat.le_of_ble_eq_true rfl) dX4_putNew_11 ⟨Nat.zero_le _, Nat.zero_le _⟩ rfl ?_
          refine lv_aload_n hx hb dX4_putNew_14 rfl (lv_at hl 1 rfl) ?_
          refine lv_iload_n hx hb dX4_putNew_15 rfl (lv_at hl 2 rfl) ?_
          refine lv_iconst (v := (-1)) hx hb dX4_putNew_16 (by decide) ?_
          refine k2_V hx hb hml hown hG cs_X4_67 (k_closeCursors l D cI cC ad S N b (-1) (by omega) hCC hap) (by decide) (pzV hK rfl hW.rc hW) rfl hl.1 rfl (Nat.le_of_ble_eq_true rfl) dX4_putNew_17 ⟨Nat.zero_le _, Nat.zero_le _⟩ rfl hS (fun q h => h) (fun H locs hW hz hk hS => ?_)
          refine lv_aload hx hb dX4_putNew_20 (lv_at hl 0 rfl) ?_
          refine lv_iload_n hx hb dX4_putNew_22 rfl (lv_at hl 3 rfl) ?_
          refine k1_V hx hb hml hown hG cs_X4_86 (c_find_no l D cI (bk_ ad b) (lgO b) (bdO S b) (S.1 b) key (hf)) (by decide) (pzV (hK.sub (tys' := [(cI, .int)]) [0] rfl) rfl (hW.bk (b := b) (by omega)).1.rc (hW.bk (b := b) (by omega)).1) rfl hl.1 rfl (Nat.le_of_ble_eq_true rfl) dX4_putNew_23 ⟨Nat.zero_le _, Nat.zero_le _⟩ rfl ?_
          refine lv_istore (lv' := [(5, .int ((-1))), (4, .ref ((bk_ ad b) 0)), (0, .ref (ad 0)), (1, .int (nI (b))), (2, .int (key)), (3, .int (v))]) hx hb dX4_putNew_26 hl (by decide) rfl (fun ls hl => ?_)
          refine lv_iload hx hb dX4_putNew_28 (lv_at hl 0 rfl) ?_
          refine lv_iconst (v := (-1)) hx hb dX4_putNew_30 (by decide) ?_
          refine lv_icmp_ne (tgt := 43) hx hb dX4_putNew_31 (by decide) (fun zc1 => False.elim (by first | exact absurd zc1 (by decide) | omega | (simp_all; done))) (fun zc1 => ?_)
          refine lv_aload hx hb dX4_putNew_34 (lv_at hl 1 rfl) ?_
          refine lv_iload_n hx hb dX4_putNew_36 rfl (lv_at hl 4 rfl) ?_
          refine lv_iload_n hx hb dX4_putNew_37 rfl (lv_at hl 5 rfl) ?_
          refine k2_V hx hb hml hown hG cs_X4_90 (c_enter l D cI (bk_ ad b) (lgO b) (bdO S b) (S.1 b) N key v (hN2.1) (hf) (full_r200 hI hb4 hfu hf) (bdO_le hI b) (by omega) (bk_Ap (by omega) hap)) (by decide) (pzV (hK.sub (tys' := [(cI, .int)]) [0] rfl) rfl (hW.bk (b := b) (by omega)).1.rc (hW.bk (b := b) (by omega))) rfl hl.1 rfl (Nat.le_of_ble_eq_true rfl) dX4_putNew_38 ⟨Nat.zero_le _, Nat.zero_le _⟩ rfl hS (bk_Ao (by omega)) (fun H locs hB0 hz hk hS => ?_)
          rw [show ent (lgO b) (bdO S b) (S.1 b) key v = ((S.1 b) ++ [(key, v)]) from by rw [show lgO b = false from hlg, ent_plain]] at hB0
          have hW := hW.book hap (b := b) (by omega) bk_A hk (M := N + 1) (L := ((S.1 b) ++ [(key, v)])) (by omega) hB0
          skip
          refine lv_iload_n hx hb dX4_putNew_41 rfl (lv_at hl 5 rfl) ?_
          exact w_i (PB := (fun H => Wc D cI cC ad (clB (upB S b (S.1 b ++ [(key, v)])) b (-1)) (N + 2000) H)) rfl (hW.mono (by omega)) hS hx hb hr hlocks dX4_putNew_42
        | some i =>
          have hi := (fx_some hf).1
          have e9 : sp_putNew S (nI (b)) key v = (0, vf (S.1 b) i, clB S b (-1)) := by simp [sp_putNew, hbk, h2, hfu, hf]
          rw [e9]
          refine m_start (by decide) (Nat.le_of_ble_eq_true rfl) ?_
          intro p e s m below meth c hx hb hr hG hown hlocks hml hB ls hl
          have hl : lv_has ls 6 [(0, .ref (ad 0)), (1, .int (nI (b))), (2, .int (key)), (3, .int (v))] := hl
          obtain ⟨hW, hK⟩ := hB
          have hS : va_S (Ao ad 36) s.heap s.heap [] := va_S.rf
          refine lv_aload_n hx hb dX4_putNew_0 rfl (lv_at hl 0 rfl) ?_
          refine lv_iload_n hx hb dX4_putNew_1 rfl (lv_at hl 1 rfl) ?_
          refine k1_V hx hb hml hown hG cs_X4_83 (k_plainBook l D cI cC ad S N b (by omega)) (by decide) (pzV hK rfl hW.rc hW) rfl hl.1 rfl (Nat.le_of_ble_eq_true rfl) dX4_putNew_2 ⟨Nat.zero_le _, Nat.zero_le _⟩ rfl ?_
          refine lv_astore (lv' := [(4, .ref ((bk_ ad b) 0)), (0, .ref (ad 0)), (1, .int (nI (b))), (2, .int (key)), (3, .int (v))]) hx hb dX4_putNew_5 hl (by decide) rfl (fun ls hl => ?_)
          refine lv_aload_n hx hb dX4_putNew_7 rfl (lv_at hl 1 rfl) ?_
          refine lv_aload hx hb dX4_putNew_8 (lv_at hl 0 rfl) ?_
          refine lv_iload_n hx hb dX4_putNew_10 rfl (lv_at hl 3 rfl) ?_
          refine k1_V hx hb hml hown hG cs_X4_75 (k_requireRoomForKey l D cI cC ad S N b key (by omega) hI hfu) (by decide) (pzV hK rfl hW.rc hW) rfl hl.1 rfl (Nat.le_of_ble_eq_true rfl) dX4_putNew_11 ⟨Nat.zero_le _, Nat.zero_le _⟩ rfl ?_
          refine lv_aload_n hx hb dX4_putNew_14 rfl (lv_at hl 1 rfl) ?_
          refine lv_iload_n hx hb dX4_putNew_15 rfl (lv_at hl 2 rfl) ?_
          refine lv_iconst (v := (-1)) hx hb dX4_putNew_16 (by decide) ?_
          refine k2_V hx hb hml hown hG cs_X4_67 (k_closeCursors l D cI cC ad S N b (-1) (by omega) hCC hap) (by decide) (pzV hK rfl hW.rc hW) rfl hl.1 rfl (Nat.le_of_ble_eq_true rfl) dX4_putNew_17 ⟨Nat.zero_le _, Nat.zero_le _⟩ rfl hS (fun q h => h) (fun H locs hW hz hk hS => ?_)
          refine lv_aload hx hb dX4_putNew_20 (lv_at hl 0 rfl) ?_
          refine lv_iload_n hx hb dX4_putNew_22 rfl (lv_at hl 3 rfl) ?_
          refine k1_V hx hb hml hown hG cs_X4_86 (c_find_at l D cI (bk_ ad b) (lgO b) (bdO S b) (S.1 b) key (hi := (hf))) (by decide) (pzV (hK.sub (tys' := [(cI, .int)]) [0] rfl) rfl (hW.bk (b := b) (by omega)).1.rc (hW.bk (b := b) (by omega)).1) rfl hl.1 rfl (Nat.le_of_ble_eq_true rfl) dX4_putNew_23 ⟨Nat.zero_le _, Nat.zero_le _⟩ rfl ?_
          refine lv_istore (lv' := [(5, .int (nI (i))), (4, .ref ((bk_ ad b) 0)), (0, .ref (ad 0)), (1, .int (nI (b))), (2, .int (key)), (3, .int (v))]) hx hb dX4_putNew_26 hl (by decide) rfl (fun ls hl => ?_)
          refine lv_iload hx hb dX4_putNew_28 (lv_at hl 0 rfl) ?_
          refine lv_iconst (v := (-1)) hx hb dX4_putNew_30 (by decide) ?_
          refine lv_icmp_ne (tgt := 43) hx hb dX4_putNew_31 (by decide) (fun zc1 => ?_) (fun zc1 => False.elim (by first | omega | contradiction | exact absurd zc1 (m1_ne _ (by omega)) | exact absurd zc1 (by decide) | exact absurd (Eq.symm zc1) (m1_ne _ (by omega)) | (simp_all; done)))
          refine lv_aload hx hb dX4_putNew_43 (lv_at hl 1 rfl) ?_
          refine lv_iload hx hb dX4_putNew_45 (lv_at hl 0 rfl) ?_
          refine k1_V hx hb hml hown hG cs_X4_93 (c_valueOn l D cI (bk_ ad b) (lgO b) (bdO S b) (S.1 b) i (by omega)) (by decide) (pzV (hK.sub (tys' := [(cI, .int)]) [0] rfl) rfl (hW.bk (b := b) (by omega)).1.rc (hW.bk (b := b) (by omega)).1) rfl hl.1 rfl (Nat.le_of_ble_eq_true rfl) dX4_putNew_47 ⟨Nat.zero_le _, Nat.zero_le _⟩ rfl ?_
          exact w_i (PB := (fun H => Wc D cI cC ad (clB S b (-1)) (N + 2000) H)) rfl (hW.mono (by omega)) hS hx hb hr hlocks dX4_putNew_50
  · skip
    exact absurd hok (by unfold sp_putNew; rw [hbk]; simp)
set_option maxHeartbeats 4000000 in
set_option maxRecDepth 100000 in
theorem ok_add (l : Launch) (D : va_G) (cI cC : ClassId) (ad : Nat → Nat) (S : St) (N : Nat) (x key v : Int32) (hI : Inv S) (hN : N + 2000 < 2 ^ 31) (hap : Ap ad 36) (hok : (sp_add S x key v).1 = 0) : Met l yX4_add (ws_ yX4_add cX4_add 7 (some .int)) (rmN 6) (va_Pc [.ref (ad 0), .int x, .int key, .int v] (pz D [(cI, .int), (cC, .char)] (fun H => Wc D cI cC ad S N H))) (Wq (some (.int (sp_add S x key v).2.1)) (fun H => Wc D cI cC ad (sp_add S x key v).2.2 (N + 2000) H) (Ao ad 36)) 0 0 (Ao ad 36) := by
  have hbd2 : S.2.1 ≤ 40 := hI.2.2.2.1
  have hCC : ∀ cu, cu < 3 → ∀ y, S.2.2.1 cu = some y → y.1 < 4 := fun cu hcu y hy => by have h := hI.2.2.2.2.1 cu hcu; rw [hy] at h; exact h.1
  rcases bkn_cases 4 (by decide) x with ⟨b, hb4, rfl, hbk⟩ | ⟨hbk, hno⟩
  · skip
    have hN2 := hI.1 b hb4
    by_cases h2 : 2 ≤ b
    · skip
      exact absurd hok (by unfold sp_add; rw [hbk]; simp [h2])
    · skip
      have hlg : lgO b = false := decide_eq_false (by omega)
      cases hfu : full S b key with
      | true =>
        exact absurd hok (by unfold sp_add; rw [hbk]; simp [h2, hfu])
      | false =>
        cases hf : fx (S.1 b) key with
        | none =>
          have e9 : sp_add S (nI (b)) key v = (0, v, clB (upB S b (S.1 b ++ [(key, v)])) b (-1)) := by simp [sp_add, hbk, h2, hfu, hf]
          rw [e9]
          refine m_start (by decide) (Nat.le_of_ble_eq_true rfl) ?_
          intro p e s m below meth c hx hb hr hG hown hlocks hml hB ls hl
          have hl : lv_has ls 7 [(0, .ref (ad 0)), (1, .int (nI (b))), (2, .int (key)), (3, .int (v))] := hl
          obtain ⟨hW, hK⟩ := hB
          have hS : va_S (Ao ad 36) s.heap s.heap [] := va_S.rf
          have es : stq (lgO b) S.2.1 (S.1 b) key (v) = (S.1 b ++ [(key, v)]) := by rw [stq_no hf, hlg, ent_plain]
          refine lv_aload_n hx hb dX4_add_0 rfl (lv_at hl 0 rfl) ?_
          refine lv_iload_n hx hb dX4_add_1 rfl (lv_at hl 1 rfl) ?_
          refine k1_V hx hb hml hown hG cs_X4_83 (k_plainBook l D cI cC ad S N b (by omega)) (by decide) (pzV hK rfl hW.rc hW) rfl hl.1 rfl (Nat.le_of_ble_eq_true rfl) dX4_add_2 ⟨Nat.zero_le _, Nat.zero_le _⟩ rfl ?_
          refine lv_astore (lv' := [(4, .ref ((bk_ ad b) 0)), (0, .ref (ad 0)), (1, .int (nI (b))), (2, .int (key)), (3, .int (v))]) hx hb dX4_add_5 hl (by decide) rfl (fun ls hl => ?_)
          refine lv_aload_n hx hb dX4_add_7 rfl (lv_at hl 1 rfl) ?_
          refine lv_aload hx hb dX4_add_8 (lv_at hl 0 rfl) ?_
          refine lv_iload_n hx hb dX4_add_10 rfl (lv_at hl 3 rfl) ?_
          refine k1_V hx hb hml hown hG cs_X4_75 (k_requireRoomForKey l D cI cC ad S N b key (by omega) hI hfu) (by decide) (pzV hK rfl hW.rc hW) rfl hl.1 rfl (Nat.le_of_ble_eq_true rfl) dX4_add_11 ⟨Nat.zero_le _, Nat.zero_le _⟩ rfl ?_
          refine lv_aload_n hx hb dX4_add_14 rfl (lv_at hl 1 rfl) ?_
          refine lv_iload_n hx hb dX4_add_15 rfl (lv_at hl 2 rfl) ?_
          refine lv_iconst (v := (-1)) hx hb dX4_add_16 (by decide) ?_
          refine k2_V hx hb hml hown hG cs_X4_67 (k_closeCursors l D cI cC ad S N b (-1) (by omega) hCC hap) (by decide) (pzV hK rfl hW.rc hW) rfl hl.1 rfl (Nat.le_of_ble_eq_true rfl) dX4_add_17 ⟨Nat.zero_le _, Nat.zero_le _⟩ rfl hS (fun q h => h) (fun H locs hW hz hk hS => ?_)
          refine lv_aload hx hb dX4_add_20 (lv_at hl 0 rfl) ?_
          refine lv_iload_n hx hb dX4_add_22 rfl (lv_at hl 3 rfl) ?_
          refine k1_V hx hb hml hown hG cs_X4_86 (c_find_no l D cI (bk_ ad b) (lgO b) (bdO S b) (S.1 b) key (hf)) (by decide) (pzV (hK.sub (tys' := [(cI, .int)]) [0] rfl) rfl (hW.bk (b := b) (by omega)).1.rc (hW.bk (b := b) (by omega)).1) rfl hl.1 rfl (Nat.le_of_ble_eq_true rfl) dX4_add_23 ⟨Nat.zero_le _, Nat.zero_le _⟩ rfl ?_
          refine lv_istore (lv' := [(5, .int ((-1))), (4, .ref ((bk_ ad b) 0)), (0, .ref (ad 0)), (1, .int (nI (b))), (2, .int (key)), (3, .int (v))]) hx hb dX4_add_26 hl (by decide) rfl (fun ls hl => ?_)
          refine lv_iload hx hb dX4_add_28 (lv_at hl 0 rfl) ?_
          refine lv_iconst (v := (-1)) hx hb dX4_add_30 (by decide) ?_
          refine lv_icmp_ne (tgt := 38) hx hb dX4_add_31 (by decide) (fun zc1 => False.elim (by first | exact absurd zc1 (by decide) | omega | (simp_all; done))) (fun zc1 => ?_)
          refine lv_iload_n hx hb dX4_add_34 rfl (lv_at hl 5 rfl) ?_
          refine lv_goto (tgt := 47) hx hb dX4_add_35 (by decide) ?_
          refine lv_istore (lv' := [(6, .int (v)), (5, .int ((-1))), (4, .ref ((bk_ ad b) 0)), (0, .ref (ad 0)), (1, .int (nI (b))), (2, .int (key)), (3, .int (v))]) hx hb dX4_add_47 hl (by decide) rfl (fun ls hl => ?_)
          refine lv_aload hx hb dX4_add_49 (lv_at hl 2 rfl) ?_
          refine lv_iload_n hx hb dX4_add_51 rfl (lv_at hl 5 rfl) ?_
          refine lv_iload hx hb dX4_add_52 (lv_at hl 0 rfl) ?_
          refine k2_V hx hb hml hown hG cs_X4_79 (c_store_no l D cI (bk_ ad b) (lgO b) (bdO S b) (S.1 b) N key v (hf) (full_r200 hI hb4 hfu hf) (hN2.1) (bdO_le hI b) (by omega) (bk_Ap (by omega) hap)) (by decide) (pzV (hK.sub (tys' := [(cI, .int)]) [0] rfl) rfl (hW.bk (b := b) (by omega)).1.rc (hW.bk (b := b) (by omega))) rfl hl.1 rfl (Nat.le_of_ble_eq_true rfl) dX4_add_54 ⟨Nat.zero_le _, Nat.zero_le _⟩ rfl hS (bk_Ao (by omega)) (fun H locs hB0 hz hk hS => ?_)
          rw [stq_bd] at hB0
          have hW := hW.book hap (b := b) (by omega) bk_A hk (M := N + 1) (L := (stq (lgO b) S.2.1 (S.1 b) key v)) (by omega) hB0
          refine lv_pop hx hb dX4_add_57 rfl ?_
          refine lv_iload hx hb dX4_add_58 (lv_at hl 0 rfl) ?_
          rw [es] at hW
          exact w_i (PB := (fun H => Wc D cI cC ad (clB (upB S b (S.1 b ++ [(key, v)])) b (-1)) (N + 2000) H)) rfl (hW.mono (by omega)) hS hx hb hr hlocks dX4_add_60
        | some i =>
          have hi := (fx_some hf).1
          have e9 : sp_add S (nI (b)) key v = (0, vf (S.1 b) i + v, clB (upB S b (sv (S.1 b) i (vf (S.1 b) i + v))) b (-1)) := by simp [sp_add, hbk, h2, hfu, hf]
          rw [e9]
          refine m_start (by decide) (Nat.le_of_ble_eq_true rfl) ?_
          intro p e s m below meth c hx hb hr hG hown hlocks hml hB ls hl
          have hl : lv_has ls 7 [(0, .ref (ad 0)), (1, .int (nI (b))), (2, .int (key)), (3, .int (v))] := hl
          obtain ⟨hW, hK⟩ := hB
          have hS : va_S (Ao ad 36) s.heap s.heap [] := va_S.rf
          have es : stq (lgO b) S.2.1 (S.1 b) key (vf (S.1 b) i + v) = (sv (S.1 b) i (vf (S.1 b) i + v)) := stq_at hf
          refine lv_aload_n hx hb dX4_add_0 rfl (lv_at hl 0 rfl) ?_
          refine lv_iload_n hx hb dX4_add_1 rfl (lv_at hl 1 rfl) ?_
          refine k1_V hx hb hml hown hG cs_X4_83 (k_plainBook l D cI cC ad S N b (by omega)) (by decide) (pzV hK rfl hW.rc hW) rfl hl.1 rfl (Nat.le_of_ble_eq_true rfl) dX4_add_2 ⟨Nat.zero_le _, Nat.zero_le _⟩ rfl ?_
          refine lv_astore (lv' := [(4, .ref ((bk_ ad b) 0)), (0, .ref (ad 0)), (1, .int (nI (b))), (2, .int (key)), (3, .int (v))]) hx hb dX4_add_5 hl (by decide) rfl (fun ls hl => ?_)
          refine lv_aload_n hx hb dX4_add_7 rfl (lv_at hl 1 rfl) ?_
          refine lv_aload hx hb dX4_add_8 (lv_at hl 0 rfl) ?_
          refine lv_iload_n hx hb dX4_add_10 rfl (lv_at hl 3 rfl) ?_
          refine k1_V hx hb hml hown hG cs_X4_75 (k_requireRoomForKey l D cI cC ad S N b key (by omega) hI hfu) (by decide) (pzV hK rfl hW.rc hW) rfl hl.1 rfl (Nat.le_of_ble_eq_true rfl) dX4_add_11 ⟨Nat.zero_le _, Nat.zero_le _⟩ rfl ?_
          refine lv_aload_n hx hb dX4_add_14 rfl (lv_at hl 1 rfl) ?_
          refine lv_iload_n hx hb dX4_add_15 rfl (lv_at hl 2 rfl) ?_
          refine lv_iconst (v := (-1)) hx hb dX4_add_16 (by decide) ?_
          refine k2_V hx hb hml hown hG cs_X4_67 (k_closeCursors l D cI cC ad S N b (-1) (by omega) hCC hap) (by decide) (pzV hK rfl hW.rc hW) rfl hl.1 rfl (Nat.le_of_ble_eq_true rfl) dX4_add_17 ⟨Nat.zero_le _, Nat.zero_le _⟩ rfl hS (fun q h => h) (fun H locs hW hz hk hS => ?_)
          refine lv_aload hx hb dX4_add_20 (lv_at hl 0 rfl) ?_
          refine lv_iload_n hx hb dX4_add_22 rfl (lv_at hl 3 rfl) ?_
          refine k1_V hx hb hml hown hG cs_X4_86 (c_find_at l D cI (bk_ ad b) (lgO b) (bdO S b) (S.1 b) key (hi := (hf))) (by decide) (pzV (hK.sub (tys' := [(cI, .int)]) [0] rfl) rfl (hW.bk (b := b) (by omega)).1.rc (hW.bk (b := b) (by omega)).1) rfl hl.1 rfl (Nat.le_of_ble_eq_true rfl) dX4_add_23 ⟨Nat.zero_le _, Nat.zero_le _⟩ rfl ?_
          refine lv_istore (lv' := [(5, .int (nI (i))), (4, .ref ((bk_ ad b) 0)), (0, .ref (ad 0)), (1, .int (nI (b))), (2, .int (key)), (3, .int (v))]) hx hb dX4_add_26 hl (by decide) rfl (fun ls hl => ?_)
          refine lv_iload hx hb dX4_add_28 (lv_at hl 0 rfl) ?_
          refine lv_iconst (v := (-1)) hx hb dX4_add_30 (by decide) ?_
          refine lv_icmp_ne (tgt := 38) hx hb dX4_add_31 (by decide) (fun zc1 => ?_) (fun zc1 => False.elim (by first | omega | contradiction | exact absurd zc1 (m1_ne _ (by omega)) | exact absurd zc1 (by decide) | exact absurd (Eq.symm zc1) (m1_ne _ (by omega)) | (simp_all; done)))
          refine lv_aload hx hb dX4_add_38 (lv_at hl 1 rfl) ?_
          refine lv_iload hx hb dX4_add_40 (lv_at hl 0 rfl) ?_
          refine k1_V hx hb hml hown hG cs_X4_93 (c_valueOn l D cI (bk_ ad b) (lgO b) (bdO S b) (S.1 b) i (by omega)) (by decide) (pzV (hK.sub (tys' := [(cI, .int)]) [0] rfl) rfl (hW.bk (b := b) (by omega)).1.rc (hW.bk (b := b) (by omega)).1) rfl hl.1 rfl (Nat.le_of_ble_eq_true rfl) dX4_add_42 ⟨Nat.zero_le _, Nat.zero_le _⟩ rfl ?_
          refine lv_iload_n hx hb dX4_add_45 rfl (lv_at hl 5 rfl) ?_
          refine x_iadd (v := (vf (S.1 b) i) + v) hx hb dX4_add_46 rfl ?_
          refine lv_istore (lv' := [(6, .int ((vf (S.1 b) i) + v)), (5, .int (nI (i))), (4, .ref ((bk_ ad b) 0)), (0, .ref (ad 0)), (1, .int (nI (b))), (2, .int (key)), (3, .int (v))]) hx hb dX4_add_47 hl (by decide) rfl (fun ls hl => ?_)
          refine lv_aload hx hb dX4_add_49 (lv_at hl 2 rfl) ?_
          refine lv_iload_n hx hb dX4_add_51 rfl (lv_at hl 5 rfl) ?_
          refine lv_iload hx hb dX4_add_52 (lv_at hl 0 rfl) ?_
          refine k2_V hx hb hml hown hG cs_X4_79 (c_store_at l D cI (bk_ ad b) (lgO b) (bdO S b) (S.1 b) N key ((vf (S.1 b) i) + v) i (hf) (hN2.1) (bdO_le hI b) (by omega) (bk_Ap (by omega) hap)) (by decide) (pzV (hK.sub (tys' := [(cI, .int)]) [0] rfl) rfl (hW.bk (b := b) (by omega)).1.rc (hW.bk (b := b) (by omega))) rfl hl.1 rfl (Nat.le_of_ble_eq_true rfl) dX4_add_54 ⟨Nat.zero_le _, Nat.zero_le _⟩ rfl hS (bk_Ao (by omega)) (fun H locs hB0 hz hk hS => ?_)
          rw [stq_bd] at hB0
          have hW := hW.book hap (b := b) (by omega) bk_A hk (M := N + 1) (L := (stq (lgO b) S.2.1 (S.1 b) key ((vf (S.1 b) i) + v))) (by omega) hB0
          refine lv_pop hx hb dX4_add_57 rfl ?_
          refine lv_iload hx hb dX4_add_58 (lv_at hl 0 rfl) ?_
          rw [es] at hW
          exact w_i (PB := (fun H => Wc D cI cC ad (clB (upB S b (sv (S.1 b) i (vf (S.1 b) i + v))) b (-1)) (N + 2000) H)) rfl (hW.mono (by omega)) hS hx hb hr hlocks dX4_add_60
  · skip
    exact absurd hok (by unfold sp_add; rw [hbk]; simp)
set_option maxHeartbeats 4000000 in
set_option maxRecDepth 100000 in
theorem ok_halve (l : Launch) (D : va_G) (cI cC : ClassId) (ad : Nat → Nat) (S : St) (N : Nat) (x key : Int32) (hI : Inv S) (hN : N + 2000 < 2 ^ 31) (hap : Ap ad 36) (hok : (sp_halve S x key).1 = 0) : Met l yX4_halve (ws_ yX4_halve cX4_halve 6 (some .boolean)) (rmN 6) (va_Pc [.ref (ad 0), .int x, .int key] (pz D [(cI, .int), (cC, .char)] (fun H => Wc D cI cC ad S N H))) (Wq (some (.int (bI (sp_halve S x key).2.1))) (fun H => Wc D cI cC ad (sp_halve S x key).2.2 (N + 2000) H) (Ao ad 36)) 0 0 (Ao ad 36) := by
  have hbd2 : S.2.1 ≤ 40 := hI.2.2.2.1
  have hCC : ∀ cu, cu < 3 → ∀ y, S.2.2.1 cu = some y → y.1 < 4 := fun cu hcu y hy => by have h := hI.2.2.2.2.1 cu hcu; rw [hy] at h; exact h.1
  rcases bkn_cases 4 (by decide) x with ⟨b, hb4, rfl, hbk⟩ | ⟨hbk, hno⟩
  · skip
    have hN2 := hI.1 b hb4
    by_cases h2 : 2 ≤ b
    · skip
      exact absurd hok (by unfold sp_halve; rw [hbk]; simp [h2])
    · skip
      have hlg : lgO b = false := decide_eq_false (by omega)
      cases hf : fx (S.1 b) key with
      | none =>
        have e9 : sp_halve S (nI (b)) key = (0, false, clB S b (-1)) := by simp [sp_halve, hbk, h2, hf]
        rw [e9]
        refine m_start (by decide) (Nat.le_of_ble_eq_true rfl) ?_
        intro p e s m below meth c hx hb hr hG hown hlocks hml hB ls hl
        have hl : lv_has ls 6 [(0, .ref (ad 0)), (1, .int (nI (b))), (2, .int (key))] := hl
        obtain ⟨hW, hK⟩ := hB
        have hS : va_S (Ao ad 36) s.heap s.heap [] := va_S.rf
        refine lv_aload_n hx hb dX4_halve_0 rfl (lv_at hl 0 rfl) ?_
        refine lv_iload_n hx hb dX4_halve_1 rfl (lv_at hl 1 rfl) ?_
        refine k1_V hx hb hml hown hG cs_X4_83 (k_plainBook l D cI cC ad S N b (by omega)) (by decide) (pzV hK rfl hW.rc hW) rfl hl.1 rfl (Nat.le_of_ble_eq_true rfl) dX4_halve_2 ⟨Nat.zero_le _, Nat.zero_le _⟩ rfl ?_
        refine lv_astore_n (lv' := [(3, .ref ((bk_ ad b) 0)), (0, .ref (ad 0)), (1, .int (nI (b))), (2, .int (key))]) hx hb dX4_halve_5 rfl hl (by decide) rfl (fun ls hl => ?_)
        refine lv_aload_n hx hb dX4_halve_6 rfl (lv_at hl 1 rfl) ?_
        refine lv_iload_n hx hb dX4_halve_7 rfl (lv_at hl 2 rfl) ?_
        refine lv_iconst (v := (-1)) hx hb dX4_halve_8 (by decide) ?_
        refine k2_V hx hb hml hown hG cs_X4_67 (k_closeCursors l D cI cC ad S N b (-1) (by omega) hCC hap) (by decide) (pzV hK rfl hW.rc hW) rfl hl.1 rfl (Nat.le_of_ble_eq_true rfl) dX4_halve_9 ⟨Nat.zero_le _, Nat.zero_le _⟩ rfl hS (fun q h => h) (fun H locs hW hz hk hS => ?_)
        refine lv_aload_n hx hb dX4_halve_12 rfl (lv_at hl 0 rfl) ?_
        refine lv_iload_n hx hb dX4_halve_13 rfl (lv_at hl 3 rfl) ?_
        refine k1_V hx hb hml hown hG cs_X4_86 (c_find_no l D cI (bk_ ad b) (lgO b) (bdO S b) (S.1 b) key (hf)) (by decide) (pzV (hK.sub (tys' := [(cI, .int)]) [0] rfl) rfl (hW.bk (b := b) (by omega)).1.rc (hW.bk (b := b) (by omega)).1) rfl hl.1 rfl (Nat.le_of_ble_eq_true rfl) dX4_halve_14 ⟨Nat.zero_le _, Nat.zero_le _⟩ rfl ?_
        refine lv_istore (lv' := [(4, .int ((-1))), (3, .ref ((bk_ ad b) 0)), (0, .ref (ad 0)), (1, .int (nI (b))), (2, .int (key))]) hx hb dX4_halve_17 hl (by decide) rfl (fun ls hl => ?_)
        refine lv_iload hx hb dX4_halve_19 (lv_at hl 0 rfl) ?_
        refine lv_iconst (v := (-1)) hx hb dX4_halve_21 (by decide) ?_
        refine lv_icmp_ne (tgt := 27) hx hb dX4_halve_22 (by decide) (fun zc1 => False.elim (by first | exact absurd zc1 (by decide) | omega | (simp_all; done))) (fun zc1 => ?_)
        refine lv_iconst (v := nI 0) hx hb dX4_halve_25 (by decide) ?_
        exact w_z (PB := (fun H => Wc D cI cC ad (clB S b (-1)) (N + 2000) H)) rfl (hW.mono (by omega)) hS hx hb hr hlocks dX4_halve_26
      | some i =>
        have hi := (fx_some hf).1
        by_cases hz0 : vf (S.1 b) i / 2 = 0
        · skip
          have e9 : sp_halve S (nI (b)) key = (0, false, clB (upB S b ((S.1 b).eraseIdx i)) b (-1)) := by simp [sp_halve, hbk, h2, hf, hz0]
          rw [e9]
          refine m_start (by decide) (Nat.le_of_ble_eq_true rfl) ?_
          intro p e s m below meth c hx hb hr hG hown hlocks hml hB ls hl
          have hl : lv_has ls 6 [(0, .ref (ad 0)), (1, .int (nI (b))), (2, .int (key))] := hl
          obtain ⟨hW, hK⟩ := hB
          have hS : va_S (Ao ad 36) s.heap s.heap [] := va_S.rf
          refine lv_aload_n hx hb dX4_halve_0 rfl (lv_at hl 0 rfl) ?_
          refine lv_iload_n hx hb dX4_halve_1 rfl (lv_at hl 1 rfl) ?_
          refine k1_V hx hb hml hown hG cs_X4_83 (k_plainBook l D cI cC ad S N b (by omega)) (by decide) (pzV hK rfl hW.rc hW) rfl hl.1 rfl (Nat.le_of_ble_eq_true rfl) dX4_halve_2 ⟨Nat.zero_le _, Nat.zero_le _⟩ rfl ?_
          refine lv_astore_n (lv' := [(3, .ref ((bk_ ad b) 0)), (0, .ref (ad 0)), (1, .int (nI (b))), (2, .int (key))]) hx hb dX4_halve_5 rfl hl (by decide) rfl (fun ls hl => ?_)
          refine lv_aload_n hx hb dX4_halve_6 rfl (lv_at hl 1 rfl) ?_
          refine lv_iload_n hx hb dX4_halve_7 rfl (lv_at hl 2 rfl) ?_
          refine lv_iconst (v := (-1)) hx hb dX4_halve_8 (by decide) ?_
          refine k2_V hx hb hml hown hG cs_X4_67 (k_closeCursors l D cI cC ad S N b (-1) (by omega) hCC hap) (by decide) (pzV hK rfl hW.rc hW) rfl hl.1 rfl (Nat.le_of_ble_eq_true rfl) dX4_halve_9 ⟨Nat.zero_le _, Nat.zero_le _⟩ rfl hS (fun q h => h) (fun H locs hW hz hk hS => ?_)
          refine lv_aload_n hx hb dX4_halve_12 rfl (lv_at hl 0 rfl) ?_
          refine lv_iload_n hx hb dX4_halve_13 rfl (lv_at hl 3 rfl) ?_
          refine k1_V hx hb hml hown hG cs_X4_86 (c_find_at l D cI (bk_ ad b) (lgO b) (bdO S b) (S.1 b) key (hi := (hf))) (by decide) (pzV (hK.sub (tys' := [(cI, .int)]) [0] rfl) rfl (hW.bk (b := b) (by omega)).1.rc (hW.bk (b := b) (by omega)).1) rfl hl.1 rfl (Nat.le_of_ble_eq_true rfl) dX4_halve_14 ⟨Nat.zero_le _, Nat.zero_le _⟩ rfl ?_
          refine lv_istore (lv' := [(4, .int (nI (i))), (3, .ref ((bk_ ad b) 0)), (0, .ref (ad 0)), (1, .int (nI (b))), (2, .int (key))]) hx hb dX4_halve_17 hl (by decide) rfl (fun ls hl => ?_)
          refine lv_iload hx hb dX4_halve_19 (lv_at hl 0 rfl) ?_
          refine lv_iconst (v := (-1)) hx hb dX4_halve_21 (by decide) ?_
          refine lv_icmp_ne (tgt := 27) hx hb dX4_halve_22 (by decide) (fun zc1 => ?_) (fun zc1 => False.elim (by first | omega | contradiction | exact absurd zc1 (m1_ne _ (by omega)) | exact absurd zc1 (by decide) | exact absurd (Eq.symm zc1) (m1_ne _ (by omega)) | (simp_all; done)))
          refine lv_aload_n hx hb dX4_halve_27 rfl (lv_at hl 1 rfl) ?_
          refine lv_iload hx hb dX4_halve_28 (lv_at hl 0 rfl) ?_
          refine k1_V hx hb hml hown hG cs_X4_93 (c_valueOn l D cI (bk_ ad b) (lgO b) (bdO S b) (S.1 b) i (by omega)) (by decide) (pzV (hK.sub (tys' := [(cI, .int)]) [0] rfl) rfl (hW.bk (b := b) (by omega)).1.rc (hW.bk (b := b) (by omega)).1) rfl hl.1 rfl (Nat.le_of_ble_eq_true rfl) dX4_halve_30 ⟨Nat.zero_le _, Nat.zero_le _⟩ rfl ?_
          refine lv_iconst (v := nI 2) hx hb dX4_halve_33 (by decide) ?_
          refine lv_idiv hx hb dX4_halve_34 (by decide) ?_
          refine lv_istore (lv' := [(5, .int ((vf (S.1 b) i) / (nI (2)))), (4, .int (nI (i))), (3, .ref ((bk_ ad b) 0)), (0, .ref (ad 0)), (1, .int (nI (b))), (2, .int (key))]) hx hb dX4_halve_35 hl (by decide) rfl (fun ls hl => ?_)
          refine lv_iload hx hb dX4_halve_37 (lv_at hl 0 rfl) ?_
          refine lv_if_ne (tgt := 50) hx hb dX4_halve_39 (by decide) (fun zc2 => False.elim (by first | omega | contradiction | exact absurd zc2 (m1_ne _ (by omega)) | exact absurd zc2 (by decide) | exact absurd (Eq.symm zc2) (m1_ne _ (by omega)) | (simp_all; done))) (fun zc2 => ?_)
          refine lv_aload_n hx hb dX4_halve_42 rfl (lv_at hl 2 rfl) ?_
          refine lv_iload hx hb dX4_halve_43 (lv_at hl 1 rfl) ?_
          refine k2_V hx hb hml hown hG cs_X4_96 (c_leave l D cI (bk_ ad b) (lgO b) (bdO S b) (S.1 b) N i (hN2.1) (by omega) (bk_Ap (by omega) hap)) (by decide) (pzV (hK.sub (tys' := [(cI, .int)]) [0] rfl) rfl (hW.bk (b := b) (by omega)).1.rc (hW.bk (b := b) (by omega))) rfl hl.1 rfl (Nat.le_of_ble_eq_true rfl) dX4_halve_45 ⟨Nat.zero_le _, Nat.zero_le _⟩ rfl hS (bk_Ao (by omega)) (fun H locs hB0 hz hk hS => ?_)
          have hW := hW.book hap (b := b) (by omega) bk_A hk (M := N + 0) (L := ((S.1 b).eraseIdx i)) (by omega) hB0
          refine lv_iconst (v := nI 0) hx hb dX4_halve_48 (by decide) ?_
          exact w_z (PB := (fun H => Wc D cI cC ad (clB (upB S b ((S.1 b).eraseIdx i)) b (-1)) (N + 2000) H)) rfl (hW.mono (by omega)) hS hx hb hr hlocks dX4_halve_49
        · skip
          have e9 : sp_halve S (nI (b)) key = (0, true, clB (upB S b (sv (S.1 b) i (vf (S.1 b) i / 2))) b (-1)) := by simp [sp_halve, hbk, h2, hf, hz0]
          rw [e9]
          refine m_start (by decide) (Nat.le_of_ble_eq_true rfl) ?_
          intro p e s m below meth c hx hb hr hG hown hlocks hml hB ls hl
          have hl : lv_has ls 6 [(0, .ref (ad 0)), (1, .int (nI (b))), (2, .int (key))] := hl
          obtain ⟨hW, hK⟩ := hB
          have hS : va_S (Ao ad 36) s.heap s.heap [] := va_S.rf
          refine lv_aload_n hx hb dX4_halve_0 rfl (lv_at hl 0 rfl) ?_
          refine lv_iload_n hx hb dX4_halve_1 rfl (lv_at hl 1 rfl) ?_
          refine k1_V hx hb hml hown hG cs_X4_83 (k_plainBook l D cI cC ad S N b (by omega)) (by decide) (pzV hK rfl hW.rc hW) rfl hl.1 rfl (Nat.le_of_ble_eq_true rfl) dX4_halve_2 ⟨Nat.zero_le _, Nat.zero_le _⟩ rfl ?_
          refine lv_astore_n (lv' := [(3, .ref ((bk_ ad b) 0)), (0, .ref (ad 0)), (1, .int (nI (b))), (2, .int (key))]) hx hb dX4_halve_5 rfl hl (by decide) rfl (fun ls hl => ?_)
          refine lv_aload_n hx hb dX4_halve_6 rfl (lv_at hl 1 rfl) ?_
          refine lv_iload_n hx hb dX4_halve_7 rfl (lv_at hl 2 rfl) ?_
          refine lv_iconst (v := (-1)) hx hb dX4_halve_8 (by decide) ?_
          refine k2_V hx hb hml hown hG cs_X4_67 (k_closeCursors l D cI cC ad S N b (-1) (by omega) hCC hap) (by decide) (pzV hK rfl hW.rc hW) rfl hl.1 rfl (Nat.le_of_ble_eq_true rfl) dX4_halve_9 ⟨Nat.zero_le _, Nat.zero_le _⟩ rfl hS (fun q h => h) (fun H locs hW hz hk hS => ?_)
          refine lv_aload_n hx hb dX4_halve_12 rfl (lv_at hl 0 rfl) ?_
          refine lv_iload_n hx hb dX4_halve_13 rfl (lv_at hl 3 rfl) ?_
          refine k1_V hx hb hml hown hG cs_X4_86 (c_find_at l D cI (bk_ ad b) (lgO b) (bdO S b) (S.1 b) key (hi := (hf))) (by decide) (pzV (hK.sub (tys' := [(cI, .int)]) [0] rfl) rfl (hW.bk (b := b) (by omega)).1.rc (hW.bk (b := b) (by omega)).1) rfl hl.1 rfl (Nat.le_of_ble_eq_true rfl) dX4_halve_14 ⟨Nat.zero_le _, Nat.zero_le _⟩ rfl ?_
          refine lv_istore (lv' := [(4, .int (nI (i))), (3, .ref ((bk_ ad b) 0)), (0, .ref (ad 0)), (1, .int (nI (b))), (2, .int (key))]) hx hb dX4_halve_17 hl (by decide) rfl (fun ls hl => ?_)
          refine lv_iload hx hb dX4_halve_19 (lv_at hl 0 rfl) ?_
          refine lv_iconst (v := (-1)) hx hb dX4_halve_21 (by decide) ?_
          refine lv_icmp_ne (tgt := 27) hx hb dX4_halve_22 (by decide) (fun zc1 => ?_) (fun zc1 => False.elim (by first | omega | contradiction | exact absurd zc1 (m1_ne _ (by omega)) | exact absurd zc1 (by decide) | exact absurd (Eq.symm zc1) (m1_ne _ (by omega)) | (simp_all; done)))
          refine lv_aload_n hx hb dX4_halve_27 rfl (lv_at hl 1 rfl) ?_
          refine lv_iload hx hb dX4_halve_28 (lv_at hl 0 rfl) ?_
          refine k1_V hx hb hml hown hG cs_X4_93 (c_valueOn l D cI (bk_ ad b) (lgO b) (bdO S b) (S.1 b) i (by omega)) (by decide) (pzV (hK.sub (tys' := [(cI, .int)]) [0] rfl) rfl (hW.bk (b := b) (by omega)).1.rc (hW.bk (b := b) (by omega)).1) rfl hl.1 rfl (Nat.le_of_ble_eq_true rfl) dX4_halve_30 ⟨Nat.zero_le _, Nat.zero_le _⟩ rfl ?_
          refine lv_iconst (v := nI 2) hx hb dX4_halve_33 (by decide) ?_
          refine lv_idiv hx hb dX4_halve_34 (by decide) ?_
          refine lv_istore (lv' := [(5, .int ((vf (S.1 b) i) / (nI (2)))), (4, .int (nI (i))), (3, .ref ((bk_ ad b) 0)), (0, .ref (ad 0)), (1, .int (nI (b))), (2, .int (key))]) hx hb dX4_halve_35 hl (by decide) rfl (fun ls hl => ?_)
          refine lv_iload hx hb dX4_halve_37 (lv_at hl 0 rfl) ?_
          refine lv_if_ne (tgt := 50) hx hb dX4_halve_39 (by decide) (fun zc2 => ?_) (fun zc2 => False.elim (by first | omega | contradiction | exact absurd zc2 (m1_ne _ (by omega)) | exact absurd zc2 (by decide) | exact absurd (Eq.symm zc2) (m1_ne _ (by omega)) | (simp_all; done)))
          refine lv_aload_n hx hb dX4_halve_50 rfl (lv_at hl 2 rfl) ?_
          refine lv_iload hx hb dX4_halve_51 (lv_at hl 1 rfl) ?_
          refine lv_iload hx hb dX4_halve_53 (lv_at hl 0 rfl) ?_
          refine k2_V hx hb hml hown hG cs_X4_100 (c_give l D cI (bk_ ad b) (lgO b) (bdO S b) (S.1 b) i ((vf (S.1 b) i) / (nI (2))) (by omega) ((bk_Ap (by omega) hap).sub (by decide))) (by decide) (pzV (hK.sub (tys' := [(cI, .int)]) [0] rfl) rfl (hW.bk (b := b) (by omega)).1.rc (hW.bk (b := b) (by omega)).1) rfl hl.1 rfl (Nat.le_of_ble_eq_true rfl) dX4_halve_55 ⟨Nat.zero_le _, Nat.zero_le _⟩ rfl hS (bk_Ao3 (by omega)) (fun H locs hB0 hz hk hS => ?_)
          have hB0 := (hW.bk (b := b) (by omega)).give (bk_Ap (by omega) hap) hk hB0
          have hW := hW.book hap (b := b) (by omega) bk_A3 hk (M := N + 0) (L := (sv (S.1 b) i ((vf (S.1 b) i) / (nI (2))))) (by omega) hB0
          refine lv_iconst (v := nI 1) hx hb dX4_halve_58 (by decide) ?_
          exact w_z (PB := (fun H => Wc D cI cC ad (clB (upB S b (sv (S.1 b) i (vf (S.1 b) i / 2))) b (-1)) (N + 2000) H)) rfl (hW.mono (by omega)) hS hx hb hr hlocks dX4_halve_59
  · skip
    exact absurd hok (by unfold sp_halve; rw [hbk]; simp)
set_option maxHeartbeats 4000000 in
set_option maxRecDepth 100000 in
theorem ok_replace (l : Launch) (D : va_G) (cI cC : ClassId) (ad : Nat → Nat) (S : St) (N : Nat) (x key v : Int32) (hI : Inv S) (hN : N + 2000 < 2 ^ 31) (hap : Ap ad 36) (hok : (sp_replace S x key v).1 = 0) : Met l yX4_replace (ws_ yX4_replace cX4_replace 6 (some .boolean)) (rmN 6) (va_Pc [.ref (ad 0), .int x, .int key, .int v] (pz D [(cI, .int), (cC, .char)] (fun H => Wc D cI cC ad S N H))) (Wq (some (.int (bI (sp_replace S x key v).2.1))) (fun H => Wc D cI cC ad (sp_replace S x key v).2.2 (N + 2000) H) (Ao ad 36)) 0 0 (Ao ad 36) := by
  have hbd2 : S.2.1 ≤ 40 := hI.2.2.2.1
  have hCC : ∀ cu, cu < 3 → ∀ y, S.2.2.1 cu = some y → y.1 < 4 := fun cu hcu y hy => by have h := hI.2.2.2.2.1 cu hcu; rw [hy] at h; exact h.1
  rcases bkn_cases 4 (by decide) x with ⟨b, hb4, rfl, hbk⟩ | ⟨hbk, hno⟩
  · skip
    have hN2 := hI.1 b hb4
    by_cases h3 : b = 3
    · skip
      exact absurd hok (by unfold sp_replace; rw [hbk]; simp [h3])
    · skip
      cases hf : fx (S.1 b) key with
      | none =>
        have e9 : sp_replace S (nI (b)) key v = (0, false, clB S b (-1)) := by simp [sp_replace, hbk, h3, hf]
        rw [e9]
        refine m_start (by decide) (Nat.le_of_ble_eq_true rfl) ?_
        intro p e s m below meth c hx hb hr hG hown hlocks hml hB ls hl
        have hl : lv_has ls 6 [(0, .ref (ad 0)), (1, .int (nI (b))), (2, .int (key)), (3, .int (v))] := hl
        obtain ⟨hW, hK⟩ := hB
        have hS : va_S (Ao ad 36) s.heap s.heap [] := va_S.rf
        refine lv_aload_n hx hb dX4_replace_0 rfl (lv_at hl 0 rfl) ?_
        refine lv_iload_n hx hb dX4_replace_1 rfl (lv_at hl 1 rfl) ?_
        refine k1_V hx hb hml hown hG cs_X4_71 (k_bookChangedByHand l D cI cC ad S N b (by omega)) (by decide) (pzV hK rfl hW.rc hW) rfl hl.1 rfl (Nat.le_of_ble_eq_true rfl) dX4_replace_2 ⟨Nat.zero_le _, Nat.zero_le _⟩ rfl ?_
        refine lv_astore (lv' := [(4, .ref ((bk_ ad b) 0)), (0, .ref (ad 0)), (1, .int (nI (b))), (2, .int (key)), (3, .int (v))]) hx hb dX4_replace_5 hl (by decide) rfl (fun ls hl => ?_)
        refine lv_aload_n hx hb dX4_replace_7 rfl (lv_at hl 1 rfl) ?_
        refine lv_iload_n hx hb dX4_replace_8 rfl (lv_at hl 2 rfl) ?_
        refine lv_iconst (v := (-1)) hx hb dX4_replace_9 (by decide) ?_
        refine k2_V hx hb hml hown hG cs_X4_67 (k_closeCursors l D cI cC ad S N b (-1) (by omega) hCC hap) (by decide) (pzV hK rfl hW.rc hW) rfl hl.1 rfl (Nat.le_of_ble_eq_true rfl) dX4_replace_10 ⟨Nat.zero_le _, Nat.zero_le _⟩ rfl hS (fun q h => h) (fun H locs hW hz hk hS => ?_)
        refine lv_aload hx hb dX4_replace_13 (lv_at hl 0 rfl) ?_
        refine lv_iload_n hx hb dX4_replace_15 rfl (lv_at hl 3 rfl) ?_
        refine k1_V hx hb hml hown hG cs_X4_86 (c_find_no l D cI (bk_ ad b) (lgO b) (bdO S b) (S.1 b) key (hf)) (by decide) (pzV (hK.sub (tys' := [(cI, .int)]) [0] rfl) rfl (hW.bk (b := b) (by omega)).1.rc (hW.bk (b := b) (by omega)).1) rfl hl.1 rfl (Nat.le_of_ble_eq_true rfl) dX4_replace_16 ⟨Nat.zero_le _, Nat.zero_le _⟩ rfl ?_
        refine lv_istore (lv' := [(5, .int ((-1))), (4, .ref ((bk_ ad b) 0)), (0, .ref (ad 0)), (1, .int (nI (b))), (2, .int (key)), (3, .int (v))]) hx hb dX4_replace_19 hl (by decide) rfl (fun ls hl => ?_)
        refine lv_iload hx hb dX4_replace_21 (lv_at hl 0 rfl) ?_
        refine lv_iconst (v := (-1)) hx hb dX4_replace_23 (by decide) ?_
        refine lv_icmp_ne (tgt := 29) hx hb dX4_replace_24 (by decide) (fun zc1 => False.elim (by first | exact absurd zc1 (by decide) | omega | (simp_all; done))) (fun zc1 => ?_)
        refine lv_iconst (v := nI 0) hx hb dX4_replace_27 (by decide) ?_
        exact w_z (PB := (fun H => Wc D cI cC ad (clB S b (-1)) (N + 2000) H)) rfl (hW.mono (by omega)) hS hx hb hr hlocks dX4_replace_28
      | some i =>
        have hi := (fx_some hf).1
        have e9 : sp_replace S (nI (b)) key v = (0, true, clB (upB S b (sv (S.1 b) i v)) b (-1)) := by simp [sp_replace, hbk, h3, hf]
        rw [e9]
        refine m_start (by decide) (Nat.le_of_ble_eq_true rfl) ?_
        intro p e s m below meth c hx hb hr hG hown hlocks hml hB ls hl
        have hl : lv_has ls 6 [(0, .ref (ad 0)), (1, .int (nI (b))), (2, .int (key)), (3, .int (v))] := hl
        obtain ⟨hW, hK⟩ := hB
        have hS : va_S (Ao ad 36) s.heap s.heap [] := va_S.rf
        refine lv_aload_n hx hb dX4_replace_0 rfl (lv_at hl 0 rfl) ?_
        refine lv_iload_n hx hb dX4_replace_1 rfl (lv_at hl 1 rfl) ?_
        refine k1_V hx hb hml hown hG cs_X4_71 (k_bookChangedByHand l D cI cC ad S N b (by omega)) (by decide) (pzV hK rfl hW.rc hW) rfl hl.1 rfl (Nat.le_of_ble_eq_true rfl) dX4_replace_2 ⟨Nat.zero_le _, Nat.zero_le _⟩ rfl ?_
        refine lv_astore (lv' := [(4, .ref ((bk_ ad b) 0)), (0, .ref (ad 0)), (1, .int (nI (b))), (2, .int (key)), (3, .int (v))]) hx hb dX4_replace_5 hl (by decide) rfl (fun ls hl => ?_)
        refine lv_aload_n hx hb dX4_replace_7 rfl (lv_at hl 1 rfl) ?_
        refine lv_iload_n hx hb dX4_replace_8 rfl (lv_at hl 2 rfl) ?_
        refine lv_iconst (v := (-1)) hx hb dX4_replace_9 (by decide) ?_
        refine k2_V hx hb hml hown hG cs_X4_67 (k_closeCursors l D cI cC ad S N b (-1) (by omega) hCC hap) (by decide) (pzV hK rfl hW.rc hW) rfl hl.1 rfl (Nat.le_of_ble_eq_true rfl) dX4_replace_10 ⟨Nat.zero_le _, Nat.zero_le _⟩ rfl hS (fun q h => h) (fun H locs hW hz hk hS => ?_)
        refine lv_aload hx hb dX4_replace_13 (lv_at hl 0 rfl) ?_
        refine lv_iload_n hx hb dX4_replace_15 rfl (lv_at hl 3 rfl) ?_
        refine k1_V hx hb hml hown hG cs_X4_86 (c_find_at l D cI (bk_ ad b) (lgO b) (bdO S b) (S.1 b) key (hi := (hf))) (by decide) (pzV (hK.sub (tys' := [(cI, .int)]) [0] rfl) rfl (hW.bk (b := b) (by omega)).1.rc (hW.bk (b := b) (by omega)).1) rfl hl.1 rfl (Nat.le_of_ble_eq_true rfl) dX4_replace_16 ⟨Nat.zero_le _, Nat.zero_le _⟩ rfl ?_
        refine lv_istore (lv' := [(5, .int (nI (i))), (4, .ref ((bk_ ad b) 0)), (0, .ref (ad 0)), (1, .int (nI (b))), (2, .int (key)), (3, .int (v))]) hx hb dX4_replace_19 hl (by decide) rfl (fun ls hl => ?_)
        refine lv_iload hx hb dX4_replace_21 (lv_at hl 0 rfl) ?_
        refine lv_iconst (v := (-1)) hx hb dX4_replace_23 (by decide) ?_
        refine lv_icmp_ne (tgt := 29) hx hb dX4_replace_24 (by decide) (fun zc1 => ?_) (fun zc1 => False.elim (by first | omega | contradiction | exact absurd zc1 (m1_ne _ (by omega)) | exact absurd zc1 (by decide) | exact absurd (Eq.symm zc1) (m1_ne _ (by omega)) | (simp_all; done)))
        refine lv_aload hx hb dX4_replace_29 (lv_at hl 1 rfl) ?_
        refine lv_iload hx hb dX4_replace_31 (lv_at hl 0 rfl) ?_
        refine lv_iload_n hx hb dX4_replace_33 rfl (lv_at hl 5 rfl) ?_
        refine k2_V hx hb hml hown hG cs_X4_100 (c_give l D cI (bk_ ad b) (lgO b) (bdO S b) (S.1 b) i v (by omega) ((bk_Ap (by omega) hap).sub (by decide))) (by decide) (pzV (hK.sub (tys' := [(cI, .int)]) [0] rfl) rfl (hW.bk (b := b) (by omega)).1.rc (hW.bk (b := b) (by omega)).1) rfl hl.1 rfl (Nat.le_of_ble_eq_true rfl) dX4_replace_34 ⟨Nat.zero_le _, Nat.zero_le _⟩ rfl hS (bk_Ao3 (by omega)) (fun H locs hB0 hz hk hS => ?_)
        have hB0 := (hW.bk (b := b) (by omega)).give (bk_Ap (by omega) hap) hk hB0
        have hW := hW.book hap (b := b) (by omega) bk_A3 hk (M := N + 0) (L := (sv (S.1 b) i v)) (by omega) hB0
        refine lv_iconst (v := nI 1) hx hb dX4_replace_37 (by decide) ?_
        exact w_z (PB := (fun H => Wc D cI cC ad (clB (upB S b (sv (S.1 b) i v)) b (-1)) (N + 2000) H)) rfl (hW.mono (by omega)) hS hx hb hr hlocks dX4_replace_38
  · skip
    exact absurd hok (by unfold sp_replace; rw [hbk]; simp)
set_option maxHeartbeats 4000000 in
set_option maxRecDepth 100000 in
theorem ok_remove (l : Launch) (D : va_G) (cI cC : ClassId) (ad : Nat → Nat) (S : St) (N : Nat) (x key : Int32) (hI : Inv S) (hN : N + 2000 < 2 ^ 31) (hap : Ap ad 36) (hok : (sp_remove S x key).1 = 0) : Met l yX4_remove (ws_ yX4_remove cX4_remove 6 (some .int)) (rmN 6) (va_Pc [.ref (ad 0), .int x, .int key] (pz D [(cI, .int), (cC, .char)] (fun H => Wc D cI cC ad S N H))) (Wq (some (.int (sp_remove S x key).2.1)) (fun H => Wc D cI cC ad (sp_remove S x key).2.2 (N + 2000) H) (Ao ad 36)) 0 0 (Ao ad 36) := by
  have hbd2 : S.2.1 ≤ 40 := hI.2.2.2.1
  have hCC : ∀ cu, cu < 3 → ∀ y, S.2.2.1 cu = some y → y.1 < 4 := fun cu hcu y hy => by have h := hI.2.2.2.2.1 cu hcu; rw [hy] at h; exact h.1
  rcases bkn_cases 4 (by decide) x with ⟨b, hb4, rfl, hbk⟩ | ⟨hbk, hno⟩
  · skip
    have hN2 := hI.1 b hb4
    by_cases h3 : b = 3
    · skip
      exact absurd hok (by unfold sp_remove; rw [hbk]; simp [h3])
    · skip
      cases hf : fx (S.1 b) key with
      | none =>
        exact absurd hok (by unfold sp_remove; rw [hbk]; simp [h3, hf])
      | some i =>
        have hi := (fx_some hf).1
        have e9 : sp_remove S (nI (b)) key = (0, vf (S.1 b) i, clB (upB S b ((S.1 b).eraseIdx i)) b (-1)) := by simp [sp_remove, hbk, h3, hf]
        rw [e9]
        refine m_start (by decide) (Nat.le_of_ble_eq_true rfl) ?_
        intro p e s m below meth c hx hb hr hG hown hlocks hml hB ls hl
        have hl : lv_has ls 6 [(0, .ref (ad 0)), (1, .int (nI (b))), (2, .int (key))] := hl
        obtain ⟨hW, hK⟩ := hB
        have hS : va_S (Ao ad 36) s.heap s.heap [] := va_S.rf
        refine lv_aload_n hx hb dX4_remove_0 rfl (lv_at hl 0 rfl) ?_
        refine lv_iload_n hx hb dX4_remove_1 rfl (lv_at hl 1 rfl) ?_
        refine k1_V hx hb hml hown hG cs_X4_71 (k_bookChangedByHand l D cI cC ad S N b (by omega)) (by decide) (pzV hK rfl hW.rc hW) rfl hl.1 rfl (Nat.le_of_ble_eq_true rfl) dX4_remove_2 ⟨Nat.zero_le _, Nat.zero_le _⟩ rfl ?_
        refine lv_astore_n (lv' := [(3, .ref ((bk_ ad b) 0)), (0, .ref (ad 0)), (1, .int (nI (b))), (2, .int (key))]) hx hb dX4_remove_5 rfl hl (by decide) rfl (fun ls hl => ?_)
        refine lv_aload_n hx hb dX4_remove_6 rfl (lv_at hl 0 rfl) ?_
        refine lv_iload_n hx hb dX4_remove_7 rfl (lv_at hl 3 rfl) ?_
        refine k1_V hx hb hml hown hG cs_X4_86 (c_find_at l D cI (bk_ ad b) (lgO b) (bdO S b) (S.1 b) key (hi := (hf))) (by decide) (pzV (hK.sub (tys' := [(cI, .int)]) [0] rfl) rfl (hW.bk (b := b) (by omega)).1.rc (hW.bk (b := b) (by omega)).1) rfl hl.1 rfl (Nat.le_of_ble_eq_true rfl) dX4_remove_8 ⟨Nat.zero_le _, Nat.zero_le _⟩ rfl ?_
        refine lv_istore (lv' := [(4, .int (nI (i))), (3, .ref ((bk_ ad b) 0)), (0, .ref (ad 0)), (1, .int (nI (b))), (2, .int (key))]) hx hb dX4_remove_11 hl (by decide) rfl (fun ls hl => ?_)
        refine lv_iload hx hb dX4_remove_13 (lv_at hl 0 rfl) ?_
        refine lv_iconst (v := (-1)) hx hb dX4_remove_15 (by decide) ?_
        refine lv_icmp_ne (tgt := 29) hx hb dX4_remove_16 (by decide) (fun zc1 => ?_) (fun zc1 => False.elim (by first | omega | contradiction | exact absurd zc1 (m1_ne _ (by omega)) | exact absurd zc1 (by decide) | exact absurd (Eq.symm zc1) (m1_ne _ (by omega)) | (simp_all; done)))
        refine lv_aload_n hx hb dX4_remove_29 rfl (lv_at hl 2 rfl) ?_
        refine lv_iload_n hx hb dX4_remove_30 rfl (lv_at hl 3 rfl) ?_
        refine lv_iconst (v := (-1)) hx hb dX4_remove_31 (by decide) ?_
        refine k2_V hx hb hml hown hG cs_X4_67 (k_closeCursors l D cI cC ad S N b (-1) (by omega) hCC hap) (by decide) (pzV hK rfl hW.rc hW) rfl hl.1 rfl (Nat.le_of_ble_eq_true rfl) dX4_remove_32 ⟨Nat.zero_le _, Nat.zero_le _⟩ rfl hS (fun q h => h) (fun H locs hW hz hk hS => ?_)
        refine lv_aload_n hx hb dX4_remove_35 rfl (lv_at hl 1 rfl) ?_
        refine lv_iload hx hb dX4_remove_36 (lv_at hl 0 rfl) ?_
        refine k1_V hx hb hml hown hG cs_X4_93 (c_valueOn l D cI (bk_ ad b) (lgO b) (bdO S b) (S.1 b) i (by omega)) (by decide) (pzV (hK.sub (tys' := [(cI, .int)]) [0] rfl) rfl (hW.bk (b := b) (by omega)).1.rc (hW.bk (b := b) (by omega)).1) rfl hl.1 rfl (Nat.le_of_ble_eq_true rfl) dX4_remove_38 ⟨Nat.zero_le _, Nat.zero_le _⟩ rfl ?_
        refine lv_istore (lv' := [(5, .int (vf (S.1 b) i)), (4, .int (nI (i))), (3, .ref ((bk_ ad b) 0)), (0, .ref (ad 0)), (1, .int (nI (b))), (2, .int (key))]) hx hb dX4_remove_41 hl (by decide) rfl (fun ls hl => ?_)
        refine lv_aload_n hx hb dX4_remove_43 rfl (lv_at hl 2 rfl) ?_
        refine lv_iload hx hb dX4_remove_44 (lv_at hl 1 rfl) ?_
        refine k2_V hx hb hml hown hG cs_X4_96 (c_leave l D cI (bk_ ad b) (lgO b) (bdO S b) (S.1 b) N i (hN2.1) (by omega) (bk_Ap (by omega) hap)) (by decide) (pzV (hK.sub (tys' := [(cI, .int)]) [0] rfl) rfl (hW.bk (b := b) (by omega)).1.rc (hW.bk (b := b) (by omega))) rfl hl.1 rfl (Nat.le_of_ble_eq_true rfl) dX4_remove_46 ⟨Nat.zero_le _, Nat.zero_le _⟩ rfl hS (bk_Ao (by omega)) (fun H locs hB0 hz hk hS => ?_)
        have hW := hW.book hap (b := b) (by omega) bk_A hk (M := N + 0) (L := ((S.1 b).eraseIdx i)) (by omega) hB0
        refine lv_iload hx hb dX4_remove_49 (lv_at hl 0 rfl) ?_
        exact w_i (PB := (fun H => Wc D cI cC ad (clB (upB S b ((S.1 b).eraseIdx i)) b (-1)) (N + 2000) H)) rfl (hW.mono (by omega)) hS hx hb hr hlocks dX4_remove_51
  · skip
    exact absurd hok (by unfold sp_remove; rw [hbk]; simp)
set_option maxHeartbeats 4000000 in
set_option maxRecDepth 100000 in
theorem ok_removePair (l : Launch) (D : va_G) (cI cC : ClassId) (ad : Nat → Nat) (S : St) (N : Nat) (x key v : Int32) (hI : Inv S) (hN : N + 2000 < 2 ^ 31) (hap : Ap ad 36) (hok : (sp_removePair S x key v).1 = 0) : Met l yX4_removePair (ws_ yX4_removePair cX4_removePair 6 (some .boolean)) (rmN 6) (va_Pc [.ref (ad 0), .int x, .int key, .int v] (pz D [(cI, .int), (cC, .char)] (fun H => Wc D cI cC ad S N H))) (Wq (some (.int (bI (sp_removePair S x key v).2.1))) (fun H => Wc D cI cC ad (sp_removePair S x key v).2.2 (N + 2000) H) (Ao ad 36)) 0 0 (Ao ad 36) := by
  have hbd2 : S.2.1 ≤ 40 := hI.2.2.2.1
  have hCC : ∀ cu, cu < 3 → ∀ y, S.2.2.1 cu = some y → y.1 < 4 := fun cu hcu y hy => by have h := hI.2.2.2.2.1 cu hcu; rw [hy] at h; exact h.1
  rcases bkn_cases 4 (by decide) x with ⟨b, hb4, rfl, hbk⟩ | ⟨hbk, hno⟩
  · skip
    have hN2 := hI.1 b hb4
    by_cases h3 : b = 3
    · skip
      exact absurd hok (by unfold sp_removePair; rw [hbk]; simp [h3])
    · skip
      cases hf : fx (S.1 b) key with
      | none =>
        have e9 : sp_removePair S (nI (b)) key v = (0, false, clB S b (-1)) := by simp [sp_removePair, hbk, h3, hf]
        rw [e9]
        refine m_start (by decide) (Nat.le_of_ble_eq_true rfl) ?_
        intro p e s m below meth c hx hb hr hG hown hlocks hml hB ls hl
        have hl : lv_has ls 6 [(0, .ref (ad 0)), (1, .int (nI (b))), (2, .int (key)), (3, .int (v))] := hl
        obtain ⟨hW, hK⟩ := hB
        have hS : va_S (Ao ad 36) s.heap s.heap [] := va_S.rf
        refine lv_aload_n hx hb dX4_removePair_0 rfl (lv_at hl 0 rfl) ?_
        refine lv_iload_n hx hb dX4_removePair_1 rfl (lv_at hl 1 rfl) ?_
        refine k1_V hx hb hml hown hG cs_X4_71 (k_bookChangedByHand l D cI cC ad S N b (by omega)) (by decide) (pzV hK rfl hW.rc hW) rfl hl.1 rfl (Nat.le_of_ble_eq_true rfl) dX4_removePair_2 ⟨Nat.zero_le _, Nat.zero_le _⟩ rfl ?_
        refine lv_astore (lv' := [(4, .ref ((bk_ ad b) 0)), (0, .ref (ad 0)), (1, .int (nI (b))), (2, .int (key)), (3, .int (v))]) hx hb dX4_removePair_5 hl (by decide) rfl (fun ls hl => ?_)
        refine lv_aload_n hx hb dX4_removePair_7 rfl (lv_at hl 1 rfl) ?_
        refine lv_iload_n hx hb dX4_removePair_8 rfl (lv_at hl 2 rfl) ?_
        refine lv_iconst (v := (-1)) hx hb dX4_removePair_9 (by decide) ?_
        refine k2_V hx hb hml hown hG cs_X4_67 (k_closeCursors l D cI cC ad S N b (-1) (by omega) hCC hap) (by decide) (pzV hK rfl hW.rc hW) rfl hl.1 rfl (Nat.le_of_ble_eq_true rfl) dX4_removePair_10 ⟨Nat.zero_le _, Nat.zero_le _⟩ rfl hS (fun q h => h) (fun H locs hW hz hk hS => ?_)
        refine lv_aload hx hb dX4_removePair_13 (lv_at hl 0 rfl) ?_
        refine lv_iload_n hx hb dX4_removePair_15 rfl (lv_at hl 3 rfl) ?_
        refine k1_V hx hb hml hown hG cs_X4_86 (c_find_no l D cI (bk_ ad b) (lgO b) (bdO S b) (S.1 b) key (hf)) (by decide) (pzV (hK.sub (tys' := [(cI, .int)]) [0] rfl) rfl (hW.bk (b := b) (by omega)).1.rc (hW.bk (b := b) (by omega)).1) rfl hl.1 rfl (Nat.le_of_ble_eq_true rfl) dX4_removePair_16 ⟨Nat.zero_le _, Nat.zero_le _⟩ rfl ?_
        refine lv_istore (lv' := [(5, .int ((-1))), (4, .ref ((bk_ ad b) 0)), (0, .ref (ad 0)), (1, .int (nI (b))), (2, .int (key)), (3, .int (v))]) hx hb dX4_removePair_19 hl (by decide) rfl (fun ls hl => ?_)
        refine lv_iload hx hb dX4_removePair_21 (lv_at hl 0 rfl) ?_
        refine lv_iconst (v := (-1)) hx hb dX4_removePair_23 (by decide) ?_
        refine lv_icmp_eq (tgt := 38) hx hb dX4_removePair_24 (by decide) (fun zc1 => ?_) (fun zc1 => False.elim (by first | exact absurd zc1 (by decide) | omega | (simp_all; done)))
        refine lv_iconst (v := nI 0) hx hb dX4_removePair_38 (by decide) ?_
        exact w_z (PB := (fun H => Wc D cI cC ad (clB S b (-1)) (N + 2000) H)) rfl (hW.mono (by omega)) hS hx hb hr hlocks dX4_removePair_39
      | some i =>
        have hi := (fx_some hf).1
        by_cases hv0 : vf (S.1 b) i = v
        · skip
          have e9 : sp_removePair S (nI (b)) key v = (0, true, clB (upB S b ((S.1 b).eraseIdx i)) b (-1)) := by simp [sp_removePair, hbk, h3, hf, hv0]
          rw [e9]
          refine m_start (by decide) (Nat.le_of_ble_eq_true rfl) ?_
          intro p e s m below meth c hx hb hr hG hown hlocks hml hB ls hl
          have hl : lv_has ls 6 [(0, .ref (ad 0)), (1, .int (nI (b))), (2, .int (key)), (3, .int (v))] := hl
          obtain ⟨hW, hK⟩ := hB
          have hS : va_S (Ao ad 36) s.heap s.heap [] := va_S.rf
          refine lv_aload_n hx hb dX4_removePair_0 rfl (lv_at hl 0 rfl) ?_
          refine lv_iload_n hx hb dX4_removePair_1 rfl (lv_at hl 1 rfl) ?_
          refine k1_V hx hb hml hown hG cs_X4_71 (k_bookChangedByHand l D cI cC ad S N b (by omega)) (by decide) (pzV hK rfl hW.rc hW) rfl hl.1 rfl (Nat.le_of_ble_eq_true rfl) dX4_removePair_2 ⟨Nat.zero_le _, Nat.zero_le _⟩ rfl ?_
          refine lv_astore (lv' := [(4, .ref ((bk_ ad b) 0)), (0, .ref (ad 0)), (1, .int (nI (b))), (2, .int (key)), (3, .int (v))]) hx hb dX4_removePair_5 hl (by decide) rfl (fun ls hl => ?_)
          refine lv_aload_n hx hb dX4_removePair_7 rfl (lv_at hl 1 rfl) ?_
          refine lv_iload_n hx hb dX4_removePair_8 rfl (lv_at hl 2 rfl) ?_
          refine lv_iconst (v := (-1)) hx hb dX4_removePair_9 (by decide) ?_
          refine k2_V hx hb hml hown hG cs_X4_67 (k_closeCursors l D cI cC ad S N b (-1) (by omega) hCC hap) (by decide) (pzV hK rfl hW.rc hW) rfl hl.1 rfl (Nat.le_of_ble_eq_true rfl) dX4_removePair_10 ⟨Nat.zero_le _, Nat.zero_le _⟩ rfl hS (fun q h => h) (fun H locs hW hz hk hS => ?_)
          refine lv_aload hx hb dX4_removePair_13 (lv_at hl 0 rfl) ?_
          refine lv_iload_n hx hb dX4_removePair_15 rfl (lv_at hl 3 rfl) ?_
          refine k1_V hx hb hml hown hG cs_X4_86 (c_find_at l D cI (bk_ ad b) (lgO b) (bdO S b) (S.1 b) key (hi := (hf))) (by decide) (pzV (hK.sub (tys' := [(cI, .int)]) [0] rfl) rfl (hW.bk (b := b) (by omega)).1.rc (hW.bk (b := b) (by omega)).1) rfl hl.1 rfl (Nat.le_of_ble_eq_true rfl) dX4_removePair_16 ⟨Nat.zero_le _, Nat.zero_le _⟩ rfl ?_
          refine lv_istore (lv' := [(5, .int (nI (i))), (4, .ref ((bk_ ad b) 0)), (0, .ref (ad 0)), (1, .int (nI (b))), (2, .int (key)), (3, .int (v))]) hx hb dX4_removePair_19 hl (by decide) rfl (fun ls hl => ?_)
          refine lv_iload hx hb dX4_removePair_21 (lv_at hl 0 rfl) ?_
          refine lv_iconst (v := (-1)) hx hb dX4_removePair_23 (by decide) ?_
          refine lv_icmp_eq (tgt := 38) hx hb dX4_removePair_24 (by decide) (fun zc1 => False.elim (by first | omega | contradiction | exact absurd zc1 (m1_ne _ (by omega)) | exact absurd zc1 (by decide) | exact absurd (Eq.symm zc1) (m1_ne _ (by omega)) | (simp_all; done))) (fun zc1 => ?_)
          refine lv_aload hx hb dX4_removePair_27 (lv_at hl 1 rfl) ?_
          refine lv_iload hx hb dX4_removePair_29 (lv_at hl 0 rfl) ?_
          refine k1_V hx hb hml hown hG cs_X4_93 (c_valueOn l D cI (bk_ ad b) (lgO b) (bdO S b) (S.1 b) i (by omega)) (by decide) (pzV (hK.sub (tys' := [(cI, .int)]) [0] rfl) rfl (hW.bk (b := b) (by omega)).1.rc (hW.bk (b := b) (by omega)).1) rfl hl.1 rfl (Nat.le_of_ble_eq_true rfl) dX4_removePair_31 ⟨Nat.zero_le _, Nat.zero_le _⟩ rfl ?_
          refine lv_iload_n hx hb dX4_removePair_34 rfl (lv_at hl 5 rfl) ?_
          refine lv_icmp_eq (tgt := 40) hx hb dX4_removePair_35 (by decide) (fun zc2 => ?_) (fun zc2 => False.elim (by first | omega | contradiction | exact absurd zc2 (m1_ne _ (by omega)) | exact absurd zc2 (by decide) | exact absurd (Eq.symm zc2) (m1_ne _ (by omega)) | (simp_all; done)))
          refine lv_aload hx hb dX4_removePair_40 (lv_at hl 1 rfl) ?_
          refine lv_iload hx hb dX4_removePair_42 (lv_at hl 0 rfl) ?_
          refine k2_V hx hb hml hown hG cs_X4_96 (c_leave l D cI (bk_ ad b) (lgO b) (bdO S b) (S.1 b) N i (hN2.1) (by omega) (bk_Ap (by omega) hap)) (by decide) (pzV (hK.sub (tys' := [(cI, .int)]) [0] rfl) rfl (hW.bk (b := b) (by omega)).1.rc (hW.bk (b := b) (by omega))) rfl hl.1 rfl (Nat.le_of_ble_eq_true rfl) dX4_removePair_44 ⟨Nat.zero_le _, Nat.zero_le _⟩ rfl hS (bk_Ao (by omega)) (fun H locs hB0 hz hk hS => ?_)
          have hW := hW.book hap (b := b) (by omega) bk_A hk (M := N + 0) (L := ((S.1 b).eraseIdx i)) (by omega) hB0
          refine lv_iconst (v := nI 1) hx hb dX4_removePair_47 (by decide) ?_
          exact w_z (PB := (fun H => Wc D cI cC ad (clB (upB S b ((S.1 b).eraseIdx i)) b (-1)) (N + 2000) H)) rfl (hW.mono (by omega)) hS hx hb hr hlocks dX4_removePair_48
        · skip
          have e9 : sp_removePair S (nI (b)) key v = (0, false, clB S b (-1)) := by simp [sp_removePair, hbk, h3, hf, hv0]
          rw [e9]
          refine m_start (by decide) (Nat.le_of_ble_eq_true rfl) ?_
          intro p e s m below meth c hx hb hr hG hown hlocks hml hB ls hl
          have hl : lv_has ls 6 [(0, .ref (ad 0)), (1, .int (nI (b))), (2, .int (key)), (3, .int (v))] := hl
          obtain ⟨hW, hK⟩ := hB
          have hS : va_S (Ao ad 36) s.heap s.heap [] := va_S.rf
          refine lv_aload_n hx hb dX4_removePair_0 rfl (lv_at hl 0 rfl) ?_
          refine lv_iload_n hx hb dX4_removePair_1 rfl (lv_at hl 1 rfl) ?_
          refine k1_V hx hb hml hown hG cs_X4_71 (k_bookChangedByHand l D cI cC ad S N b (by omega)) (by decide) (pzV hK rfl hW.rc hW) rfl hl.1 rfl (Nat.le_of_ble_eq_true rfl) dX4_removePair_2 ⟨Nat.zero_le _, Nat.zero_le _⟩ rfl ?_
          refine lv_astore (lv' := [(4, .ref ((bk_ ad b) 0)), (0, .ref (ad 0)), (1, .int (nI (b))), (2, .int (key)), (3, .int (v))]) hx hb dX4_removePair_5 hl (by decide) rfl (fun ls hl => ?_)
          refine lv_aload_n hx hb dX4_removePair_7 rfl (lv_at hl 1 rfl) ?_
          refine lv_iload_n hx hb dX4_removePair_8 rfl (lv_at hl 2 rfl) ?_
          refine lv_iconst (v := (-1)) hx hb dX4_removePair_9 (by decide) ?_
          refine k2_V hx hb hml hown hG cs_X4_67 (k_closeCursors l D cI cC ad S N b (-1) (by omega) hCC hap) (by decide) (pzV hK rfl hW.rc hW) rfl hl.1 rfl (Nat.le_of_ble_eq_true rfl) dX4_removePair_10 ⟨Nat.zero_le _, Nat.zero_le _⟩ rfl hS (fun q h => h) (fun H locs hW hz hk hS => ?_)
          refine lv_aload hx hb dX4_removePair_13 (lv_at hl 0 rfl) ?_
          refine lv_iload_n hx hb dX4_removePair_15 rfl (lv_at hl 3 rfl) ?_
          refine k1_V hx hb hml hown hG cs_X4_86 (c_find_at l D cI (bk_ ad b) (lgO b) (bdO S b) (S.1 b) key (hi := (hf))) (by decide) (pzV (hK.sub (tys' := [(cI, .int)]) [0] rfl) rfl (hW.bk (b := b) (by omega)).1.rc (hW.bk (b := b) (by omega)).1) rfl hl.1 rfl (Nat.le_of_ble_eq_true rfl) dX4_removePair_16 ⟨Nat.zero_le _, Nat.zero_le _⟩ rfl ?_
          refine lv_istore (lv' := [(5, .int (nI (i))), (4, .ref ((bk_ ad b) 0)), (0, .ref (ad 0)), (1, .int (nI (b))), (2, .int (key)), (3, .int (v))]) hx hb dX4_removePair_19 hl (by decide) rfl (fun ls hl => ?_)
          refine lv_iload hx hb dX4_removePair_21 (lv_at hl 0 rfl) ?_
          refine lv_iconst (v := (-1)) hx hb dX4_removePair_23 (by decide) ?_
          refine lv_icmp_eq (tgt := 38) hx hb dX4_removePair_24 (by decide) (fun zc1 => False.elim (by first | omega | contradiction | exact absurd zc1 (m1_ne _ (by omega)) | exact absurd zc1 (by decide) | exact absurd (Eq.symm zc1) (m1_ne _ (by omega)) | (simp_all; done))) (fun zc1 => ?_)
          refine lv_aload hx hb dX4_removePair_27 (lv_at hl 1 rfl) ?_
          refine lv_iload hx hb dX4_removePair_29 (lv_at hl 0 rfl) ?_
          refine k1_V hx hb hml hown hG cs_X4_93 (c_valueOn l D cI (bk_ ad b) (lgO b) (bdO S b) (S.1 b) i (by omega)) (by decide) (pzV (hK.sub (tys' := [(cI, .int)]) [0] rfl) rfl (hW.bk (b := b) (by omega)).1.rc (hW.bk (b := b) (by omega)).1) rfl hl.1 rfl (Nat.le_of_ble_eq_true rfl) dX4_removePair_31 ⟨Nat.zero_le _, Nat.zero_le _⟩ rfl ?_
          refine lv_iload_n hx hb dX4_removePair_34 rfl (lv_at hl 5 rfl) ?_
          refine lv_icmp_eq (tgt := 40) hx hb dX4_removePair_35 (by decide) (fun zc2 => False.elim (by first | omega | contradiction | exact absurd zc2 (m1_ne _ (by omega)) | exact absurd zc2 (by decide) | exact absurd (Eq.symm zc2) (m1_ne _ (by omega)) | (simp_all; done))) (fun zc2 => ?_)
          refine lv_iconst (v := nI 0) hx hb dX4_removePair_38 (by decide) ?_
          exact w_z (PB := (fun H => Wc D cI cC ad (clB S b (-1)) (N + 2000) H)) rfl (hW.mono (by omega)) hS hx hb hr hlocks dX4_removePair_39
  · skip
    exact absurd hok (by unfold sp_removePair; rw [hbk]; simp)
set_option maxHeartbeats 4000000 in
set_option maxRecDepth 100000 in
theorem ok_clear (l : Launch) (D : va_G) (cI cC : ClassId) (ad : Nat → Nat) (S : St) (N : Nat) (x : Int32) (hI : Inv S) (hN : N + 2000 < 2 ^ 31) (hap : Ap ad 36) (hok : (sp_clear S x).1 = 0) : Met l yX4_clear (ws_ yX4_clear cX4_clear 4 (some .int)) (rmN 6) (va_Pc [.ref (ad 0), .int x] (pz D [(cI, .int), (cC, .char)] (fun H => Wc D cI cC ad S N H))) (Wq (some (.int (sp_clear S x).2.1)) (fun H => Wc D cI cC ad (sp_clear S x).2.2 (N + 2000) H) (Ao ad 36)) 0 0 (Ao ad 36) := by
  have hbd2 : S.2.1 ≤ 40 := hI.2.2.2.1
  have hCC : ∀ cu, cu < 3 → ∀ y, S.2.2.1 cu = some y → y.1 < 4 := fun cu hcu y hy => by have h := hI.2.2.2.2.1 cu hcu; rw [hy] at h; exact h.1
  rcases bkn_cases 4 (by decide) x with ⟨b, hb4, rfl, hbk⟩ | ⟨hbk, hno⟩
  · skip
    have hN2 := hI.1 b hb4
    by_cases h3 : b = 3
    · skip
      exact absurd hok (by unfold sp_clear; rw [hbk]; simp [h3])
    · skip
      have e9 : sp_clear S (nI (b)) = (0, nI (S.1 b).length, clB (upB S b []) b (-1)) := by simp [sp_clear, hbk, h3]
      rw [e9]
      refine m_start (by decide) (Nat.le_of_ble_eq_true rfl) ?_
      intro p e s m below meth c hx hb hr hG hown hlocks hml hB ls hl
      have hl : lv_has ls 4 [(0, .ref (ad 0)), (1, .int (nI (b)))] := hl
      obtain ⟨hW, hK⟩ := hB
      have hS : va_S (Ao ad 36) s.heap s.heap [] := va_S.rf
      refine lv_aload_n hx hb dX4_clear_0 rfl (lv_at hl 0 rfl) ?_
      refine lv_iload_n hx hb dX4_clear_1 rfl (lv_at hl 1 rfl) ?_
      refine k1_V hx hb hml hown hG cs_X4_71 (k_bookChangedByHand l D cI cC ad S N b (by omega)) (by decide) (pzV hK rfl hW.rc hW) rfl hl.1 rfl (Nat.le_of_ble_eq_true rfl) dX4_clear_2 ⟨Nat.zero_le _, Nat.zero_le _⟩ rfl ?_
      refine lv_astore_n (lv' := [(2, .ref ((bk_ ad b) 0)), (0, .ref (ad 0)), (1, .int (nI (b)))]) hx hb dX4_clear_5 rfl hl (by decide) rfl (fun ls hl => ?_)
      refine lv_aload_n hx hb dX4_clear_6 rfl (lv_at hl 1 rfl) ?_
      refine lv_iload_n hx hb dX4_clear_7 rfl (lv_at hl 2 rfl) ?_
      refine lv_iconst (v := (-1)) hx hb dX4_clear_8 (by decide) ?_
      refine k2_V hx hb hml hown hG cs_X4_67 (k_closeCursors l D cI cC ad S N b (-1) (by omega) hCC hap) (by decide) (pzV hK rfl hW.rc hW) rfl hl.1 rfl (Nat.le_of_ble_eq_true rfl) dX4_clear_9 ⟨Nat.zero_le _, Nat.zero_le _⟩ rfl hS (fun q h => h) (fun H locs hW hz hk hS => ?_)
      refine lv_aload_n hx hb dX4_clear_12 rfl (lv_at hl 0 rfl) ?_
      refine gf_X4_57 hx hb hG hown hK (hW.bk (b := b) (by omega)).1.obj 0 rfl rfl dX4_clear_13 ?_
      refine lv_istore_n (lv' := [(3, .int (nI (((clB S b (-1)).1 b).length))), (2, .ref ((bk_ ad b) 0)), (0, .ref (ad 0)), (1, .int (nI (b)))]) hx hb dX4_clear_16 rfl hl (by decide) rfl (fun ls hl => ?_)
      refine lv_aload_n hx hb dX4_clear_17 rfl (lv_at hl 1 rfl) ?_
      refine k2_V hx hb hml hown hG cs_X4_61 (c_empty l D cI (bk_ ad b) (lgO b) (bdO S b) (S.1 b) N (bk_Ap (by omega) hap)) (by decide) (pzV (hK.sub (tys' := [(cI, .int)]) [0] rfl) rfl (hW.bk (b := b) (by omega)).1.rc (hW.bk (b := b) (by omega))) rfl hl.1 rfl (Nat.le_of_ble_eq_true rfl) dX4_clear_18 ⟨Nat.zero_le _, Nat.zero_le _⟩ rfl hS (bk_Ao (by omega)) (fun H locs hB0 hz hk hS => ?_)
      have hW := hW.book hap (b := b) (by omega) bk_A hk (M := N + 0) (L := []) (by omega) hB0
      refine lv_iload_n hx hb dX4_clear_21 rfl (lv_at hl 0 rfl) ?_
      exact w_i (PB := (fun H => Wc D cI cC ad (clB (upB S b []) b (-1)) (N + 2000) H)) rfl (hW.mono (by omega)) hS hx hb hr hlocks dX4_clear_22
  · skip
    exact absurd hok (by unfold sp_clear; rw [hbk]; simp)
