theorem Wc.bkU {D : va_G} {cI cC : ClassId} {ad : Nat → Nat} {T : St} {N : Nat} {H : Heap} {b : Nat} {L : Bk} (h : Wc D cI cC ad (upB T b L) N H) (hb : b < 4) : BookAt D cI (bk_ ad b) (lgO b) (bdO T b) L N H := by
  have h2 := h.bk hb
  rw [upB_at] at h2
  exact h2
set_option maxHeartbeats 4000000 in
set_option maxRecDepth 100000 in
theorem ok_sum (l : Launch) (D : va_G) (cI cC : ClassId) (ad : Nat → Nat) (S : St) (N : Nat) (x : Int32) (hI : Inv S) (hN : N + 2000 < 2 ^ 31) (hap : Ap ad 36) (hok : (sp_sum S x).1 = 0) : Met l yX4_sum (ws_ yX4_sum cX4_sum 6 (some .long)) (rmN 6) (va_Pc [.ref (ad 0), .int x] (pz D [(cI, .int), (cC, .char)] (fun H => Wc D cI cC ad S N H))) (Wq (some (.long (sp_sum S x).2.1)) (fun H => Wc D cI cC ad (sp_sum S x).2.2 (N + 2000) H) (Ao ad 36)) 0 0 (Ao ad 36) := by
  have hbd2 : S.2.1 ≤ 40 := hI.2.2.2.1
  have hCC : ∀ cu, cu < 3 → ∀ y, S.2.2.1 cu = some y → y.1 < 4 := fun cu hcu y hy => by have h := hI.2.2.2.2.1 cu hcu; rw [hy] at h; exact h.1
  rcases bkn_cases 4 (by decide) x with ⟨b, hb4, rfl, hbk⟩ | ⟨hbk, hno⟩
  · skip
    have hN2 := hI.1 b hb4
    have e9 : sp_sum S (nI (b)) = (0, smL (S.1 b) (S.1 b).length, S) := by simp [sp_sum, askB, hbk]
    rw [e9]
    refine m_start (by decide) (Nat.le_of_ble_eq_true rfl) ?_
    intro p e s m below meth c hx hb hr hG hown hlocks hml hB ls hl
    have hl : lv_has ls 6 [(0, .ref (ad 0)), (1, .int (nI (b)))] := hl
    obtain ⟨hW, hK⟩ := hB
    have hS : va_S (Ao ad 36) s.heap s.heap [] := va_S.rf
    refine lv_aload_n hx hb dX4_sum_0 rfl (lv_at hl 0 rfl) ?_
    refine lv_iload_n hx hb dX4_sum_1 rfl (lv_at hl 1 rfl) ?_
    refine k1_V hx hb hml hown hG cs_X4_113 (k_bookOfNumber l D cI cC ad S N b (by omega)) (by decide) (pzV hK rfl hW.rc hW) rfl hl.1 rfl (Nat.le_of_ble_eq_true rfl) dX4_sum_2 ⟨Nat.zero_le _, Nat.zero_le _⟩ rfl ?_
    refine lv_astore_n (lv' := [(2, .ref ((bk_ ad b) 0)), (0, .ref (ad 0)), (1, .int (nI (b)))]) hx hb dX4_sum_5 rfl hl (by decide) rfl (fun ls hl => ?_)
    refine lv_lconst (v := lN (0)) hx hb dX4_sum_6 (by decide) ?_
    refine lv_lstore_n (lv' := [(3, .long (lN (0))), (2, .ref ((bk_ ad b) 0)), (0, .ref (ad 0)), (1, .int (nI (b)))]) hx hb dX4_sum_7 rfl hl (by decide) rfl (fun ls hl => ?_)
    refine lv_iconst (v := nI 0) hx hb dX4_sum_8 (by decide) ?_
    refine lv_istore (lv' := [(5, .int (nI (0))), (3, .long (lN (0))), (2, .ref ((bk_ ad b) 0)), (0, .ref (ad 0)), (1, .int (nI (b)))]) hx hb dX4_sum_9 hl (by decide) rfl (fun ls hl => ?_)
    suffices KK : ∀ (n i : Nat), (S.1 b).length < i + n → i ≤ (S.1 b).length → ∀ ls : Array Slot, lv_has ls 6 [(5, .int (nI (i))), (3, .long (smL (S.1 b) i)), (2, .ref ((bk_ ad b) 0)), (0, .ref (ad 0)), (1, .int (nI (b)))] → W p l e (rmN 6) s m [.ref (ad 0), .int (nI (b))].toArray below meth c s.heap [] 0 0 (MQ below (Wq (some (.long (smL (S.1 b) (S.1 b).length))) (fun H => Wc D cI cC ad S (N + 2000) H) (Ao ad 36)) [.ref (ad 0), .int (nI (b))].toArray s 0 0 (Ao ad 36)) (F0 m 11 ls []) from KK ((S.1 b).length + 1) 0 (by omega) (by omega) ls (lv_sub hl [0, 1, 2, 3, 4] rfl)
    clear hl
    intro n
    induction n with
    | zero => intro i h1 h2; omega
    | succ n ih =>
      intro i h1 h2 ls hl
      refine lv_iload hx hb dX4_sum_11 (lv_at hl 0 rfl) ?_
      refine lv_aload_n hx hb dX4_sum_13 rfl (lv_at hl 2 rfl) ?_
      refine gf_X4_57 hx hb hG hown hK (hW.bk (b := b) (by omega)).1.obj 0 rfl rfl dX4_sum_14 ?_
      refine x_cmp_ge (tgt := 54) hx hb dX4_sum_17 (by decide) (by omega) (by omega) (fun c1 => ?_) (fun c1 => ?_)
      · have ei : i = (S.1 b).length := by omega
        refine lv_lload_n hx hb dX4_sum_54 rfl (lv_at hl 1 rfl) ?_
        exact w_l (PB := (fun H => Wc D cI cC ad S (N + 2000) H)) (by rw [ei]) (hW.mono (by omega)) hS hx hb hr hlocks dX4_sum_55
      · refine lv_lload_n hx hb dX4_sum_20 rfl (lv_at hl 1 rfl) ?_
        refine lv_iload hx hb dX4_sum_21 (lv_at hl 0 rfl) ?_
        refine lv_i2l (v := lN (i)) hx hb dX4_sum_23 (nI_l (by omega)) ?_
        refine lv_lconst (v := lN (1)) hx hb dX4_sum_24 (by decide) ?_
        refine x_ladd (v := lN (i + 1)) hx hb dX4_sum_25 (lN_add _ _) ?_
        refine lv_aload_n hx hb dX4_sum_26 rfl (lv_at hl 2 rfl) ?_
        refine lv_iload hx hb dX4_sum_27 (lv_at hl 0 rfl) ?_
        refine k1_V hx hb hml hown hG cs_X4_132 (c_keyOn l D cI (bk_ ad b) (lgO b) (bdO S b) (S.1 b) i (by omega)) (by decide) (pzV (hK.sub (tys' := [(cI, .int)]) [0] rfl) rfl (hW.bk (b := b) (by omega)).1.rc (hW.bk (b := b) (by omega)).1) rfl hl.1 rfl (Nat.le_of_ble_eq_true rfl) dX4_sum_29 ⟨Nat.zero_le _, Nat.zero_le _⟩ rfl ?_
        refine lv_i2l (v := Int32.toInt64 (kf (S.1 b) i)) hx hb dX4_sum_32 rfl ?_
        refine x_ldc2 (v := lN (3)) hx hb hown (hG _ kl_X4_194) dX4_sum_33 (by decide) ?_
        refine lv_aload_n hx hb dX4_sum_36 rfl (lv_at hl 2 rfl) ?_
        refine lv_iload hx hb dX4_sum_37 (lv_at hl 0 rfl) ?_
        refine k1_V hx hb hml hown hG cs_X4_93 (c_valueOn l D cI (bk_ ad b) (lgO b) (bdO S b) (S.1 b) i (by omega)) (by decide) (pzV (hK.sub (tys' := [(cI, .int)]) [0] rfl) rfl (hW.bk (b := b) (by omega)).1.rc (hW.bk (b := b) (by omega)).1) rfl hl.1 rfl (Nat.le_of_ble_eq_true rfl) dX4_sum_39 ⟨Nat.zero_le _, Nat.zero_le _⟩ rfl ?_
        refine lv_i2l (v := Int32.toInt64 (vf (S.1 b) i)) hx hb dX4_sum_42 rfl ?_
        refine x_lmul (v := (lN (3)) * (Int32.toInt64 (vf (S.1 b) i))) hx hb dX4_sum_43 rfl ?_
        refine x_ladd (v := (Int32.toInt64 (kf (S.1 b) i)) + ((lN (3)) * (Int32.toInt64 (vf (S.1 b) i)))) hx hb dX4_sum_44 rfl ?_
        refine x_lmul (v := (lN (i + 1)) * ((Int32.toInt64 (kf (S.1 b) i)) + ((lN (3)) * (Int32.toInt64 (vf (S.1 b) i))))) hx hb dX4_sum_45 rfl ?_
        refine x_ladd (v := (smL (S.1 b) i) + ((lN (i + 1)) * ((Int32.toInt64 (kf (S.1 b) i)) + ((lN (3)) * (Int32.toInt64 (vf (S.1 b) i)))))) hx hb dX4_sum_46 rfl ?_
        refine lv_lstore_n (lv' := [(3, .long ((smL (S.1 b) i) + ((lN (i + 1)) * ((Int32.toInt64 (kf (S.1 b) i)) + ((lN (3)) * (Int32.toInt64 (vf (S.1 b) i))))))), (5, .int (nI (i))), (2, .ref ((bk_ ad b) 0)), (0, .ref (ad 0)), (1, .int (nI (b)))]) hx hb dX4_sum_47 rfl hl (by decide) rfl (fun ls hl => ?_)
        refine x_iinc (k := 1) (lv' := [(5, .int (nI (i + 1))), (3, .long ((smL (S.1 b) i) + ((lN (i + 1)) * ((Int32.toInt64 (kf (S.1 b) i)) + ((lN (3)) * (Int32.toInt64 (vf (S.1 b) i))))))), (2, .ref ((bk_ ad b) 0)), (0, .ref (ad 0)), (1, .int (nI (b)))]) hx hb dX4_sum_48 hl rfl (by decide) rfl (fun ls hl => ?_)
        refine lv_goto (tgt := 11) hx hb dX4_sum_51 (by decide) ?_
        exact ih (i + 1) (by omega) (by omega) ls (lv_sub hl [0, 1, 2, 3, 4] rfl)
  · skip
    exact absurd hok (by simp [sp_sum, askB, hbk])
set_option maxHeartbeats 4000000 in
set_option maxRecDepth 100000 in
theorem ok_addToAll (l : Launch) (D : va_G) (cI cC : ClassId) (ad : Nat → Nat) (S : St) (N : Nat) (x v : Int32) (hI : Inv S) (hN : N + 2000 < 2 ^ 31) (hap : Ap ad 36) (hok : (sp_addToAll S x v).1 = 0) : Met l yX4_addToAll (ws_ yX4_addToAll cX4_addToAll 5 (some .int)) (rmN 6) (va_Pc [.ref (ad 0), .int x, .int v] (pz D [(cI, .int), (cC, .char)] (fun H => Wc D cI cC ad S N H))) (Wq (some (.int (sp_addToAll S x v).2.1)) (fun H => Wc D cI cC ad (sp_addToAll S x v).2.2 (N + 2000) H) (Ao ad 36)) 0 0 (Ao ad 36) := by
  have hbd2 : S.2.1 ≤ 40 := hI.2.2.2.1
  have hCC : ∀ cu, cu < 3 → ∀ y, S.2.2.1 cu = some y → y.1 < 4 := fun cu hcu y hy => by have h := hI.2.2.2.2.1 cu hcu; rw [hy] at h; exact h.1
  rcases bkn_cases 4 (by decide) x with ⟨b, hb4, rfl, hbk⟩ | ⟨hbk, hno⟩
  · skip
    have hN2 := hI.1 b hb4
    by_cases h3 : b = 3
    · skip
      exact absurd hok (by unfold sp_addToAll; rw [hbk]; simp [h3])
    · skip
      have e9 : sp_addToAll S (nI (b)) v = (0, nI (S.1 b).length, clB (upB S b (adA (S.1 b) v (S.1 b).length)) b (-1)) := by simp [sp_addToAll, hbk, h3]
      rw [e9]
      refine m_start (by decide) (Nat.le_of_ble_eq_true rfl) ?_
      intro p e s m below meth c hx hb hr hG hown hlocks hml hB ls hl
      have hl : lv_has ls 5 [(0, .ref (ad 0)), (1, .int (nI (b))), (2, .int (v))] := hl
      obtain ⟨hW, hK⟩ := hB
      have hS : va_S (Ao ad 36) s.heap s.heap [] := va_S.rf
      refine lv_aload_n hx hb dX4_addToAll_0 rfl (lv_at hl 0 rfl) ?_
      refine lv_iload_n hx hb dX4_addToAll_1 rfl (lv_at hl 1 rfl) ?_
      refine k1_V hx hb hml hown hG cs_X4_71 (k_bookChangedByHand l D cI cC ad S N b (by omega)) (by decide) (pzV hK rfl hW.rc hW) rfl hl.1 rfl (Nat.le_of_ble_eq_true rfl) dX4_addToAll_2 ⟨Nat.zero_le _, Nat.zero_le _⟩ rfl ?_
      refine lv_astore_n (lv' := [(3, .ref ((bk_ ad b) 0)), (0, .ref (ad 0)), (1, .int (nI (b))), (2, .int (v))]) hx hb dX4_addToAll_5 rfl hl (by decide) rfl (fun ls hl => ?_)
      refine lv_aload_n hx hb dX4_addToAll_6 rfl (lv_at hl 1 rfl) ?_
      refine lv_iload_n hx hb dX4_addToAll_7 rfl (lv_at hl 2 rfl) ?_
      refine lv_iconst (v := (-1)) hx hb dX4_addToAll_8 (by decide) ?_
      refine k2_V hx hb hml hown hG cs_X4_67 (k_closeCursors l D cI cC ad S N b (-1) (by omega) hCC hap) (by decide) (pzV hK rfl hW.rc hW) rfl hl.1 rfl (Nat.le_of_ble_eq_true rfl) dX4_addToAll_9 ⟨Nat.zero_le _, Nat.zero_le _⟩ rfl hS (fun q h => h) (fun H locs hW hz hk hS => ?_)
      refine lv_iconst (v := nI 0) hx hb dX4_addToAll_12 (by decide) ?_
      refine lv_istore (lv' := [(4, .int (nI (0))), (3, .ref ((bk_ ad b) 0)), (0, .ref (ad 0)), (1, .int (nI (b))), (2, .int (v))]) hx hb dX4_addToAll_13 hl (by decide) rfl (fun ls hl => ?_)
      suffices KK : ∀ (n i : Nat), (S.1 b).length < i + n → i ≤ (S.1 b).length → ∀ (H : Heap) (locs : List Loc), Wc D cI cC ad (upB (clB S b (-1)) b (adA (S.1 b) v i)) N H → va_S (Ao ad 36) s.heap H locs → ∀ ls : Array Slot, lv_has ls 5 [(4, .int (nI (i))), (3, .ref ((bk_ ad b) 0)), (0, .ref (ad 0)), (1, .int (nI (b))), (2, .int (v))] → W p l e (rmN 6) s m [.ref (ad 0), .int (nI (b)), .int (v)].toArray below meth c H locs 0 0 (MQ below (Wq (some (.int (nI (S.1 b).length))) (fun H => Wc D cI cC ad (clB (upB S b (adA (S.1 b) v (S.1 b).length)) b (-1)) (N + 2000) H) (Ao ad 36)) [.ref (ad 0), .int (nI (b)), .int (v)].toArray s 0 0 (Ao ad 36)) (F0 m 15 ls []) from KK ((S.1 b).length + 1) 0 (by omega) (by omega) H locs (by rw [show (upB (clB S b (-1)) b (adA (S.1 b) v 0)) = clB S b (-1) from upB_id (clB S b (-1)) b]; exact hW) hS ls (lv_sub hl [0, 1, 2, 3, 4] rfl)
      clear hW hS hl
      intro n
      induction n with
      | zero => intro i h1 h2; omega
      | succ n ih =>
        intro i h1 h2 H locs hW hS ls hl
        have hcl : ((upB (clB S b (-1)) b (adA (S.1 b) v i)).1 b).length = (S.1 b).length := by rw [upB_at, adA_len]
        refine lv_iload hx hb dX4_addToAll_15 (lv_at hl 0 rfl) ?_
        refine lv_aload_n hx hb dX4_addToAll_17 rfl (lv_at hl 1 rfl) ?_
        refine gf_X4_57 hx hb hG hown hK (hW.bk (b := b) (by omega)).1.obj 0 rfl rfl dX4_addToAll_18 ?_
        refine x_cmp_ge (tgt := 44) hx hb dX4_addToAll_21 (by decide) (by omega) (by omega) (fun c1 => ?_) (fun c1 => ?_)
        · have ei : i = (S.1 b).length := by omega
          rw [ei] at hW
          refine lv_aload_n hx hb dX4_addToAll_44 rfl (lv_at hl 1 rfl) ?_
          refine gf_X4_57 hx hb hG hown hK (hW.bk (b := b) (by omega)).1.obj 0 rfl rfl dX4_addToAll_45 ?_
          exact w_i (PB := (fun H => Wc D cI cC ad (clB (upB S b (adA (S.1 b) v (S.1 b).length)) b (-1)) (N + 2000) H)) (by rw [upB_at, adA_len]) (hW.mono (by omega)) hS hx hb hr hlocks dX4_addToAll_48
        · refine lv_aload_n hx hb dX4_addToAll_24 rfl (lv_at hl 1 rfl) ?_
          refine lv_iload hx hb dX4_addToAll_25 (lv_at hl 0 rfl) ?_
          refine lv_aload_n hx hb dX4_addToAll_27 rfl (lv_at hl 1 rfl) ?_
          refine lv_iload hx hb dX4_addToAll_28 (lv_at hl 0 rfl) ?_
          refine k1_V hx hb hml hown hG cs_X4_93 (c_valueOn l D cI (bk_ ad b) (lgO b) (bdO S b) (adA (S.1 b) v i) i (by rw [adA_len]; omega)) (by decide) (pzV (hK.sub (tys' := [(cI, .int)]) [0] rfl) rfl (hW.bkU (b := b) (by omega)).1.rc (hW.bkU (b := b) (by omega)).1) rfl hl.1 rfl (Nat.le_of_ble_eq_true rfl) dX4_addToAll_30 ⟨Nat.zero_le _, Nat.zero_le _⟩ rfl ?_
          rw [show vf (adA (S.1 b) v i) i = vf (S.1 b) i from by rw [adA_vf _ _ _ _ (by omega), if_neg (by omega)]]
          refine lv_iload_n hx hb dX4_addToAll_33 rfl (lv_at hl 4 rfl) ?_
          refine x_iadd (v := (vf (S.1 b) i) + v) hx hb dX4_addToAll_34 rfl ?_
          refine k2_V hx hb hml hown hG cs_X4_100 (c_give l D cI (bk_ ad b) (lgO b) (bdO S b) (adA (S.1 b) v i) i ((vf (S.1 b) i) + v) (by rw [adA_len]; omega) ((bk_Ap (by omega) hap).sub (by decide))) (by decide) (pzV (hK.sub (tys' := [(cI, .int)]) [0] rfl) rfl (hW.bkU (b := b) (by omega)).1.rc (hW.bkU (b := b) (by omega)).1) rfl hl.1 rfl (Nat.le_of_ble_eq_true rfl) dX4_addToAll_35 ⟨Nat.zero_le _, Nat.zero_le _⟩ rfl hS (bk_Ao3 (by omega)) (fun H locs hB0 hz hk hS => ?_)
          have hB0 := (hW.bkU (b := b) (by omega)).give (bk_Ap (by omega) hap) hk hB0
          have hW := hW.book hap (b := b) (by omega) bk_A3 hk (M := N + 0) (L := (sv (adA (S.1 b) v i) i ((vf (S.1 b) i) + v))) (by omega) hB0
          rw [upB_up] at hW
          have hW : Wc D cI cC ad (upB (clB S b (-1)) b (adA (S.1 b) v (i + 1))) N H := hW
          refine x_iinc (k := 0) (lv' := [(4, .int (nI (i + 1))), (3, .ref ((bk_ ad b) 0)), (0, .ref (ad 0)), (1, .int (nI (b))), (2, .int (v))]) hx hb dX4_addToAll_38 hl rfl (by decide) rfl (fun ls hl => ?_)
          refine lv_goto (tgt := 15) hx hb dX4_addToAll_41 (by decide) ?_
          exact ih (i + 1) (by omega) (by omega) H locs hW hS ls (lv_sub hl [0, 1, 2, 3, 4] rfl)
  · skip
    exact absurd hok (by unfold sp_addToAll; rw [hbk]; simp)
set_option maxHeartbeats 4000000 in
set_option maxRecDepth 100000 in
theorem ok_copy (l : Launch) (D : va_G) (cI cC : ClassId) (ad : Nat → Nat) (S : St) (N : Nat) (x y : Int32) (hI : Inv S) (hN : N + 2000 < 2 ^ 31) (hap : Ap ad 36) (hok : (sp_copy S x y).1 = 0) : Met l yX4_copy (ws_ yX4_copy cX4_copy 5 (some .int)) (rmN 7) (va_Pc [.ref (ad 0), .int x, .int y] (pz D [(cI, .int), (cC, .char)] (fun H => Wc D cI cC ad S N H))) (Wq (some (.int (sp_copy S x y).2.1)) (fun H => Wc D cI cC ad (sp_copy S x y).2.2 (N + 2000) H) (Ao ad 36)) 0 0 (Ao ad 36) := by
  have hbd2 : S.2.1 ≤ 40 := hI.2.2.2.1
  have hCC : ∀ cu, cu < 3 → ∀ y, S.2.2.1 cu = some y → y.1 < 4 := fun cu hcu y hy => by have h := hI.2.2.2.2.1 cu hcu; rw [hy] at h; exact h.1
  rcases bkn_cases 4 (by decide) x with ⟨b, hb4, rfl, hbk⟩ | ⟨hbk, hno⟩
  · rcases bkn_cases 4 (by decide) y with ⟨q, hq4, rfl, hbq⟩ | ⟨hbq, hno⟩
    · have hN2 := hI.1 b hb4
      have hNq := hI.1 q hq4
      by_cases ho2 : 2 ≤ q
      · skip
        exact absurd hok (by unfold sp_copy; rw [hbk, hbq]; simp [ho2])
      · by_cases hbo2 : b = q
        · skip
          exact absurd hok (by unfold sp_copy; rw [hbk, hbq]; simp [hbo2])
        · skip
          have hlg : lgO q = false := decide_eq_false (by omega)
          have e9 : sp_copy S (nI (b)) (nI (q)) = (0, nI (S.1 b).length, clB (upB S q (S.1 b)) q (-1)) := by unfold sp_copy; rw [hbk, hbq]; exact if_neg (by omega)
          rw [e9]
          refine m_start (by decide) (Nat.le_of_ble_eq_true rfl) ?_
          intro p e s m below meth c hx hb hr hG hown hlocks hml hB ls hl
          have hl : lv_has ls 5 [(0, .ref (ad 0)), (1, .int (nI (b))), (2, .int (nI (q)))] := hl
          obtain ⟨hW, hK⟩ := hB
          have hS : va_S (Ao ad 36) s.heap s.heap [] := va_S.rf
          refine lv_aload_n hx hb dX4_copy_0 rfl (lv_at hl 0 rfl) ?_
          refine lv_iload_n hx hb dX4_copy_1 rfl (lv_at hl 1 rfl) ?_
          refine k1_V hx hb hml hown hG cs_X4_113 (k_bookOfNumber l D cI cC ad S N b (by omega)) (by decide) (pzV hK rfl hW.rc hW) rfl hl.1 rfl (Nat.le_of_ble_eq_true rfl) dX4_copy_2 ⟨Nat.zero_le _, Nat.zero_le _⟩ rfl ?_
          refine lv_astore_n (lv' := [(3, .ref ((bk_ ad b) 0)), (0, .ref (ad 0)), (1, .int (nI (b))), (2, .int (nI (q)))]) hx hb dX4_copy_5 rfl hl (by decide) rfl (fun ls hl => ?_)
          refine lv_aload_n hx hb dX4_copy_6 rfl (lv_at hl 1 rfl) ?_
          refine lv_iload_n hx hb dX4_copy_7 rfl (lv_at hl 3 rfl) ?_
          refine k1_V hx hb hml hown hG cs_X4_83 (k_plainBook l D cI cC ad S N q (by omega)) (by decide) (pzV hK rfl hW.rc hW) rfl hl.1 rfl (Nat.le_of_ble_eq_true rfl) dX4_copy_8 ⟨Nat.zero_le _, Nat.zero_le _⟩ rfl ?_
          refine lv_astore (lv' := [(4, .ref ((bk_ ad q) 0)), (3, .ref ((bk_ ad b) 0)), (0, .ref (ad 0)), (1, .int (nI (b))), (2, .int (nI (q)))]) hx hb dX4_copy_11 hl (by decide) rfl (fun ls hl => ?_)
          refine lv_aload_n hx hb dX4_copy_13 rfl (lv_at hl 2 rfl) ?_
          refine lv_iload_n hx hb dX4_copy_14 rfl (lv_at hl 3 rfl) ?_
          refine lv_iload_n hx hb dX4_copy_15 rfl (lv_at hl 4 rfl) ?_
          refine k1_V hx hb hml hown hG cs_X4_116 (k_requireTwoBooks l D cI cC ad S N b q (by omega) (by omega) (by omega)) (by decide) (pzV hK rfl hW.rc hW) rfl hl.1 rfl (Nat.le_of_ble_eq_true rfl) dX4_copy_16 ⟨Nat.zero_le _, Nat.zero_le _⟩ rfl ?_
          refine lv_aload_n hx hb dX4_copy_19 rfl (lv_at hl 2 rfl) ?_
          refine lv_iload_n hx hb dX4_copy_20 rfl (lv_at hl 4 rfl) ?_
          refine lv_iconst (v := (-1)) hx hb dX4_copy_21 (by decide) ?_
          refine k2_V hx hb hml hown hG cs_X4_67 (k_closeCursors l D cI cC ad S N q (-1) (by omega) hCC hap) (by decide) (pzV hK rfl hW.rc hW) rfl hl.1 rfl (Nat.le_of_ble_eq_true rfl) dX4_copy_22 ⟨Nat.zero_le _, Nat.zero_le _⟩ rfl hS (fun q h => h) (fun H locs hW hz hk hS => ?_)
          refine lv_aload hx hb dX4_copy_25 (lv_at hl 0 rfl) ?_
          refine lv_aload_n hx hb dX4_copy_27 rfl (lv_at hl 1 rfl) ?_
          refine k2_V hx hb hml hown hG cs_X4_127 (c_becomeCopyOf l D cI (bk_ ad q) (bk_ ad b) (bdO S q) (S.1 q) (lgO b) (bdO S b) (S.1 b) N (fun i hi => bk_off (by omega) (by omega) (fun z => hbo2 z.symm) hap i hi) hN2.1 (bdO_le hI q) (by omega) (bk_Ap (by omega) hap)) (by decide) (pzV (hK.sub (tys' := [(cI, .int)]) [0] rfl) rfl (hW.bk (b := q) (by omega)).1.rc ⟨(by have h := hW.bk (b := q) (by omega); rw [hlg] at h; exact h), (hW.bk (b := b) (by omega)).1⟩) rfl hl.1 rfl (Nat.le_of_ble_eq_true rfl) dX4_copy_28 ⟨Nat.zero_le _, Nat.zero_le _⟩ rfl hS (bk_Ao (by omega)) (fun H locs hB0 hz hk hS => ?_)
          rw [← hlg] at hB0
          have hW := hW.book hap (b := q) (by omega) bk_A hk (M := N + (S.1 b).length) (L := (S.1 b)) (by omega) hB0
          refine lv_aload hx hb dX4_copy_31 (lv_at hl 0 rfl) ?_
          refine gf_X4_57 hx hb hG hown hK (hW.bk (b := q) (by omega)).1.obj 0 rfl rfl dX4_copy_33 ?_
          exact w_i (PB := (fun H => Wc D cI cC ad (clB (upB S q (S.1 b)) q (-1)) (N + 2000) H)) (by rw [upB_at]) (hW.mono (by omega)) hS hx hb hr hlocks dX4_copy_36
    · skip
      exact absurd hok (by simp [sp_copy, hbk, hbq])
  · skip
    exact absurd hok (by simp [sp_copy, hbk])
set_option maxHeartbeats 4000000 in
set_option maxRecDepth 100000 in
theorem ok_pour (l : Launch) (D : va_G) (cI cC : ClassId) (ad : Nat → Nat) (S : St) (N : Nat) (x y : Int32) (hI : Inv S) (hN : N + 2000 < 2 ^ 31) (hap : Ap ad 36) (hok : (sp_pour S x y).1 = 0) : Met l yX4_pour (ws_ yX4_pour cX4_pour 5 (some .int)) (rmN 7) (va_Pc [.ref (ad 0), .int x, .int y] (pz D [(cI, .int), (cC, .char)] (fun H => Wc D cI cC ad S N H))) (Wq (some (.int (sp_pour S x y).2.1)) (fun H => Wc D cI cC ad (sp_pour S x y).2.2 (N + 2000) H) (Ao ad 36)) 0 0 (Ao ad 36) := by
  have hbd2 : S.2.1 ≤ 40 := hI.2.2.2.1
  have hCC : ∀ cu, cu < 3 → ∀ y, S.2.2.1 cu = some y → y.1 < 4 := fun cu hcu y hy => by have h := hI.2.2.2.2.1 cu hcu; rw [hy] at h; exact h.1
  rcases bkn_cases 4 (by decide) x with ⟨b, hb4, rfl, hbk⟩ | ⟨hbk, hno⟩
  · rcases bkn_cases 4 (by decide) y with ⟨q, hq4, rfl, hbq⟩ | ⟨hbq, hno⟩
    · have hN2 := hI.1 b hb4
      have hNq := hI.1 q hq4
      by_cases ho3 : q = 3
      · skip
        exact absurd hok (by unfold sp_pour; rw [hbk, hbq]; simp [ho3])
      · by_cases hbo2 : b = q
        · skip
          exact absurd hok (by unfold sp_pour; rw [hbk, hbq]; simp [hbo2])
        · by_cases hov : q ≠ 2 ∧ 200 < (S.1 q).length + cms (S.1 b) (S.1 q) (S.1 b).length
          · have e9 : sp_pour S (nI b) (nI q) = (3, 0, S) := by unfold sp_pour; rw [hbk, hbq]; exact (if_neg (by omega)).trans (if_pos hov)
            rw [e9] at hok
            exact absurd hok (by show ¬ (3 : Nat) = 0; decide)
          · skip
            have e9 : sp_pour S (nI (b)) (nI (q)) = (0, nI (stF (lgO q) S.2.1 (S.1 q) (S.1 b) (S.1 b).length).length, clB (upB S q (stF (lgO q) S.2.1 (S.1 q) (S.1 b) (S.1 b).length)) q (-1)) := by unfold sp_pour; rw [hbk, hbq]; exact (if_neg (by omega)).trans (if_neg hov)
            rw [e9]
            refine m_start (by decide) (Nat.le_of_ble_eq_true rfl) ?_
            intro p e s m below meth c hx hb hr hG hown hlocks hml hB ls hl
            have hl : lv_has ls 5 [(0, .ref (ad 0)), (1, .int (nI (b))), (2, .int (nI (q)))] := hl
            obtain ⟨hW, hK⟩ := hB
            have hS : va_S (Ao ad 36) s.heap s.heap [] := va_S.rf
            have hcm0 := cms_le (S.1 b) (S.1 q) (S.1 b).length
            have hrm : lgO q = true ∨ (S.1 q).length + cms (S.1 b) (S.1 q) (S.1 b).length ≤ bdO S q := by
              by_cases e : q = 2
              · exact Or.inl (decide_eq_true e)
              · right
                unfold bdO
                rw [if_neg e]
                omega
            have hst : ∀ i, i < (S.1 b).length → ND (stF (lgO q) (bdO S q) (S.1 q) (S.1 b) i) ∧ (fx (stF (lgO q) (bdO S q) (S.1 q) (S.1 b) i) (kf (S.1 b) i) = none → (stF (lgO q) (bdO S q) (S.1 q) (S.1 b) i).length < 200) := fun i hi => ⟨stF_ND (S.1 b) hNq.1 i, fun hf => by
              by_cases e : q = 2
              · subst e
                have h := stF_len_b (bd := bdO S 2) (L := S.1 2) (S.1 b) hI.2.1 i
                have h3 : bdO S 2 = S.2.1 := rfl
                exact Nat.lt_of_le_of_lt h (by omega)
              · rw [show lgO q = false from decide_eq_false e] at hf ⊢
                exact stF_room hN2.1 (by omega) hi hf⟩
            refine lv_aload_n hx hb dX4_pour_0 rfl (lv_at hl 0 rfl) ?_
            refine lv_iload_n hx hb dX4_pour_1 rfl (lv_at hl 1 rfl) ?_
            refine k1_V hx hb hml hown hG cs_X4_113 (k_bookOfNumber l D cI cC ad S N b (by omega)) (by decide) (pzV hK rfl hW.rc hW) rfl hl.1 rfl (Nat.le_of_ble_eq_true rfl) dX4_pour_2 ⟨Nat.zero_le _, Nat.zero_le _⟩ rfl ?_
            refine lv_astore_n (lv' := [(3, .ref ((bk_ ad b) 0)), (0, .ref (ad 0)), (1, .int (nI (b))), (2, .int (nI (q)))]) hx hb dX4_pour_5 rfl hl (by decide) rfl (fun ls hl => ?_)
            refine lv_aload_n hx hb dX4_pour_6 rfl (lv_at hl 1 rfl) ?_
            refine lv_iload_n hx hb dX4_pour_7 rfl (lv_at hl 3 rfl) ?_
            refine k1_V hx hb hml hown hG cs_X4_71 (k_bookChangedByHand l D cI cC ad S N q (by omega)) (by decide) (pzV hK rfl hW.rc hW) rfl hl.1 rfl (Nat.le_of_ble_eq_true rfl) dX4_pour_8 ⟨Nat.zero_le _, Nat.zero_le _⟩ rfl ?_
            refine lv_astore (lv' := [(4, .ref ((bk_ ad q) 0)), (3, .ref ((bk_ ad b) 0)), (0, .ref (ad 0)), (1, .int (nI (b))), (2, .int (nI (q)))]) hx hb dX4_pour_11 hl (by decide) rfl (fun ls hl => ?_)
            refine lv_aload_n hx hb dX4_pour_13 rfl (lv_at hl 2 rfl) ?_
            refine lv_iload_n hx hb dX4_pour_14 rfl (lv_at hl 3 rfl) ?_
            refine lv_iload_n hx hb dX4_pour_15 rfl (lv_at hl 4 rfl) ?_
            refine k1_V hx hb hml hown hG cs_X4_116 (k_requireTwoBooks l D cI cC ad S N b q (by omega) (by omega) (by omega)) (by decide) (pzV hK rfl hW.rc hW) rfl hl.1 rfl (Nat.le_of_ble_eq_true rfl) dX4_pour_16 ⟨Nat.zero_le _, Nat.zero_le _⟩ rfl ?_
            refine lv_aload_n hx hb dX4_pour_19 rfl (lv_at hl 2 rfl) ?_
            refine lv_aload hx hb dX4_pour_20 (lv_at hl 0 rfl) ?_
            refine lv_aload_n hx hb dX4_pour_22 rfl (lv_at hl 1 rfl) ?_
            refine lv_aload hx hb dX4_pour_23 (lv_at hl 0 rfl) ?_
            refine k1_V hx hb hml hown hG cs_X4_119 (c_countMissingIn l D cI (bk_ ad b) (bk_ ad q) (lgO b) (bdO S b) (S.1 b) (lgO q) (bdO S q) (S.1 q)) (by decide) (pzV (hK.sub (tys' := [(cI, .int)]) [0] rfl) rfl (hW.bk (b := b) (by omega)).1.rc ⟨(hW.bk (b := b) (by omega)).1, (hW.bk (b := q) (by omega)).1⟩) rfl hl.1 rfl (Nat.le_of_ble_eq_true rfl) dX4_pour_25 ⟨Nat.zero_le _, Nat.zero_le _⟩ rfl ?_
            refine k1_V hx hb hml hown hG cs_X4_110 (k_requireRoom l D cI cC ad S N q (cms (S.1 b) (S.1 q) (S.1 b).length) (by omega) (by omega) (bdO_le hI q) (hrm)) (by decide) (pzV hK rfl hW.rc hW) rfl hl.1 rfl (Nat.le_of_ble_eq_true rfl) dX4_pour_28 ⟨Nat.zero_le _, Nat.zero_le _⟩ rfl ?_
            refine lv_aload_n hx hb dX4_pour_31 rfl (lv_at hl 2 rfl) ?_
            refine lv_iload_n hx hb dX4_pour_32 rfl (lv_at hl 4 rfl) ?_
            refine lv_iconst (v := (-1)) hx hb dX4_pour_33 (by decide) ?_
            refine k2_V hx hb hml hown hG cs_X4_67 (k_closeCursors l D cI cC ad S N q (-1) (by omega) hCC hap) (by decide) (pzV hK rfl hW.rc hW) rfl hl.1 rfl (Nat.le_of_ble_eq_true rfl) dX4_pour_34 ⟨Nat.zero_le _, Nat.zero_le _⟩ rfl hS (fun q h => h) (fun H locs hW hz hk hS => ?_)
            refine lv_aload hx hb dX4_pour_37 (lv_at hl 0 rfl) ?_
            refine lv_aload_n hx hb dX4_pour_39 rfl (lv_at hl 1 rfl) ?_
            refine k2_V hx hb hml hown hG cs_X4_123 (c_storeAllOf l D cI (bk_ ad q) (bk_ ad b) (lgO q) (bdO S q) (S.1 q) (lgO b) (bdO S b) (S.1 b) N (fun i hi => bk_off (by omega) (by omega) (fun z => hbo2 z.symm) hap i hi) hst (bdO_le hI q) (by omega) (bk_Ap (by omega) hap)) (by decide) (pzV (hK.sub (tys' := [(cI, .int)]) [0] rfl) rfl (hW.bk (b := q) (by omega)).1.rc ⟨(hW.bk (b := q) (by omega)), (hW.bk (b := b) (by omega)).1⟩) rfl hl.1 rfl (Nat.le_of_ble_eq_true rfl) dX4_pour_40 ⟨Nat.zero_le _, Nat.zero_le _⟩ rfl hS (bk_Ao (by omega)) (fun H locs hB0 hz hk hS => ?_)
            rw [stF_bd] at hB0
            have hW := hW.book hap (b := q) (by omega) bk_A hk (M := N + (S.1 b).length) (L := (stF (lgO q) S.2.1 (S.1 q) (S.1 b) (S.1 b).length)) (by omega) hB0
            refine lv_aload hx hb dX4_pour_43 (lv_at hl 0 rfl) ?_
            refine gf_X4_57 hx hb hG hown hK (hW.bk (b := q) (by omega)).1.obj 0 rfl rfl dX4_pour_45 ?_
            exact w_i (PB := (fun H => Wc D cI cC ad (clB (upB S q (stF (lgO q) S.2.1 (S.1 q) (S.1 b) (S.1 b).length)) q (-1)) (N + 2000) H)) (by rw [upB_at]) (hW.mono (by omega)) hS hx hb hr hlocks dX4_pour_48
    · skip
      exact absurd hok (by simp [sp_pour, hbk, hbq])
  · skip
    exact absurd hok (by simp [sp_pour, hbk])
