def sp_fullness (S : St) : Nat × UInt32 × St := (0, fullS S, S)
set_option maxHeartbeats 4000000 in
set_option maxRecDepth 100000 in
theorem ok_mean (l : Launch) (D : va_G) (cI cC : ClassId) (ad : Nat → Nat) (S : St) (N : Nat) (x : Int32) (hI : Inv S) (hN : N + 2000 < 2 ^ 31) (hap : Ap ad 36) (hok : (sp_mean S x).1 = 0) : Met l yX4_mean (ws_ yX4_mean cX4_mean 6 (some .double)) (rmN 6) (va_Pc [.ref (ad 0), .int x] (pz D [(cI, .int), (cC, .char)] (fun H => Wc D cI cC ad S N H))) (Wq (some (.double (sp_mean S x).2.1)) (fun H => Wc D cI cC ad (sp_mean S x).2.2 (N + 2000) H) (Ao ad 36)) 0 0 (Ao ad 36) := by
  have hbd2 : S.2.1 ≤ 40 := hI.2.2.2.1
  have hCC : ∀ cu, cu < 3 → ∀ y, S.2.2.1 cu = some y → y.1 < 4 := fun cu hcu y hy => by have h := hI.2.2.2.2.1 cu hcu; rw [hy] at h; exact h.1
  rcases bkn_cases 4 (by decide) x with ⟨b, hb4, rfl, hbk⟩ | ⟨hbk, hno⟩
  · skip
    have hN2 := hI.1 b hb4
    have e9 : sp_mean S (nI (b)) = (0, meanL (S.1 b), S) := by simp [sp_mean, askB, hbk]
    rw [e9]
    refine m_start (by decide) (Nat.le_of_ble_eq_true rfl) ?_
    intro p e s m below meth c hx hb hr hG hown hlocks hml hB ls hl
    have hl : lv_has ls 6 [(0, .ref (ad 0)), (1, .int (nI (b)))] := hl
    obtain ⟨hW, hK⟩ := hB
    have hS : va_S (Ao ad 36) s.heap s.heap [] := va_S.rf
    have hlen := (hW.bk (b := b) (by omega)).1.len
    refine lv_aload_n hx hb dX4_mean_0 rfl (lv_at hl 0 rfl) ?_
    refine lv_iload_n hx hb dX4_mean_1 rfl (lv_at hl 1 rfl) ?_
    refine k1_V hx hb hml hown hG cs_X4_113 (k_bookOfNumber l D cI cC ad S N b (by omega)) (by decide) (pzV hK rfl hW.rc hW) rfl hl.1 rfl (Nat.le_of_ble_eq_true rfl) dX4_mean_2 ⟨Nat.zero_le _, Nat.zero_le _⟩ rfl ?_
    refine lv_astore_n (lv' := [(2, .ref ((bk_ ad b) 0)), (0, .ref (ad 0)), (1, .int (nI (b)))]) hx hb dX4_mean_5 rfl hl (by decide) rfl (fun ls hl => ?_)
    refine lv_aload_n hx hb dX4_mean_6 rfl (lv_at hl 0 rfl) ?_
    refine gf_X4_57 hx hb hG hown hK (hW.bk (b := b) (by omega)).1.obj 0 rfl rfl dX4_mean_7 ?_
    refine x_if_ne (tgt := 15) hx hb dX4_mean_10 (by decide) (by omega) (fun c0 => ?_) (fun c0 => ?_)
    · refine lv_lconst (v := lN (0)) hx hb dX4_mean_15 (by decide) ?_
      refine lv_lstore_n (lv' := [(3, .long (lN (0))), (2, .ref ((bk_ ad b) 0)), (0, .ref (ad 0)), (1, .int (nI (b)))]) hx hb dX4_mean_16 rfl hl (by decide) rfl (fun ls hl => ?_)
      refine lv_iconst (v := nI 0) hx hb dX4_mean_17 (by decide) ?_
      refine lv_istore (lv' := [(5, .int (nI (0))), (3, .long (lN (0))), (2, .ref ((bk_ ad b) 0)), (0, .ref (ad 0)), (1, .int (nI (b)))]) hx hb dX4_mean_18 hl (by decide) rfl (fun ls hl => ?_)
      suffices KK : ∀ (n i : Nat), (S.1 b).length < i + n → i ≤ (S.1 b).length → ∀ ls : Array Slot, lv_has ls 6 [(5, .int (nI (i))), (3, .long (mnL (S.1 b) i)), (2, .ref ((bk_ ad b) 0)), (0, .ref (ad 0)), (1, .int (nI (b)))] → W p l e (rmN 6) s m [.ref (ad 0), .int (nI (b))].toArray below meth c s.heap [] 0 0 (MQ below (Wq (some (.double (meanL (S.1 b)))) (fun H => Wc D cI cC ad S (N + 2000) H) (Ao ad 36)) [.ref (ad 0), .int (nI (b))].toArray s 0 0 (Ao ad 36)) (F0 m 20 ls []) from KK ((S.1 b).length + 1) 0 (by omega) (by omega) ls (lv_sub hl [0, 1, 2, 3, 4] rfl)
      clear hl
      intro n
      induction n with
      | zero => intro i h1 h2; omega
      | succ n ih =>
        intro i h1 h2 ls hl
        refine lv_iload hx hb dX4_mean_20 (lv_at hl 0 rfl) ?_
        refine lv_aload_n hx hb dX4_mean_22 rfl (lv_at hl 2 rfl) ?_
        refine gf_X4_57 hx hb hG hown hK (hW.bk (b := b) (by omega)).1.obj 0 rfl rfl dX4_mean_23 ?_
        refine x_cmp_ge (tgt := 45) hx hb dX4_mean_26 (by decide) (by omega) (by omega) (fun c1 => ?_) (fun c1 => ?_)
        · have ei : i = (S.1 b).length := by omega
          refine lv_lload_n hx hb dX4_mean_45 rfl (lv_at hl 1 rfl) ?_
          refine lv_l2d hx hb dX4_mean_46 ?_
          refine lv_aload_n hx hb dX4_mean_47 rfl (lv_at hl 2 rfl) ?_
          refine gf_X4_57 hx hb hG hown hK (hW.bk (b := b) (by omega)).1.obj 0 rfl rfl dX4_mean_48 ?_
          refine lv_i2d hx hb dX4_mean_51 ?_
          refine lv_ddiv hx hb dX4_mean_52 (mean_ok _ (by omega) (by omega)).1 ?_
          exact w_d (PB := (fun H => Wc D cI cC ad S (N + 2000) H)) (by rw [ei]; unfold meanL; rw [if_neg c0]) (hW.mono (by omega)) hS hx hb hr hlocks dX4_mean_53
        · refine lv_lload_n hx hb dX4_mean_29 rfl (lv_at hl 1 rfl) ?_
          refine lv_aload_n hx hb dX4_mean_30 rfl (lv_at hl 2 rfl) ?_
          refine lv_iload hx hb dX4_mean_31 (lv_at hl 0 rfl) ?_
          refine k1_V hx hb hml hown hG cs_X4_93 (c_valueOn l D cI (bk_ ad b) (lgO b) (bdO S b) (S.1 b) i (by omega)) (by decide) (pzV (hK.sub (tys' := [(cI, .int)]) [0] rfl) rfl (hW.bk (b := b) (by omega)).1.rc (hW.bk (b := b) (by omega)).1) rfl hl.1 rfl (Nat.le_of_ble_eq_true rfl) dX4_mean_33 ⟨Nat.zero_le _, Nat.zero_le _⟩ rfl ?_
          refine lv_i2l (v := Int32.toInt64 (vf (S.1 b) i)) hx hb dX4_mean_36 rfl ?_
          refine x_ladd (v := (mnL (S.1 b) i) + (Int32.toInt64 (vf (S.1 b) i))) hx hb dX4_mean_37 rfl ?_
          refine lv_lstore_n (lv' := [(3, .long ((mnL (S.1 b) i) + (Int32.toInt64 (vf (S.1 b) i)))), (5, .int (nI (i))), (2, .ref ((bk_ ad b) 0)), (0, .ref (ad 0)), (1, .int (nI (b)))]) hx hb dX4_mean_38 rfl hl (by decide) rfl (fun ls hl => ?_)
          refine x_iinc (k := 1) (lv' := [(5, .int (nI (i + 1))), (3, .long ((mnL (S.1 b) i) + (Int32.toInt64 (vf (S.1 b) i)))), (2, .ref ((bk_ ad b) 0)), (0, .ref (ad 0)), (1, .int (nI (b)))]) hx hb dX4_mean_39 hl rfl (by decide) rfl (fun ls hl => ?_)
          refine lv_goto (tgt := 20) hx hb dX4_mean_42 (by decide) ?_
          exact ih (i + 1) (by omega) (by omega) ls (lv_sub hl [0, 1, 2, 3, 4] rfl)
    · refine lv_dconst0 hx hb dX4_mean_13 ?_
      exact w_d (PB := (fun H => Wc D cI cC ad S (N + 2000) H)) (by unfold meanL; rw [if_pos c0]; rfl) (hW.mono (by omega)) hS hx hb hr hlocks dX4_mean_14
  · skip
    exact absurd hok (by simp [sp_mean, askB, hbk])
set_option maxHeartbeats 4000000 in
set_option maxRecDepth 100000 in
theorem ok_fullness (l : Launch) (D : va_G) (cI cC : ClassId) (ad : Nat → Nat) (S : St) (N : Nat) (hI : Inv S) (hN : N + 2000 < 2 ^ 31) (hap : Ap ad 36) (hok : (sp_fullness S).1 = 0) : Met l yX4_fullness (ws_ yX4_fullness cX4_fullness 1 (some .float)) (rmN 6) (va_Pc [.ref (ad 0)] (pz D [(cI, .int), (cC, .char)] (fun H => Wc D cI cC ad S N H))) (Wq (some (.float (sp_fullness S).2.1)) (fun H => Wc D cI cC ad (sp_fullness S).2.2 (N + 2000) H) (Ao ad 36)) 0 0 (Ao ad 36) := by
  have hbd2 : S.2.1 ≤ 40 := hI.2.2.2.1
  have hCC : ∀ cu, cu < 3 → ∀ y, S.2.2.1 cu = some y → y.1 < 4 := fun cu hcu y hy => by have h := hI.2.2.2.2.1 cu hcu; rw [hy] at h; exact h.1
  have hf1 := hI.2.1
  have hf2 := hI.2.2.1
  have e9 : sp_fullness S = (0, fullS S, S) := rfl
  rw [e9]
  refine m_start (by decide) (Nat.le_of_ble_eq_true rfl) ?_
  intro p e s m below meth c hx hb hr hG hown hlocks hml hB ls hl
  have hl : lv_has ls 1 [(0, .ref (ad 0))] := hl
  obtain ⟨hW, hK⟩ := hB
  have hS : va_S (Ao ad 36) s.heap s.heap [] := va_S.rf
  have hlen := (hW.bk (b := 2) (by omega)).1.len
  have hbd : bdO S 2 = S.2.1 := rfl
  refine lv_aload_n hx hb dX4_fullness_0 rfl (lv_at hl 0 rfl) ?_
  refine gf_X4_21 hx hb hG hown hK hW.x 0 rfl rfl dX4_fullness_1 ?_
  refine gf_X4_64 hx hb hG hown hK (hW.bk (b := 2) (by omega)).1.obj 0 rfl rfl dX4_fullness_4 ?_
  refine x_if_ne (tgt := 12) hx hb dX4_fullness_7 (by decide) (by omega) (fun zc1 => ?_) (fun zc1 => False.elim (by first | omega | contradiction | exact absurd zc1 (m1_ne _ (by omega)) | exact absurd zc1 (by decide) | exact absurd (Eq.symm zc1) (m1_ne _ (by omega)) | (simp_all; done)))
  refine lv_aload_n hx hb dX4_fullness_12 rfl (lv_at hl 0 rfl) ?_
  refine gf_X4_21 hx hb hG hown hK hW.x 0 rfl rfl dX4_fullness_13 ?_
  refine gf_X4_57 hx hb hG hown hK (hW.bk (b := 2) (by omega)).1.obj 0 rfl rfl dX4_fullness_16 ?_
  refine lv_i2f hx hb dX4_fullness_19 ?_
  refine lv_aload_n hx hb dX4_fullness_20 rfl (lv_at hl 0 rfl) ?_
  refine gf_X4_21 hx hb hG hown hK hW.x 0 rfl rfl dX4_fullness_21 ?_
  refine gf_X4_64 hx hb hG hown hK (hW.bk (b := 2) (by omega)).1.obj 0 rfl rfl dX4_fullness_24 ?_
  refine lv_i2f hx hb dX4_fullness_27 ?_
  refine lv_fdiv hx hb dX4_fullness_28 (fu_ok (a := (S.1 2).length) (b := S.2.1) (by omega) (by omega) (by omega)).1 ?_
  exact w_f (PB := (fun H => Wc D cI cC ad S (N + 2000) H)) rfl (hW.mono (by omega)) hS hx hb hr hlocks dX4_fullness_29
set_option maxHeartbeats 4000000 in
set_option maxRecDepth 100000 in
theorem m_mean (l : Launch) (D : va_G) (cI cZ : ClassId) (d : Nat → Nat) (S : St) (th : Int32) (x : Int32) (hI : Inv S) (hap : Ap d 9) : Met l yX5_mean (ws_ yX5_mean cX5_mean 5 (some .double)) (rmN 4) (va_Pc [.ref (d 0), .int x] (pz D [(cI, .int), (cZ, .boolean)] (fun H => MdAt D cI cZ d S th H))) (Wq (some (.double (sp_mean S x).2.1)) (fun H => MdAt D cI cZ d (sp_mean S x).2.2 (nI (sp_mean S x).1) H) (Ao d 9)) 0 0 (Ao d 9) := by
  have hbd2 : S.2.1 ≤ 40 := hI.2.2.2.1
  have hCC : ∀ cu, cu < 3 → ∀ y, S.2.2.1 cu = some y → y.1 < 4 := fun cu hcu y hy => by have h := hI.2.2.2.2.1 cu hcu; rw [hy] at h; exact h.1
  rcases bkn_cases 4 (by decide) x with ⟨b, hb4, rfl, hbk⟩ | ⟨hbk, hno⟩
  · have hN := hI.1 b hb4
    have e9 : sp_mean S (nI (b)) = (0, meanL (S.1 b), S) := by simp [sp_mean, askB, hbk]
    rw [e9]
    refine m_start (by decide) (Nat.le_of_ble_eq_true rfl) ?_
    intro p e s m below meth c hx hb hr hG hown hlocks hml hB ls hl
    have hl : lv_has ls 5 [(0, .ref (d 0)), (1, .int (nI (b)))] := hl
    obtain ⟨hB0, hK⟩ := hB
    have hS : va_S (Ao d 9) s.heap s.heap [] := va_S.rf
    refine lv_aload_n hx hb dX5_mean_0 rfl (lv_at hl 0 rfl) ?_
    refine lv_iload_n hx hb dX5_mean_1 rfl (lv_at hl 1 rfl) ?_
    refine k1_S hx hb hml hown hG cs_X5_68 (by have h := c5_isBook l D (nI (b)); rw [rch_in (by omega) (by decide)] at h; exact h) (by decide) (pzS (hK.sub (tys' := []) [] rfl) trivial) rfl hl.1 rfl (Nat.le_of_ble_eq_true rfl) dX5_mean_2 ⟨Nat.zero_le _, Nat.zero_le _⟩ rfl ?_
    refine x_ifb_eq (tgt := 12) hx hb dX5_mean_5 (by decide) (fun zc1 => False.elim (by first | exact absurd zc1 (by decide) | omega | (simp_all; done))) (fun zc1 => ?_)
    refine lv_iconst (v := nI 0) hx hb dX5_mean_8 (by decide) ?_
    refine lv_goto (tgt := 13) hx hb dX5_mean_9 (by decide) ?_
    obtain ⟨K, V, sz, cb, ck, ca, it, ou, hP, hMB, hMC, hMO⟩ := id hB0
    have hP : va_P D vwCl [(d 0, .inr (5, [.ref (d 1), .ref (d 2), .ref (d 3), .int (nI (S.2.1)), .int (th), .ref (d 4), .ref (d 5), .ref (d 6), .ref (d 7), .ref (d 8), .int (nI (S.2.2.2.length))])), (d 1, .inl (cI, (804, .inl K))), (d 2, .inl (cI, (804, .inl V))), (d 3, .inl (cI, (4, .inl sz))), (d 4, .inl (cI, (3, .inl cb))), (d 5, .inl (cI, (3, .inl ck))), (d 6, .inl (cI, (3, .inl ca))), (d 7, .inl (cZ, (3, .inl it))), (d 8, .inl (cI, (6000, .inl ou)))] s.heap := hP
    have hD : va_D (Ao d 9) [(d 0, .inr (5, [.ref (d 1), .ref (d 2), .ref (d 3), .int (nI (S.2.1)), .int (th), .ref (d 4), .ref (d 5), .ref (d 6), .ref (d 7), .ref (d 8), .int (nI (S.2.2.2.length))])), (d 1, .inl (cI, (804, .inl K))), (d 2, .inl (cI, (804, .inl V))), (d 3, .inl (cI, (4, .inl sz))), (d 4, .inl (cI, (3, .inl cb))), (d 5, .inl (cI, (3, .inl ck))), (d 6, .inl (cI, (3, .inl ca))), (d 7, .inl (cZ, (3, .inl it))), (d 8, .inl (cI, (6000, .inl ou)))] := hap.D9
    refine pf_X5_39 hx hb hG hown hK hP hD hS 0 rfl (v := .int (nI (0))) rfl rfl (Nat.le_of_ble_eq_true rfl) dX5_mean_13 (fun H locs hP hD hS => ?_)
    have hP : va_P D vwCl [(d 0, .inr (5, [.ref (d 1), .ref (d 2), .ref (d 3), .int (nI (S.2.1)), .int (nI (0)), .ref (d 4), .ref (d 5), .ref (d 6), .ref (d 7), .ref (d 8), .int (nI (S.2.2.2.length))])), (d 1, .inl (cI, (804, .inl K))), (d 2, .inl (cI, (804, .inl V))), (d 3, .inl (cI, (4, .inl sz))), (d 4, .inl (cI, (3, .inl cb))), (d 5, .inl (cI, (3, .inl ck))), (d 6, .inl (cI, (3, .inl ca))), (d 7, .inl (cZ, (3, .inl it))), (d 8, .inl (cI, (6000, .inl ou)))] H := hP
    have hD : va_D (Ao d 9) [(d 0, .inr (5, [.ref (d 1), .ref (d 2), .ref (d 3), .int (nI (S.2.1)), .int (nI (0)), .ref (d 4), .ref (d 5), .ref (d 6), .ref (d 7), .ref (d 8), .int (nI (S.2.2.2.length))])), (d 1, .inl (cI, (804, .inl K))), (d 2, .inl (cI, (804, .inl V))), (d 3, .inl (cI, (4, .inl sz))), (d 4, .inl (cI, (3, .inl cb))), (d 5, .inl (cI, (3, .inl ck))), (d 6, .inl (cI, (3, .inl ca))), (d 7, .inl (cZ, (3, .inl it))), (d 8, .inl (cI, (6000, .inl ou)))] := hD
    refine lv_aload_n hx hb dX5_mean_16 rfl (lv_at hl 0 rfl) ?_
    refine gf_X5_39 hx hb hG hown hK hP 0 rfl rfl dX5_mean_17 ?_
    refine x_if_ne (tgt := 32) hx hb dX5_mean_20 (by decide) (by omega) (fun zc2 => False.elim (by first | exact absurd zc2 (by decide) | omega | (simp_all; done))) (fun zc2 => ?_)
    refine lv_aload_n hx hb dX5_mean_23 rfl (lv_at hl 0 rfl) ?_
    refine gf_X5_16 hx hb hG hown hK hP 0 rfl rfl dX5_mean_24 ?_
    refine lv_iload_n hx hb dX5_mean_27 rfl (lv_at hl 1 rfl) ?_
    refine x_iald hx hb hK hP 3 0 rfl rfl (by omega) (by decide) dX5_mean_28 ?_
    rw [(hMB (b) (by omega)).1]
    refine x_if_ne (tgt := 34) hx hb dX5_mean_29 (by decide) (by omega) (fun c0 => ?_) (fun c0 => ?_)
    · refine lv_lconst (v := lN (0)) hx hb dX5_mean_34 (by decide) ?_
      refine lv_lstore_n (lv' := [(2, .long (lN (0))), (0, .ref (d 0)), (1, .int (nI (b)))]) hx hb dX5_mean_35 rfl hl (by decide) rfl (fun ls hl => ?_)
      refine lv_iconst (v := nI 0) hx hb dX5_mean_36 (by decide) ?_
      refine lv_istore (lv' := [(4, .int (nI (0))), (2, .long (lN (0))), (0, .ref (d 0)), (1, .int (nI (b)))]) hx hb dX5_mean_37 hl (by decide) rfl (fun ls hl => ?_)
      suffices KK : ∀ (n i : Nat), (S.1 b).length < i + n → i ≤ (S.1 b).length → ∀ ls : Array Slot, lv_has ls 5 [(4, .int (nI (i))), (2, .long (mnL (S.1 b) i)), (0, .ref (d 0)), (1, .int (nI (b)))] → W p l e (rmN 4) s m [.ref (d 0), .int (nI (b))].toArray below meth c H locs 0 0 (MQ below (Wq (some (.double (meanL (S.1 b)))) (fun H => MdAt D cI cZ d S (nI 0) H) (Ao d 9)) [.ref (d 0), .int (nI (b))].toArray s 0 0 (Ao d 9)) (F0 m 39 ls []) from KK ((S.1 b).length + 1) 0 (by omega) (by omega) ls (lv_sub hl [0, 1, 2, 3] rfl)
      clear hl
      intro n
      induction n with
      | zero => intro i h1 h2; omega
      | succ n ih =>
        intro i h1 h2 ls hl
        refine lv_iload hx hb dX5_mean_39 (lv_at hl 0 rfl) ?_
        refine lv_aload_n hx hb dX5_mean_41 rfl (lv_at hl 2 rfl) ?_
        refine gf_X5_16 hx hb hG hown hK hP 0 rfl rfl dX5_mean_42 ?_
        refine lv_iload_n hx hb dX5_mean_45 rfl (lv_at hl 3 rfl) ?_
        refine x_iald hx hb hK hP 3 0 rfl rfl (by omega) (by decide) dX5_mean_46 ?_
        rw [(hMB (b) (by omega)).1]
        refine x_cmp_ge (tgt := 73) hx hb dX5_mean_47 (by decide) (by omega) (by omega) (fun c1 => ?_) (fun c1 => ?_)
        · have ei : i = (S.1 b).length := by omega
          refine lv_lload_n hx hb dX5_mean_73 rfl (lv_at hl 1 rfl) ?_
          refine lv_l2d hx hb dX5_mean_74 ?_
          refine lv_aload_n hx hb dX5_mean_75 rfl (lv_at hl 2 rfl) ?_
          refine gf_X5_16 hx hb hG hown hK hP 0 rfl rfl dX5_mean_76 ?_
          refine lv_iload_n hx hb dX5_mean_79 rfl (lv_at hl 3 rfl) ?_
          refine x_iald hx hb hK hP 3 0 rfl rfl (by omega) (by decide) dX5_mean_80 ?_
          rw [(hMB (b) (by omega)).1]
          refine lv_i2d hx hb dX5_mean_81 ?_
          refine lv_ddiv hx hb dX5_mean_82 (mean_ok _ (by omega) (by omega)).1 ?_
          exact w_d (PB := (fun H => MdAt D cI cZ d S (nI 0) H)) (by rw [ei]; unfold meanL; rw [if_neg c0]) ⟨K, V, sz, cb, ck, ca, it, ou, hP, hMB, hMC, hMO⟩ hS hx hb hr hlocks dX5_mean_83
        · refine lv_lload_n hx hb dX5_mean_50 rfl (lv_at hl 1 rfl) ?_
          refine lv_aload_n hx hb dX5_mean_51 rfl (lv_at hl 2 rfl) ?_
          refine gf_X5_13 hx hb hG hown hK hP 0 rfl rfl dX5_mean_52 ?_
          refine lv_sipush (v := nI 201) hx hb dX5_mean_55 (by decide) ?_
          refine lv_iload_n hx hb dX5_mean_58 rfl (lv_at hl 3 rfl) ?_
          refine x_imul (v := nI (201 * b)) hx hb dX5_mean_59 (pk_mul _ _) ?_
          refine lv_iload hx hb dX5_mean_60 (lv_at hl 0 rfl) ?_
          refine x_iadd (v := nI ((201 * b) + i)) hx hb dX5_mean_62 (nI_add _ _) ?_
          refine x_iald hx hb hK hP 2 0 rfl rfl (by omega) (by decide) dX5_mean_63 ?_
          rw [show V ((201 * b) + i) = vf (S.1 b) i from ((hMB b (by omega)).2.2 i (by omega)).2]
          refine lv_i2l (v := Int32.toInt64 (vf (S.1 b) i)) hx hb dX5_mean_64 rfl ?_
          refine x_ladd (v := (mnL (S.1 b) i) + (Int32.toInt64 (vf (S.1 b) i))) hx hb dX5_mean_65 rfl ?_
          refine lv_lstore_n (lv' := [(2, .long ((mnL (S.1 b) i) + (Int32.toInt64 (vf (S.1 b) i)))), (4, .int (nI (i))), (0, .ref (d 0)), (1, .int (nI (b)))]) hx hb dX5_mean_66 rfl hl (by decide) rfl (fun ls hl => ?_)
          refine x_iinc (k := 1) (lv' := [(4, .int (nI (i + 1))), (2, .long ((mnL (S.1 b) i) + (Int32.toInt64 (vf (S.1 b) i)))), (0, .ref (d 0)), (1, .int (nI (b)))]) hx hb dX5_mean_67 hl rfl (by decide) rfl (fun ls hl => ?_)
          refine lv_goto (tgt := 39) hx hb dX5_mean_70 (by decide) ?_
          exact ih (i + 1) (by omega) (by omega) ls (lv_sub hl [0, 1, 2, 3] rfl)
    · refine lv_dconst0 hx hb dX5_mean_32 ?_
      exact w_d (PB := (fun H => MdAt D cI cZ d S (nI 0) H)) (by unfold meanL; rw [if_pos c0]; rfl) ⟨K, V, sz, cb, ck, ca, it, ou, hP, hMB, hMC, hMO⟩ hS hx hb hr hlocks dX5_mean_33
  · skip
    have e9 : sp_mean S x = (1, 0, S) := by simp [sp_mean, askB, hbk]
    rw [e9]
    refine m_start (by decide) (Nat.le_of_ble_eq_true rfl) ?_
    intro p e s m below meth c hx hb hr hG hown hlocks hml hB ls hl
    have hl : lv_has ls 5 [(0, .ref (d 0)), (1, .int (x))] := hl
    obtain ⟨hB0, hK⟩ := hB
    have hS : va_S (Ao d 9) s.heap s.heap [] := va_S.rf
    refine lv_aload_n hx hb dX5_mean_0 rfl (lv_at hl 0 rfl) ?_
    refine lv_iload_n hx hb dX5_mean_1 rfl (lv_at hl 1 rfl) ?_
    refine k1_S hx hb hml hown hG cs_X5_68 (by have h := c5_isBook l D x; rw [hno] at h; exact h) (by decide) (pzS (hK.sub (tys' := []) [] rfl) trivial) rfl hl.1 rfl (Nat.le_of_ble_eq_true rfl) dX5_mean_2 ⟨Nat.zero_le _, Nat.zero_le _⟩ rfl ?_
    refine x_ifb_eq (tgt := 12) hx hb dX5_mean_5 (by decide) (fun zc1 => ?_) (fun zc1 => False.elim (by first | exact absurd zc1 (by decide) | omega | (simp_all; done)))
    refine lv_iconst (v := nI 1) hx hb dX5_mean_12 (by decide) ?_
    obtain ⟨K, V, sz, cb, ck, ca, it, ou, hP, hMB, hMC, hMO⟩ := id hB0
    have hP : va_P D vwCl [(d 0, .inr (5, [.ref (d 1), .ref (d 2), .ref (d 3), .int (nI (S.2.1)), .int (th), .ref (d 4), .ref (d 5), .ref (d 6), .ref (d 7), .ref (d 8), .int (nI (S.2.2.2.length))])), (d 1, .inl (cI, (804, .inl K))), (d 2, .inl (cI, (804, .inl V))), (d 3, .inl (cI, (4, .inl sz))), (d 4, .inl (cI, (3, .inl cb))), (d 5, .inl (cI, (3, .inl ck))), (d 6, .inl (cI, (3, .inl ca))), (d 7, .inl (cZ, (3, .inl it))), (d 8, .inl (cI, (6000, .inl ou)))] s.heap := hP
    have hD : va_D (Ao d 9) [(d 0, .inr (5, [.ref (d 1), .ref (d 2), .ref (d 3), .int (nI (S.2.1)), .int (th), .ref (d 4), .ref (d 5), .ref (d 6), .ref (d 7), .ref (d 8), .int (nI (S.2.2.2.length))])), (d 1, .inl (cI, (804, .inl K))), (d 2, .inl (cI, (804, .inl V))), (d 3, .inl (cI, (4, .inl sz))), (d 4, .inl (cI, (3, .inl cb))), (d 5, .inl (cI, (3, .inl ck))), (d 6, .inl (cI, (3, .inl ca))), (d 7, .inl (cZ, (3, .inl it))), (d 8, .inl (cI, (6000, .inl ou)))] := hap.D9
    refine pf_X5_39 hx hb hG hown hK hP hD hS 0 rfl (v := .int (nI (1))) rfl rfl (Nat.le_of_ble_eq_true rfl) dX5_mean_13 (fun H locs hP hD hS => ?_)
    have hP : va_P D vwCl [(d 0, .inr (5, [.ref (d 1), .ref (d 2), .ref (d 3), .int (nI (S.2.1)), .int (nI (1)), .ref (d 4), .ref (d 5), .ref (d 6), .ref (d 7), .ref (d 8), .int (nI (S.2.2.2.length))])), (d 1, .inl (cI, (804, .inl K))), (d 2, .inl (cI, (804, .inl V))), (d 3, .inl (cI, (4, .inl sz))), (d 4, .inl (cI, (3, .inl cb))), (d 5, .inl (cI, (3, .inl ck))), (d 6, .inl (cI, (3, .inl ca))), (d 7, .inl (cZ, (3, .inl it))), (d 8, .inl (cI, (6000, .inl ou)))] H := hP
    have hD : va_D (Ao d 9) [(d 0, .inr (5, [.ref (d 1), .ref (d 2), .ref (d 3), .int (nI (S.2.1)), .int (nI (1)), .ref (d 4), .ref (d 5), .ref (d 6), .ref (d 7), .ref (d 8), .int (nI (S.2.2.2.length))])), (d 1, .inl (cI, (804, .inl K))), (d 2, .inl (cI, (804, .inl V))), (d 3, .inl (cI, (4, .inl sz))), (d 4, .inl (cI, (3, .inl cb))), (d 5, .inl (cI, (3, .inl ck))), (d 6, .inl (cI, (3, .inl ca))), (d 7, .inl (cZ, (3, .inl it))), (d 8, .inl (cI, (6000, .inl ou)))] := hD
    refine lv_aload_n hx hb dX5_mean_16 rfl (lv_at hl 0 rfl) ?_
    refine gf_X5_39 hx hb hG hown hK hP 0 rfl rfl dX5_mean_17 ?_
    refine x_if_ne (tgt := 32) hx hb dX5_mean_20 (by decide) (by omega) (fun zc2 => ?_) (fun zc2 => False.elim (by first | exact absurd zc2 (by decide) | omega | (simp_all; done)))
    refine lv_dconst0 hx hb dX5_mean_32 ?_
    exact w_d (PB := (fun H => MdAt D cI cZ d S (nI 1) H)) rfl ⟨K, V, sz, cb, ck, ca, it, ou, hP, hMB, hMC, hMO⟩ hS hx hb hr hlocks dX5_mean_33
set_option maxHeartbeats 4000000 in
set_option maxRecDepth 100000 in
theorem m_fullness (l : Launch) (D : va_G) (cI cZ : ClassId) (d : Nat → Nat) (S : St) (th : Int32) (hI : Inv S) (hap : Ap d 9) : Met l yX5_fullness (ws_ yX5_fullness cX5_fullness 1 (some .float)) (rmN 4) (va_Pc [.ref (d 0)] (pz D [(cI, .int), (cZ, .boolean)] (fun H => MdAt D cI cZ d S th H))) (Wq (some (.float (sp_fullness S).2.1)) (fun H => MdAt D cI cZ d (sp_fullness S).2.2 (nI (sp_fullness S).1) H) (Ao d 9)) 0 0 (Ao d 9) := by
  have hbd2 : S.2.1 ≤ 40 := hI.2.2.2.1
  have hCC : ∀ cu, cu < 3 → ∀ y, S.2.2.1 cu = some y → y.1 < 4 := fun cu hcu y hy => by have h := hI.2.2.2.2.1 cu hcu; rw [hy] at h; exact h.1
  have hf1 := hI.2.1
  have hf2 := hI.2.2.1
  have hN := hI.1 2 (by decide)
  have e9 : sp_fullness S = (0, fullS S, S) := rfl
  rw [e9]
  refine m_start (by decide) (Nat.le_of_ble_eq_true rfl) ?_
  intro p e s m below meth c hx hb hr hG hown hlocks hml hB ls hl
  have hl : lv_has ls 1 [(0, .ref (d 0))] := hl
  obtain ⟨hB0, hK⟩ := hB
  have hS : va_S (Ao d 9) s.heap s.heap [] := va_S.rf
  obtain ⟨K, V, sz, cb, ck, ca, it, ou, hP, hMB, hMC, hMO⟩ := id hB0
  have hP : va_P D vwCl [(d 0, .inr (5, [.ref (d 1), .ref (d 2), .ref (d 3), .int (nI (S.2.1)), .int (th), .ref (d 4), .ref (d 5), .ref (d 6), .ref (d 7), .ref (d 8), .int (nI (S.2.2.2.length))])), (d 1, .inl (cI, (804, .inl K))), (d 2, .inl (cI, (804, .inl V))), (d 3, .inl (cI, (4, .inl sz))), (d 4, .inl (cI, (3, .inl cb))), (d 5, .inl (cI, (3, .inl ck))), (d 6, .inl (cI, (3, .inl ca))), (d 7, .inl (cZ, (3, .inl it))), (d 8, .inl (cI, (6000, .inl ou)))] s.heap := hP
  have hD : va_D (Ao d 9) [(d 0, .inr (5, [.ref (d 1), .ref (d 2), .ref (d 3), .int (nI (S.2.1)), .int (th), .ref (d 4), .ref (d 5), .ref (d 6), .ref (d 7), .ref (d 8), .int (nI (S.2.2.2.length))])), (d 1, .inl (cI, (804, .inl K))), (d 2, .inl (cI, (804, .inl V))), (d 3, .inl (cI, (4, .inl sz))), (d 4, .inl (cI, (3, .inl cb))), (d 5, .inl (cI, (3, .inl ck))), (d 6, .inl (cI, (3, .inl ca))), (d 7, .inl (cZ, (3, .inl it))), (d 8, .inl (cI, (6000, .inl ou)))] := hap.D9
  refine lv_aload_n hx hb dX5_fullness_0 rfl (lv_at hl 0 rfl) ?_
  refine lv_iconst (v := nI 0) hx hb dX5_fullness_1 (by decide) ?_
  refine pf_X5_39 hx hb hG hown hK hP hD hS 0 rfl (v := .int (nI (0))) rfl rfl (Nat.le_of_ble_eq_true rfl) dX5_fullness_2 (fun H locs hP hD hS => ?_)
  have hP : va_P D vwCl [(d 0, .inr (5, [.ref (d 1), .ref (d 2), .ref (d 3), .int (nI (S.2.1)), .int (nI (0)), .ref (d 4), .ref (d 5), .ref (d 6), .ref (d 7), .ref (d 8), .int (nI (S.2.2.2.length))])), (d 1, .inl (cI, (804, .inl K))), (d 2, .inl (cI, (804, .inl V))), (d 3, .inl (cI, (4, .inl sz))), (d 4, .inl (cI, (3, .inl cb))), (d 5, .inl (cI, (3, .inl ck))), (d 6, .inl (cI, (3, .inl ca))), (d 7, .inl (cZ, (3, .inl it))), (d 8, .inl (cI, (6000, .inl ou)))] H := hP
  have hD : va_D (Ao d 9) [(d 0, .inr (5, [.ref (d 1), .ref (d 2), .ref (d 3), .int (nI (S.2.1)), .int (nI (0)), .ref (d 4), .ref (d 5), .ref (d 6), .ref (d 7), .ref (d 8), .int (nI (S.2.2.2.length))])), (d 1, .inl (cI, (804, .inl K))), (d 2, .inl (cI, (804, .inl V))), (d 3, .inl (cI, (4, .inl sz))), (d 4, .inl (cI, (3, .inl cb))), (d 5, .inl (cI, (3, .inl ck))), (d 6, .inl (cI, (3, .inl ca))), (d 7, .inl (cZ, (3, .inl it))), (d 8, .inl (cI, (6000, .inl ou)))] := hD
  refine lv_aload_n hx hb dX5_fullness_5 rfl (lv_at hl 0 rfl) ?_
  refine gf_X5_16 hx hb hG hown hK hP 0 rfl rfl dX5_fullness_6 ?_
  refine lv_iconst (v := nI 2) hx hb dX5_fullness_9 (by decide) ?_
  refine x_iald hx hb hK hP 3 0 rfl rfl (by omega) (by decide) dX5_fullness_10 ?_
  rw [(hMB (2) (by omega)).1]
  refine lv_i2f hx hb dX5_fullness_11 ?_
  refine lv_aload_n hx hb dX5_fullness_12 rfl (lv_at hl 0 rfl) ?_
  refine gf_X5_19 hx hb hG hown hK hP 0 rfl rfl dX5_fullness_13 ?_
  refine lv_i2f hx hb dX5_fullness_16 ?_
  refine lv_fdiv hx hb dX5_fullness_17 (fu_ok (a := (S.1 2).length) (b := S.2.1) (by omega) (by omega) (by omega)).1 ?_
  exact w_f (PB := (fun H => MdAt D cI cZ d S (nI 0) H)) rfl ⟨K, V, sz, cb, ck, ca, it, ou, hP, hMB, hMC, hMO⟩ hS hx hb hr hlocks dX5_fullness_18
abbrev ouD (cL : ClassId) (qo : Nat) (f : Nat → UInt64) : va_W := [(qo, .inl (cL, (1, .inr (.inr (.inr (.inl f))))))]
theorem cd_mean (S : St) (x : Int32) : cdP 1 S (sp_mean S x) := by
  unfold sp_mean askB
  repeat' split
  all_goals first | exact Or.inl rfl | exact Or.inr ⟨Nat.le_of_ble_eq_true rfl, rfl⟩
set_option maxHeartbeats 4000000 in
set_option maxRecDepth 100000 in
theorem wr_mean (l : Launch) (hst : l.stackTraces = false) (D : va_G) (cI cC cL : ClassId) (ad ta : Nat → Nat) (z : Nat) (S : St) (N : Nat) (qo : Nat) (f : Nat → UInt64) (x : Int32) (hI : Inv S) (hN : N + 2000 < 2 ^ 31) (hap : Ap ad 36) (hqo : ¬ Ao ad 36 qo) : Met l yL_mean (wsW_ yL_mean cL_mean 4 (some .int) [(0, 8, 11, 19)]) rmW (va_Pc [.ref (ad 0), .int (x), .ref (qo)] (pzw D [(cI, .int), (cC, .char), (cL, .double)] ta z (fun H => Wc D cI cC ad S N H ∧ va_P D vwCl (ouD cL qo f) H))) (Wq (some (.int (nI (sp_mean S x).1))) (fun H => Wc D cI cC ad (sp_mean S x).2.2 (N + 2000) H ∧ ∃ f9, va_P D vwCl (ouD cL qo f9) H ∧ ((sp_mean S x).1 = 0 → f9 0 = (sp_mean S x).2.1)) (fun q => Ao ad 36 q ∨ q = qo)) 1 6 (fun q => Ao ad 36 q ∨ q = qo) := by
  by_cases hc : (sp_mean S x).1 = 0
  · have hok := ok_mean l D cI cC ad S N x hI hN hap hc
    refine m_startW (by decide) (Nat.le_of_ble_eq_true rfl) ?_
    intro p e s m below meth c hx hb hr hG hown hlocks hml htb hB ls hl
    have hl : lv_has ls 4 [(0, .ref (ad 0)), (1, .int (x)), (2, .ref (qo))] := hl
    obtain ⟨⟨hW, hP⟩, hK, hE, hT, hZ, hX⟩ := hB
    have hS : va_S (fun q => Ao ad 36 q ∨ q = qo) s.heap s.heap [] := va_S.rf
    refine W.widen (k := 1) (n := 6) (by decide) (by decide) ?_
    refine lv_aload_n hx hb dL_mean_0 rfl (lv_at hl 2 rfl) ?_
    refine lv_iconst (v := nI 0) hx hb dL_mean_1 (by decide) ?_
    refine lv_aload_n hx hb dL_mean_2 rfl (lv_at hl 0 rfl) ?_
    refine lv_iload_n hx hb dL_mean_3 rfl (lv_at hl 1 rfl) ?_
    refine k2_V hx hb hml hown hG cs_L_137 hok (by decide) (pzV (hK.sub (tys' := [(cI, .int), (cC, .char)]) [0, 1] rfl) rfl hW.rc hW) rfl hl.1 rfl (Nat.le_of_ble_eq_true rfl) dL_mean_4 ⟨Nat.le_refl _, Nat.le_refl _⟩ rfl hS (fun q h => Or.inl h) (fun H locs hW hz hk hS => ?_)
    have hP := oneK hP (hk qo (va_lt hP (k := 0) rfl) hqo)
    refine x_dast0 hx hb hK hP hS (Or.inr rfl) 2 rfl dL_mean_7 (fun H locs f9 hf hP ho hS => ?_)
    have hW := hW.kept (fun i hi => ho _ (fun e9 => hqo ⟨i, hi, e9.symm⟩))
    refine lv_goto (tgt := 14) hx hb dL_mean_8 (by decide) ?_
    refine lv_iconst (v := nI 0) hx hb dL_mean_14 (by decide) ?_
    exact w_i (by rw [hc]) ⟨hW, f9, hP, fun _ => hf⟩ hS hx hb hr hlocks dL_mean_15
  · obtain ⟨hc1, hc2⟩ := (cd_mean S x).resolve_left hc
    have hxx := xx_mean l hst D cI cC ad ta z S N x hI hc
    have hk9 : (sp_mean S x).1 = 1 := by omega
    rw [hk9] at hxx
    refine m_startW (by decide) (Nat.le_of_ble_eq_true rfl) ?_
    intro p e s m below meth c hx hb hr hG hown hlocks hml htb hB ls hl
    have hl : lv_has ls 4 [(0, .ref (ad 0)), (1, .int (x)), (2, .ref (qo))] := hl
    obtain ⟨⟨hW, hP⟩, hK, hE, hT, hZ, hX⟩ := hB
    refine lv_aload_n hx hb dL_mean_0 rfl (lv_at hl 2 rfl) ?_
    refine lv_iconst (v := nI 0) hx hb dL_mean_1 (by decide) ?_
    refine lv_aload_n hx hb dL_mean_2 rfl (lv_at hl 0 rfl) ?_
    refine lv_iload_n hx hb dL_mean_3 rfl (lv_at hl 1 rfl) ?_
    refine k3_V hx hb hml hown hG cs_L_137 hxx (by decide) (pztV (hK.sub (tys' := [(cI, .int), (cC, .char)]) [0, 1] rfl) hE hT hZ (fun _ _ _ => rfl) rfl hW.rc hW) rfl hl.1 rfl (Nat.le_of_ble_eq_true rfl) dL_mean_4 ⟨Nat.le_refl _, Nat.le_refl _⟩ (fun H1 q9 ce h1 h2 h3 h4 h5 => ?_)
    have h5 : s.vm.findClass "java/lang/IndexOutOfBoundsException" = some ce.cls := h5
    refine vx_catch hown [] ⟨0, 8, 11, 19⟩ [] (htb.trans rfl) (fun y9 hy9 => nomatch hy9) rfl (by decide) (hG _ cl_L_19) (hE.at _ (List.mem_of_getElem? (i := 3) rfl)) h3 h4 h5 ?_
    refine lv_astore_n (lv' := [(3, .ref (q9)), (0, .ref (ad 0)), (1, .int (x)), (2, .ref (qo))]) hx hb dL_mean_11 rfl hl (by decide) rfl (fun ls hl => ?_)
    refine lv_iconst (v := nI 1) hx hb dL_mean_12 (by decide) ?_
    exact w_i (by rw [hk9]) ⟨by rw [hc2]; exact (hW.kept (fun i hi => h2 _ (hW.lt hi))).mono (by omega), f, oneK hP (h2 _ (va_lt hP (k := 0) rfl)), fun h => absurd h hc⟩ ⟨h1, fun q hq _ => h2 q hq, fun y9 hy9 => nomatch hy9⟩ hx hb hr hlocks dL_mean_13
