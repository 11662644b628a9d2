set_option maxHeartbeats 4000000 in
set_option maxRecDepth 100000 in
theorem m_size (l : Launch) (D : va_G) (cI cZ : ClassId) (d : Nat → Nat) (S : St) (th : Int32) (x : Int32) (hI : Inv S) (hap : Ap d 9) : Met l yX5_size (ws_ yX5_size cX5_size 2 (some .int)) (rmN 4) (va_Pc [.ref (d 0), .int x] (pz D [(cI, .int), (cZ, .boolean)] (fun H => MdAt D cI cZ d S th H))) (Wq (some (.int (sp_size S x).2.1)) (fun H => MdAt D cI cZ d (sp_size S x).2.2 (nI (sp_size S x).1) H) (Ao d 9)) 0 0 (Ao d 9) := by
  have hbd2 : S.2.1 ≤ 40 := hI.2.2.2.1
  have hCC : ∀ cu, cu < 3 → ∀ y, S.2.2.1 cu = some y → y.1 < 4 := fun cu hcu y hy => by have h := hI.2.2.2.2.1 cu hcu; rw [hy] at h; exact h.1
  rcases bkn_cases 4 (by decide) x with ⟨b, hb4, rfl, hbk⟩ | ⟨hbk, hno⟩
  · have hN := hI.1 b hb4
    have e9 : sp_size S (nI (b)) = (0, nI (S.1 b).length, S) := by simp [sp_size, askB, hbk]
    rw [e9]
    refine m_start (by decide) (Nat.le_of_ble_eq_true rfl) ?_
    intro p e s m below meth c hx hb hr hG hown hlocks hml hB ls hl
    have hl : lv_has ls 2 [(0, .ref (d 0)), (1, .int (nI (b)))] := hl
    obtain ⟨hB0, hK⟩ := hB
    have hS : va_S (Ao d 9) s.heap s.heap [] := va_S.rf
    refine lv_iload_n hx hb dX5_size_0 rfl (lv_at hl 1 rfl) ?_
    refine k1_S hx hb hml hown hG cs_X5_68 (by have h := c5_isBook l D (nI (b)); rw [rch_in (by omega) (by decide)] at h; exact h) (by decide) (pzS (hK.sub (tys' := []) [] rfl) trivial) rfl hl.1 rfl (Nat.le_of_ble_eq_true rfl) dX5_size_1 ⟨Nat.zero_le _, Nat.zero_le _⟩ rfl ?_
    refine x_ifb_eq (tgt := 20) hx hb dX5_size_4 (by decide) (fun zc1 => False.elim (by first | exact absurd zc1 (by decide) | omega | (simp_all; done))) (fun zc1 => ?_)
    refine lv_aload_n hx hb dX5_size_7 rfl (lv_at hl 0 rfl) ?_
    refine lv_aload_n hx hb dX5_size_8 rfl (lv_at hl 0 rfl) ?_
    obtain ⟨K, V, sz, cb, ck, ca, it, ou, hP, hMB, hMC, hMO⟩ := id hB0
    have hP : va_P D vwCl [(d 0, .inr (5, [.ref (d 1), .ref (d 2), .ref (d 3), .int (nI (S.2.1)), .int (th), .ref (d 4), .ref (d 5), .ref (d 6), .ref (d 7), .ref (d 8), .int (nI (S.2.2.2.length))])), (d 1, .inl (cI, (804, .inl K))), (d 2, .inl (cI, (804, .inl V))), (d 3, .inl (cI, (4, .inl sz))), (d 4, .inl (cI, (3, .inl cb))), (d 5, .inl (cI, (3, .inl ck))), (d 6, .inl (cI, (3, .inl ca))), (d 7, .inl (cZ, (3, .inl it))), (d 8, .inl (cI, (6000, .inl ou)))] s.heap := hP
    have hD : va_D (Ao d 9) [(d 0, .inr (5, [.ref (d 1), .ref (d 2), .ref (d 3), .int (nI (S.2.1)), .int (th), .ref (d 4), .ref (d 5), .ref (d 6), .ref (d 7), .ref (d 8), .int (nI (S.2.2.2.length))])), (d 1, .inl (cI, (804, .inl K))), (d 2, .inl (cI, (804, .inl V))), (d 3, .inl (cI, (4, .inl sz))), (d 4, .inl (cI, (3, .inl cb))), (d 5, .inl (cI, (3, .inl ck))), (d 6, .inl (cI, (3, .inl ca))), (d 7, .inl (cZ, (3, .inl it))), (d 8, .inl (cI, (6000, .inl ou)))] := hap.D9
    refine gf_X5_16 hx hb hG hown hK hP 0 rfl rfl dX5_size_9 ?_
    refine lv_iload_n hx hb dX5_size_12 rfl (lv_at hl 1 rfl) ?_
    refine x_iald hx hb hK hP 3 0 rfl rfl (by omega) (by decide) dX5_size_13 ?_
    rw [(hMB (b) (by omega)).1]
    refine k2_V hx hb hml hown hG cs_X5_65 (c5_told l D cI cZ d S th (nI ((S.1 b).length)) hap) (by decide) (pzV hK rfl hB0.rc hB0) rfl hl.1 rfl (Nat.le_of_ble_eq_true rfl) dX5_size_14 ⟨Nat.zero_le _, Nat.zero_le _⟩ rfl hS (fun q h => h) (fun H locs hB0 hz hk hS => ?_)
    refine lv_goto (tgt := 25) hx hb dX5_size_17 (by decide) ?_
    exact w_i (PB := (fun H => MdAt D cI cZ d S (nI 0) H)) rfl hB0 hS hx hb hr hlocks dX5_size_25
  · skip
    have e9 : sp_size S x = (1, 0, S) := by simp [sp_size, askB, hbk]
    rw [e9]
    refine m_start (by decide) (Nat.le_of_ble_eq_true rfl) ?_
    intro p e s m below meth c hx hb hr hG hown hlocks hml hB ls hl
    have hl : lv_has ls 2 [(0, .ref (d 0)), (1, .int (x))] := hl
    obtain ⟨hB0, hK⟩ := hB
    have hS : va_S (Ao d 9) s.heap s.heap [] := va_S.rf
    refine lv_iload_n hx hb dX5_size_0 rfl (lv_at hl 1 rfl) ?_
    refine k1_S hx hb hml hown hG cs_X5_68 (by have h := c5_isBook l D x; rw [hno] at h; exact h) (by decide) (pzS (hK.sub (tys' := []) [] rfl) trivial) rfl hl.1 rfl (Nat.le_of_ble_eq_true rfl) dX5_size_1 ⟨Nat.zero_le _, Nat.zero_le _⟩ rfl ?_
    refine x_ifb_eq (tgt := 20) hx hb dX5_size_4 (by decide) (fun zc1 => ?_) (fun zc1 => False.elim (by first | exact absurd zc1 (by decide) | omega | (simp_all; done)))
    refine lv_aload_n hx hb dX5_size_20 rfl (lv_at hl 0 rfl) ?_
    refine lv_iconst (v := nI 1) hx hb dX5_size_21 (by decide) ?_
    refine k2_V hx hb hml hown hG cs_X5_58 (c5_refuse l D cI cZ d S th 1 hap) (by decide) (pzV hK rfl hB0.rc hB0) rfl hl.1 rfl (Nat.le_of_ble_eq_true rfl) dX5_size_22 ⟨Nat.zero_le _, Nat.zero_le _⟩ rfl hS (fun q h => h) (fun H locs hB0 hz hk hS => ?_)
    exact w_i (PB := (fun H => MdAt D cI cZ d S (nI 1) H)) rfl hB0 hS hx hb hr hlocks dX5_size_25
set_option maxHeartbeats 4000000 in
set_option maxRecDepth 100000 in
theorem m_hasKey (l : Launch) (D : va_G) (cI cZ : ClassId) (d : Nat → Nat) (S : St) (th : Int32) (x key : Int32) (hI : Inv S) (hap : Ap d 9) : Met l yX5_hasKey (ws_ yX5_hasKey cX5_hasKey 3 (some .boolean)) (rmN 4) (va_Pc [.ref (d 0), .int x, .int key] (pz D [(cI, .int), (cZ, .boolean)] (fun H => MdAt D cI cZ d S th H))) (Wq (some (.int (bI (sp_hasKey S x key).2.1))) (fun H => MdAt D cI cZ d (sp_hasKey S x key).2.2 (nI (sp_hasKey S x key).1) H) (Ao d 9)) 0 0 (Ao d 9) := by
  have hbd2 : S.2.1 ≤ 40 := hI.2.2.2.1
  have hCC : ∀ cu, cu < 3 → ∀ y, S.2.2.1 cu = some y → y.1 < 4 := fun cu hcu y hy => by have h := hI.2.2.2.2.1 cu hcu; rw [hy] at h; exact h.1
  rcases bkn_cases 4 (by decide) x with ⟨b, hb4, rfl, hbk⟩ | ⟨hbk, hno⟩
  · have hN := hI.1 b hb4
    cases hf : fx (S.1 b) key with
    | none =>
      have e9 : sp_hasKey S (nI (b)) key = (0, false, S) := by simp [sp_hasKey, askB, hbk, hf]
      rw [e9]
      refine m_start (by decide) (Nat.le_of_ble_eq_true rfl) ?_
      intro p e s m below meth c hx hb hr hG hown hlocks hml hB ls hl
      have hl : lv_has ls 3 [(0, .ref (d 0)), (1, .int (nI (b))), (2, .int (key))] := hl
      obtain ⟨hB0, hK⟩ := hB
      have hS : va_S (Ao d 9) s.heap s.heap [] := va_S.rf
      refine lv_iload_n hx hb dX5_hasKey_0 rfl (lv_at hl 1 rfl) ?_
      refine k1_S hx hb hml hown hG cs_X5_68 (by have h := c5_isBook l D (nI (b)); rw [rch_in (by omega) (by decide)] at h; exact h) (by decide) (pzS (hK.sub (tys' := []) [] rfl) trivial) rfl hl.1 rfl (Nat.le_of_ble_eq_true rfl) dX5_hasKey_1 ⟨Nat.zero_le _, Nat.zero_le _⟩ rfl ?_
      refine x_ifb_eq (tgt := 29) hx hb dX5_hasKey_4 (by decide) (fun zc1 => False.elim (by first | exact absurd zc1 (by decide) | omega | (simp_all; done))) (fun zc1 => ?_)
      refine lv_aload_n hx hb dX5_hasKey_7 rfl (lv_at hl 0 rfl) ?_
      refine lv_aload_n hx hb dX5_hasKey_8 rfl (lv_at hl 0 rfl) ?_
      refine lv_iload_n hx hb dX5_hasKey_9 rfl (lv_at hl 1 rfl) ?_
      refine lv_iload_n hx hb dX5_hasKey_10 rfl (lv_at hl 2 rfl) ?_
      refine k1_V hx hb hml hown hG cs_X5_50 (by have h := c5_place l D cI cZ d S th b key (by omega); rw [hf] at h; exact h) (by decide) (pzV hK rfl hB0.rc hB0) rfl hl.1 rfl (Nat.le_of_ble_eq_true rfl) dX5_hasKey_11 ⟨Nat.zero_le _, Nat.zero_le _⟩ rfl ?_
      refine lv_iconst (v := (-1)) hx hb dX5_hasKey_14 (by decide) ?_
      refine lv_icmp_eq (tgt := 22) hx hb dX5_hasKey_15 (by decide) (fun zc2 => ?_) (fun zc2 => False.elim (by first | exact absurd zc2 (by decide) | omega | (simp_all; done)))
      refine lv_iconst (v := nI 0) hx hb dX5_hasKey_22 (by decide) ?_
      refine k2_V hx hb hml hown hG cs_X5_82 (c5_says l D cI cZ d S th false hap) (by decide) (pzV hK rfl hB0.rc hB0) rfl hl.1 rfl (Nat.le_of_ble_eq_true rfl) dX5_hasKey_23 ⟨Nat.zero_le _, Nat.zero_le _⟩ rfl hS (fun q h => h) (fun H locs hB0 hz hk hS => ?_)
      refine lv_goto (tgt := 34) hx hb dX5_hasKey_26 (by decide) ?_
      exact w_z (PB := (fun H => MdAt D cI cZ d S (nI 0) H)) rfl hB0 hS hx hb hr hlocks dX5_hasKey_34
    | some i =>
      have hi := (fx_some hf).1
      have e9 : sp_hasKey S (nI (b)) key = (0, true, S) := by simp [sp_hasKey, askB, hbk, hf]
      rw [e9]
      refine m_start (by decide) (Nat.le_of_ble_eq_true rfl) ?_
      intro p e s m below meth c hx hb hr hG hown hlocks hml hB ls hl
      have hl : lv_has ls 3 [(0, .ref (d 0)), (1, .int (nI (b))), (2, .int (key))] := hl
      obtain ⟨hB0, hK⟩ := hB
      have hS : va_S (Ao d 9) s.heap s.heap [] := va_S.rf
      refine lv_iload_n hx hb dX5_hasKey_0 rfl (lv_at hl 1 rfl) ?_
      refine k1_S hx hb hml hown hG cs_X5_68 (by have h := c5_isBook l D (nI (b)); rw [rch_in (by omega) (by decide)] at h; exact h) (by decide) (pzS (hK.sub (tys' := []) [] rfl) trivial) rfl hl.1 rfl (Nat.le_of_ble_eq_true rfl) dX5_hasKey_1 ⟨Nat.zero_le _, Nat.zero_le _⟩ rfl ?_
      refine x_ifb_eq (tgt := 29) hx hb dX5_hasKey_4 (by decide) (fun zc1 => False.elim (by first | exact absurd zc1 (by decide) | omega | (simp_all; done))) (fun zc1 => ?_)
      refine lv_aload_n hx hb dX5_hasKey_7 rfl (lv_at hl 0 rfl) ?_
      refine lv_aload_n hx hb dX5_hasKey_8 rfl (lv_at hl 0 rfl) ?_
      refine lv_iload_n hx hb dX5_hasKey_9 rfl (lv_at hl 1 rfl) ?_
      refine lv_iload_n hx hb dX5_hasKey_10 rfl (lv_at hl 2 rfl) ?_
      refine k1_V hx hb hml hown hG cs_X5_50 (by have h := c5_place l D cI cZ d S th b key (by omega); rw [hf] at h; exact h) (by decide) (pzV hK rfl hB0.rc hB0) rfl hl.1 rfl (Nat.le_of_ble_eq_true rfl) dX5_hasKey_11 ⟨Nat.zero_le _, Nat.zero_le _⟩ rfl ?_
      refine lv_iconst (v := (-1)) hx hb dX5_hasKey_14 (by decide) ?_
      refine lv_icmp_eq (tgt := 22) hx hb dX5_hasKey_15 (by decide) (fun zc2 => False.elim (by first | omega | contradiction | exact absurd zc2 (m1_ne _ (by omega)) | exact absurd zc2 (by decide) | exact absurd (Eq.symm zc2) (m1_ne _ (by omega)) | (simp_all; done))) (fun zc2 => ?_)
      refine lv_iconst (v := nI 1) hx hb dX5_hasKey_18 (by decide) ?_
      refine lv_goto (tgt := 23) hx hb dX5_hasKey_19 (by decide) ?_
      refine k2_V hx hb hml hown hG cs_X5_82 (c5_says l D cI cZ d S th true hap) (by decide) (pzV hK rfl hB0.rc hB0) rfl hl.1 rfl (Nat.le_of_ble_eq_true rfl) dX5_hasKey_23 ⟨Nat.zero_le _, Nat.zero_le _⟩ rfl hS (fun q h => h) (fun H locs hB0 hz hk hS => ?_)
      refine lv_goto (tgt := 34) hx hb dX5_hasKey_26 (by decide) ?_
      exact w_z (PB := (fun H => MdAt D cI cZ d S (nI 0) H)) rfl hB0 hS hx hb hr hlocks dX5_hasKey_34
  · skip
    have e9 : sp_hasKey S x key = (1, false, S) := by simp [sp_hasKey, askB, hbk]
    rw [e9]
    refine m_start (by decide) (Nat.le_of_ble_eq_true rfl) ?_
    intro p e s m below meth c hx hb hr hG hown hlocks hml hB ls hl
    have hl : lv_has ls 3 [(0, .ref (d 0)), (1, .int (x)), (2, .int (key))] := hl
    obtain ⟨hB0, hK⟩ := hB
    have hS : va_S (Ao d 9) s.heap s.heap [] := va_S.rf
    refine lv_iload_n hx hb dX5_hasKey_0 rfl (lv_at hl 1 rfl) ?_
    refine k1_S hx hb hml hown hG cs_X5_68 (by have h := c5_isBook l D x; rw [hno] at h; exact h) (by decide) (pzS (hK.sub (tys' := []) [] rfl) trivial) rfl hl.1 rfl (Nat.le_of_ble_eq_true rfl) dX5_hasKey_1 ⟨Nat.zero_le _, Nat.zero_le _⟩ rfl ?_
    refine x_ifb_eq (tgt := 29) hx hb dX5_hasKey_4 (by decide) (fun zc1 => ?_) (fun zc1 => False.elim (by first | exact absurd zc1 (by decide) | omega | (simp_all; done)))
    refine lv_aload_n hx hb dX5_hasKey_29 rfl (lv_at hl 0 rfl) ?_
    refine lv_iconst (v := nI 1) hx hb dX5_hasKey_30 (by decide) ?_
    refine k2_V hx hb hml hown hG cs_X5_72 (c5_denies l D cI cZ d S th 1 hap) (by decide) (pzV hK rfl hB0.rc hB0) rfl hl.1 rfl (Nat.le_of_ble_eq_true rfl) dX5_hasKey_31 ⟨Nat.zero_le _, Nat.zero_le _⟩ rfl hS (fun q h => h) (fun H locs hB0 hz hk hS => ?_)
    exact w_z (PB := (fun H => MdAt D cI cZ d S (nI 1) H)) rfl hB0 hS hx hb hr hlocks dX5_hasKey_34
set_option maxHeartbeats 4000000 in
set_option maxRecDepth 100000 in
theorem m_get (l : Launch) (D : va_G) (cI cZ : ClassId) (d : Nat → Nat) (S : St) (th : Int32) (x key or_ : Int32) (hI : Inv S) (hap : Ap d 9) : Met l yX5_get (ws_ yX5_get cX5_get 5 (some .int)) (rmN 4) (va_Pc [.ref (d 0), .int x, .int key, .int or_] (pz D [(cI, .int), (cZ, .boolean)] (fun H => MdAt D cI cZ d S th H))) (Wq (some (.int (sp_get S x key or_).2.1)) (fun H => MdAt D cI cZ d (sp_get S x key or_).2.2 (nI (sp_get S x key or_).1) H) (Ao d 9)) 0 0 (Ao d 9) := by
  have hbd2 : S.2.1 ≤ 40 := hI.2.2.2.1
  have hCC : ∀ cu, cu < 3 → ∀ y, S.2.2.1 cu = some y → y.1 < 4 := fun cu hcu y hy => by have h := hI.2.2.2.2.1 cu hcu; rw [hy] at h; exact h.1
  rcases bkn_cases 4 (by decide) x with ⟨b, hb4, rfl, hbk⟩ | ⟨hbk, hno⟩
  · have hN := hI.1 b hb4
    cases hf : fx (S.1 b) key with
    | none =>
      have e9 : sp_get S (nI (b)) key or_ = (0, or_, S) := by simp [sp_get, askB, hbk, hf]
      rw [e9]
      refine m_start (by decide) (Nat.le_of_ble_eq_true rfl) ?_
      intro p e s m below meth c hx hb hr hG hown hlocks hml hB ls hl
      have hl : lv_has ls 5 [(0, .ref (d 0)), (1, .int (nI (b))), (2, .int (key)), (3, .int (or_))] := hl
      obtain ⟨hB0, hK⟩ := hB
      have hS : va_S (Ao d 9) s.heap s.heap [] := va_S.rf
      refine lv_iload_n hx hb dX5_get_0 rfl (lv_at hl 1 rfl) ?_
      refine k1_S hx hb hml hown hG cs_X5_68 (by have h := c5_isBook l D (nI (b)); rw [rch_in (by omega) (by decide)] at h; exact h) (by decide) (pzS (hK.sub (tys' := []) [] rfl) trivial) rfl hl.1 rfl (Nat.le_of_ble_eq_true rfl) dX5_get_1 ⟨Nat.zero_le _, Nat.zero_le _⟩ rfl ?_
      refine x_ifb_ne (tgt := 13) hx hb dX5_get_4 (by decide) (fun zc1 => ?_) (fun zc1 => False.elim (by first | exact absurd zc1 (by decide) | omega | (simp_all; done)))
      refine lv_aload_n hx hb dX5_get_13 rfl (lv_at hl 0 rfl) ?_
      refine lv_iload_n hx hb dX5_get_14 rfl (lv_at hl 1 rfl) ?_
      refine lv_iload_n hx hb dX5_get_15 rfl (lv_at hl 2 rfl) ?_
      refine k1_V hx hb hml hown hG cs_X5_50 (by have h := c5_place l D cI cZ d S th b key (by omega); rw [hf] at h; exact h) (by decide) (pzV hK rfl hB0.rc hB0) rfl hl.1 rfl (Nat.le_of_ble_eq_true rfl) dX5_get_16 ⟨Nat.zero_le _, Nat.zero_le _⟩ rfl ?_
      refine lv_istore (lv' := [(4, .int ((-1))), (0, .ref (d 0)), (1, .int (nI (b))), (2, .int (key)), (3, .int (or_))]) hx hb dX5_get_19 hl (by decide) rfl (fun ls hl => ?_)
      refine lv_aload_n hx hb dX5_get_21 rfl (lv_at hl 1 rfl) ?_
      refine lv_iload hx hb dX5_get_22 (lv_at hl 0 rfl) ?_
      refine lv_iconst (v := (-1)) hx hb dX5_get_24 (by decide) ?_
      refine lv_icmp_ne (tgt := 32) hx hb dX5_get_25 (by decide) (fun zc2 => False.elim (by first | exact absurd zc2 (by decide) | omega | (simp_all; done))) (fun zc2 => ?_)
      refine lv_iload_n hx hb dX5_get_28 rfl (lv_at hl 4 rfl) ?_
      refine lv_goto (tgt := 45) hx hb dX5_get_29 (by decide) ?_
      refine k2_V hx hb hml hown hG cs_X5_65 (c5_told l D cI cZ d S th or_ hap) (by decide) (pzV hK rfl hB0.rc hB0) rfl hl.1 rfl (Nat.le_of_ble_eq_true rfl) dX5_get_45 ⟨Nat.zero_le _, Nat.zero_le _⟩ rfl hS (fun q h => h) (fun H locs hB0 hz hk hS => ?_)
      exact w_i (PB := (fun H => MdAt D cI cZ d S (nI 0) H)) rfl hB0 hS hx hb hr hlocks dX5_get_48
    | some i =>
      have hi := (fx_some hf).1
      have e9 : sp_get S (nI (b)) key or_ = (0, vf (S.1 b) i, S) := by simp [sp_get, askB, hbk, hf]
      rw [e9]
      refine m_start (by decide) (Nat.le_of_ble_eq_true rfl) ?_
      intro p e s m below meth c hx hb hr hG hown hlocks hml hB ls hl
      have hl : lv_has ls 5 [(0, .ref (d 0)), (1, .int (nI (b))), (2, .int (key)), (3, .int (or_))] := hl
      obtain ⟨hB0, hK⟩ := hB
      have hS : va_S (Ao d 9) s.heap s.heap [] := va_S.rf
      refine lv_iload_n hx hb dX5_get_0 rfl (lv_at hl 1 rfl) ?_
      refine k1_S hx hb hml hown hG cs_X5_68 (by have h := c5_isBook l D (nI (b)); rw [rch_in (by omega) (by decide)] at h; exact h) (by decide) (pzS (hK.sub (tys' := []) [] rfl) trivial) rfl hl.1 rfl (Nat.le_of_ble_eq_true rfl) dX5_get_1 ⟨Nat.zero_le _, Nat.zero_le _⟩ rfl ?_
      refine x_ifb_ne (tgt := 13) hx hb dX5_get_4 (by decide) (fun zc1 => ?_) (fun zc1 => False.elim (by first | exact absurd zc1 (by decide) | omega | (simp_all; done)))
      refine lv_aload_n hx hb dX5_get_13 rfl (lv_at hl 0 rfl) ?_
      refine lv_iload_n hx hb dX5_get_14 rfl (lv_at hl 1 rfl) ?_
      refine lv_iload_n hx hb dX5_get_15 rfl (lv_at hl 2 rfl) ?_
      refine k1_V hx hb hml hown hG cs_X5_50 (by have h := c5_place l D cI cZ d S th b key (by omega); rw [hf] at h; exact h) (by decide) (pzV hK rfl hB0.rc hB0) rfl hl.1 rfl (Nat.le_of_ble_eq_true rfl) dX5_get_16 ⟨Nat.zero_le _, Nat.zero_le _⟩ rfl ?_
      refine lv_istore (lv' := [(4, .int (nI (i))), (0, .ref (d 0)), (1, .int (nI (b))), (2, .int (key)), (3, .int (or_))]) hx hb dX5_get_19 hl (by decide) rfl (fun ls hl => ?_)
      refine lv_aload_n hx hb dX5_get_21 rfl (lv_at hl 1 rfl) ?_
      refine lv_iload hx hb dX5_get_22 (lv_at hl 0 rfl) ?_
      refine lv_iconst (v := (-1)) hx hb dX5_get_24 (by decide) ?_
      refine lv_icmp_ne (tgt := 32) hx hb dX5_get_25 (by decide) (fun zc2 => ?_) (fun zc2 => False.elim (by first | omega | contradiction | exact absurd zc2 (m1_ne _ (by omega)) | exact absurd zc2 (by decide) | exact absurd (Eq.symm zc2) (m1_ne _ (by omega)) | (simp_all; done)))
      refine lv_aload_n hx hb dX5_get_32 rfl (lv_at hl 1 rfl) ?_
      obtain ⟨K, V, sz, cb, ck, ca, it, ou, hP, hMB, hMC, hMO⟩ := id hB0
      have hP : va_P D vwCl [(d 0, .inr (5, [.ref (d 1), .ref (d 2), .ref (d 3), .int (nI (S.2.1)), .int (th), .ref (d 4), .ref (d 5), .ref (d 6), .ref (d 7), .ref (d 8), .int (nI (S.2.2.2.length))])), (d 1, .inl (cI, (804, .inl K))), (d 2, .inl (cI, (804, .inl V))), (d 3, .inl (cI, (4, .inl sz))), (d 4, .inl (cI, (3, .inl cb))), (d 5, .inl (cI, (3, .inl ck))), (d 6, .inl (cI, (3, .inl ca))), (d 7, .inl (cZ, (3, .inl it))), (d 8, .inl (cI, (6000, .inl ou)))] s.heap := hP
      have hD : va_D (Ao d 9) [(d 0, .inr (5, [.ref (d 1), .ref (d 2), .ref (d 3), .int (nI (S.2.1)), .int (th), .ref (d 4), .ref (d 5), .ref (d 6), .ref (d 7), .ref (d 8), .int (nI (S.2.2.2.length))])), (d 1, .inl (cI, (804, .inl K))), (d 2, .inl (cI, (804, .inl V))), (d 3, .inl (cI, (4, .inl sz))), (d 4, .inl (cI, (3, .inl cb))), (d 5, .inl (cI, (3, .inl ck))), (d 6, .inl (cI, (3, .inl ca))), (d 7, .inl (cZ, (3, .inl it))), (d 8, .inl (cI, (6000, .inl ou)))] := hap.D9
      refine gf_X5_13 hx hb hG hown hK hP 0 rfl rfl dX5_get_33 ?_
      refine lv_sipush (v := nI 201) hx hb dX5_get_36 (by decide) ?_
      refine lv_iload_n hx hb dX5_get_39 rfl (lv_at hl 2 rfl) ?_
      refine x_imul (v := nI (201 * b)) hx hb dX5_get_40 (pk_mul _ _) ?_
      refine lv_iload hx hb dX5_get_41 (lv_at hl 0 rfl) ?_
      refine x_iadd (v := nI ((201 * b) + i)) hx hb dX5_get_43 (nI_add _ _) ?_
      refine x_iald hx hb hK hP 2 0 rfl rfl (by omega) (by decide) dX5_get_44 ?_
      rw [show V ((201 * b) + i) = vf (S.1 b) i from ((hMB b (by omega)).2.2 i (by omega)).2]
      refine k2_V hx hb hml hown hG cs_X5_65 (c5_told l D cI cZ d S th (vf (S.1 b) i) hap) (by decide) (pzV hK rfl hB0.rc hB0) rfl hl.1 rfl (Nat.le_of_ble_eq_true rfl) dX5_get_45 ⟨Nat.zero_le _, Nat.zero_le _⟩ rfl hS (fun q h => h) (fun H locs hB0 hz hk hS => ?_)
      exact w_i (PB := (fun H => MdAt D cI cZ d S (nI 0) H)) rfl hB0 hS hx hb hr hlocks dX5_get_48
  · skip
    have e9 : sp_get S x key or_ = (1, 0, S) := by simp [sp_get, askB, hbk]
    rw [e9]
    refine m_start (by decide) (Nat.le_of_ble_eq_true rfl) ?_
    intro p e s m below meth c hx hb hr hG hown hlocks hml hB ls hl
    have hl : lv_has ls 5 [(0, .ref (d 0)), (1, .int (x)), (2, .int (key)), (3, .int (or_))] := hl
    obtain ⟨hB0, hK⟩ := hB
    have hS : va_S (Ao d 9) s.heap s.heap [] := va_S.rf
    refine lv_iload_n hx hb dX5_get_0 rfl (lv_at hl 1 rfl) ?_
    refine k1_S hx hb hml hown hG cs_X5_68 (by have h := c5_isBook l D x; rw [hno] at h; exact h) (by decide) (pzS (hK.sub (tys' := []) [] rfl) trivial) rfl hl.1 rfl (Nat.le_of_ble_eq_true rfl) dX5_get_1 ⟨Nat.zero_le _, Nat.zero_le _⟩ rfl ?_
    refine x_ifb_ne (tgt := 13) hx hb dX5_get_4 (by decide) (fun zc1 => False.elim (by first | exact absurd zc1 (by decide) | omega | (simp_all; done))) (fun zc1 => ?_)
    refine lv_aload_n hx hb dX5_get_7 rfl (lv_at hl 0 rfl) ?_
    refine lv_iconst (v := nI 1) hx hb dX5_get_8 (by decide) ?_
    refine k2_V hx hb hml hown hG cs_X5_58 (c5_refuse l D cI cZ d S th 1 hap) (by decide) (pzV hK rfl hB0.rc hB0) rfl hl.1 rfl (Nat.le_of_ble_eq_true rfl) dX5_get_9 ⟨Nat.zero_le _, Nat.zero_le _⟩ rfl hS (fun q h => h) (fun H locs hB0 hz hk hS => ?_)
    exact w_i (PB := (fun H => MdAt D cI cZ d S (nI 1) H)) rfl hB0 hS hx hb hr hlocks dX5_get_12
set_option maxHeartbeats 4000000 in
set_option maxRecDepth 100000 in
theorem m_placeOf (l : Launch) (D : va_G) (cI cZ : ClassId) (d : Nat → Nat) (S : St) (th : Int32) (x key : Int32) (hI : Inv S) (hap : Ap d 9) : Met l yX5_placeOf (ws_ yX5_placeOf cX5_placeOf 3 (some .int)) (rmN 4) (va_Pc [.ref (d 0), .int x, .int key] (pz D [(cI, .int), (cZ, .boolean)] (fun H => MdAt D cI cZ d S th H))) (Wq (some (.int (sp_placeOf S x key).2.1)) (fun H => MdAt D cI cZ d (sp_placeOf S x key).2.2 (nI (sp_placeOf S x key).1) H) (Ao d 9)) 0 0 (Ao d 9) := by
  have hbd2 : S.2.1 ≤ 40 := hI.2.2.2.1
  have hCC : ∀ cu, cu < 3 → ∀ y, S.2.2.1 cu = some y → y.1 < 4 := fun cu hcu y hy => by have h := hI.2.2.2.2.1 cu hcu; rw [hy] at h; exact h.1
  rcases bkn_cases 4 (by decide) x with ⟨b, hb4, rfl, hbk⟩ | ⟨hbk, hno⟩
  · have hN := hI.1 b hb4
    cases hf : fx (S.1 b) key with
    | none =>
      have e9 : sp_placeOf S (nI (b)) key = (0, -1, S) := by simp [sp_placeOf, askB, hbk, hf, oI]
      rw [e9]
      refine m_start (by decide) (Nat.le_of_ble_eq_true rfl) ?_
      intro p e s m below meth c hx hb hr hG hown hlocks hml hB ls hl
      have hl : lv_has ls 3 [(0, .ref (d 0)), (1, .int (nI (b))), (2, .int (key))] := hl
      obtain ⟨hB0, hK⟩ := hB
      have hS : va_S (Ao d 9) s.heap s.heap [] := va_S.rf
      refine lv_iload_n hx hb dX5_placeOf_0 rfl (lv_at hl 1 rfl) ?_
      refine k1_S hx hb hml hown hG cs_X5_68 (by have h := c5_isBook l D (nI (b)); rw [rch_in (by omega) (by decide)] at h; exact h) (by decide) (pzS (hK.sub (tys' := []) [] rfl) trivial) rfl hl.1 rfl (Nat.le_of_ble_eq_true rfl) dX5_placeOf_1 ⟨Nat.zero_le _, Nat.zero_le _⟩ rfl ?_
      refine x_ifb_eq (tgt := 20) hx hb dX5_placeOf_4 (by decide) (fun zc1 => False.elim (by first | exact absurd zc1 (by decide) | omega | (simp_all; done))) (fun zc1 => ?_)
      refine lv_aload_n hx hb dX5_placeOf_7 rfl (lv_at hl 0 rfl) ?_
      refine lv_aload_n hx hb dX5_placeOf_8 rfl (lv_at hl 0 rfl) ?_
      refine lv_iload_n hx hb dX5_placeOf_9 rfl (lv_at hl 1 rfl) ?_
      refine lv_iload_n hx hb dX5_placeOf_10 rfl (lv_at hl 2 rfl) ?_
      refine k1_V hx hb hml hown hG cs_X5_50 (by have h := c5_place l D cI cZ d S th b key (by omega); rw [hf] at h; exact h) (by decide) (pzV hK rfl hB0.rc hB0) rfl hl.1 rfl (Nat.le_of_ble_eq_true rfl) dX5_placeOf_11 ⟨Nat.zero_le _, Nat.zero_le _⟩ rfl ?_
      refine k2_V hx hb hml hown hG cs_X5_65 (c5_told l D cI cZ d S th (-1) hap) (by decide) (pzV hK rfl hB0.rc hB0) rfl hl.1 rfl (Nat.le_of_ble_eq_true rfl) dX5_placeOf_14 ⟨Nat.zero_le _, Nat.zero_le _⟩ rfl hS (fun q h => h) (fun H locs hB0 hz hk hS => ?_)
      refine lv_goto (tgt := 25) hx hb dX5_placeOf_17 (by decide) ?_
      exact w_i (PB := (fun H => MdAt D cI cZ d S (nI 0) H)) rfl hB0 hS hx hb hr hlocks dX5_placeOf_25
    | some i =>
      have hi := (fx_some hf).1
      have e9 : sp_placeOf S (nI (b)) key = (0, nI i, S) := by simp [sp_placeOf, askB, hbk, hf, oI]
      rw [e9]
      refine m_start (by decide) (Nat.le_of_ble_eq_true rfl) ?_
      intro p e s m below meth c hx hb hr hG hown hlocks hml hB ls hl
      have hl : lv_has ls 3 [(0, .ref (d 0)), (1, .int (nI (b))), (2, .int (key))] := hl
      obtain ⟨hB0, hK⟩ := hB
      have hS : va_S (Ao d 9) s.heap s.heap [] := va_S.rf
      refine lv_iload_n hx hb dX5_placeOf_0 rfl (lv_at hl 1 rfl) ?_
      refine k1_S hx hb hml hown hG cs_X5_68 (by have h := c5_isBook l D (nI (b)); rw [rch_in (by omega) (by decide)] at h; exact h) (by decide) (pzS (hK.sub (tys' := []) [] rfl) trivial) rfl hl.1 rfl (Nat.le_of_ble_eq_true rfl) dX5_placeOf_1 ⟨Nat.zero_le _, Nat.zero_le _⟩ rfl ?_
      refine x_ifb_eq (tgt := 20) hx hb dX5_placeOf_4 (by decide) (fun zc1 => False.elim (by first | exact absurd zc1 (by decide) | omega | (simp_all; done))) (fun zc1 => ?_)
      refine lv_aload_n hx hb dX5_placeOf_7 rfl (lv_at hl 0 rfl) ?_
      refine lv_aload_n hx hb dX5_placeOf_8 rfl (lv_at hl 0 rfl) ?_
      refine lv_iload_n hx hb dX5_placeOf_9 rfl (lv_at hl 1 rfl) ?_
      refine lv_iload_n hx hb dX5_placeOf_10 rfl (lv_at hl 2 rfl) ?_
      refine k1_V hx hb hml hown hG cs_X5_50 (by have h := c5_place l D cI cZ d S th b key (by omega); rw [hf] at h; exact h) (by decide) (pzV hK rfl hB0.rc hB0) rfl hl.1 rfl (Nat.le_of_ble_eq_true rfl) dX5_placeOf_11 ⟨Nat.zero_le _, Nat.zero_le _⟩ rfl ?_
      refine k2_V hx hb hml hown hG cs_X5_65 (c5_told l D cI cZ d S th (nI (i)) hap) (by decide) (pzV hK rfl hB0.rc hB0) rfl hl.1 rfl (Nat.le_of_ble_eq_true rfl) dX5_placeOf_14 ⟨Nat.zero_le _, Nat.zero_le _⟩ rfl hS (fun q h => h) (fun H locs hB0 hz hk hS => ?_)
      refine lv_goto (tgt := 25) hx hb dX5_placeOf_17 (by decide) ?_
      exact w_i (PB := (fun H => MdAt D cI cZ d S (nI 0) H)) rfl hB0 hS hx hb hr hlocks dX5_placeOf_25
  · skip
    have e9 : sp_placeOf S x key = (1, 0, S) := by simp [sp_placeOf, askB, hbk]
    rw [e9]
    refine m_start (by decide) (Nat.le_of_ble_eq_true rfl) ?_
    intro p e s m below meth c hx hb hr hG hown hlocks hml hB ls hl
    have hl : lv_has ls 3 [(0, .ref (d 0)), (1, .int (x)), (2, .int (key))] := hl
    obtain ⟨hB0, hK⟩ := hB
    have hS : va_S (Ao d 9) s.heap s.heap [] := va_S.rf
    refine lv_iload_n hx hb dX5_placeOf_0 rfl (lv_at hl 1 rfl) ?_
    refine k1_S hx hb hml hown hG cs_X5_68 (by have h := c5_isBook l D x; rw [hno] at h; exact h) (by decide) (pzS (hK.sub (tys' := []) [] rfl) trivial) rfl hl.1 rfl (Nat.le_of_ble_eq_true rfl) dX5_placeOf_1 ⟨Nat.zero_le _, Nat.zero_le _⟩ rfl ?_
    refine x_ifb_eq (tgt := 20) hx hb dX5_placeOf_4 (by decide) (fun zc1 => ?_) (fun zc1 => False.elim (by first | exact absurd zc1 (by decide) | omega | (simp_all; done)))
    refine lv_aload_n hx hb dX5_placeOf_20 rfl (lv_at hl 0 rfl) ?_
    refine lv_iconst (v := nI 1) hx hb dX5_placeOf_21 (by decide) ?_
    refine k2_V hx hb hml hown hG cs_X5_58 (c5_refuse l D cI cZ d S th 1 hap) (by decide) (pzV hK rfl hB0.rc hB0) rfl hl.1 rfl (Nat.le_of_ble_eq_true rfl) dX5_placeOf_22 ⟨Nat.zero_le _, Nat.zero_le _⟩ rfl hS (fun q h => h) (fun H locs hB0 hz hk hS => ?_)
    exact w_i (PB := (fun H => MdAt D cI cZ d S (nI 1) H)) rfl hB0 hS hx hb hr hlocks dX5_placeOf_25
set_option maxHeartbeats 4000000 in
set_option maxRecDepth 100000 in
theorem m_keyAt (l : Launch) (D : va_G) (cI cZ : ClassId) (d : Nat → Nat) (S : St) (th : Int32) (x y : Int32) (hI : Inv S) (hap : Ap d 9) : Met l yX5_keyAt (ws_ yX5_keyAt cX5_keyAt 3 (some .int)) (rmN 4) (va_Pc [.ref (d 0), .int x, .int y] (pz D [(cI, .int), (cZ, .boolean)] (fun H => MdAt D cI cZ d S th H))) (Wq (some (.int (sp_keyAt S x y).2.1)) (fun H => MdAt D cI cZ d (sp_keyAt S x y).2.2 (nI (sp_keyAt S x y).1) H) (Ao d 9)) 0 0 (Ao d 9) := by
  have hbd2 : S.2.1 ≤ 40 := hI.2.2.2.1
  have hCC : ∀ cu, cu < 3 → ∀ y, S.2.2.1 cu = some y → y.1 < 4 := fun cu hcu y hy => by have h := hI.2.2.2.2.1 cu hcu; rw [hy] at h; exact h.1
  rcases bkn_cases 4 (by decide) x with ⟨b, hb4, rfl, hbk⟩ | ⟨hbk, hno⟩
  · have hN := hI.1 b hb4
    rcases bkn_cases (S.1 b).length (by omega) y with ⟨j, hj, rfl, hbj⟩ | ⟨hbj, hnoj⟩
    · skip
      have e9 : sp_keyAt S (nI (b)) (nI (j)) = (0, kf (S.1 b) j, S) := by simp [sp_keyAt, askP, hbk, hbj]
      rw [e9]
      refine m_start (by decide) (Nat.le_of_ble_eq_true rfl) ?_
      intro p e s m below meth c hx hb hr hG hown hlocks hml hB ls hl
      have hl : lv_has ls 3 [(0, .ref (d 0)), (1, .int (nI (b))), (2, .int (nI (j)))] := hl
      obtain ⟨hB0, hK⟩ := hB
      have hS : va_S (Ao d 9) s.heap s.heap [] := va_S.rf
      refine lv_aload_n hx hb dX5_keyAt_0 rfl (lv_at hl 0 rfl) ?_
      refine lv_iload_n hx hb dX5_keyAt_1 rfl (lv_at hl 1 rfl) ?_
      refine lv_iload_n hx hb dX5_keyAt_2 rfl (lv_at hl 2 rfl) ?_
      refine k1_V hx hb hml hown hG cs_X5_101 (c5_isPlace_t l D cI cZ d S th b (nI j) hb4 (rch_in hj (by omega))) (by decide) (pzV hK rfl hB0.rc hB0) rfl hl.1 rfl (Nat.le_of_ble_eq_true rfl) dX5_keyAt_3 ⟨Nat.zero_le _, Nat.zero_le _⟩ rfl ?_
      refine x_ifb_eq (tgt := 28) hx hb dX5_keyAt_6 (by decide) (fun zc1 => False.elim (by first | exact absurd zc1 (by decide) | omega | (simp_all; done))) (fun zc1 => ?_)
      refine lv_aload_n hx hb dX5_keyAt_9 rfl (lv_at hl 0 rfl) ?_
      refine lv_aload_n hx hb dX5_keyAt_10 rfl (lv_at hl 0 rfl) ?_
      obtain ⟨K, V, sz, cb, ck, ca, it, ou, hP, hMB, hMC, hMO⟩ := id hB0
      have hP : va_P D vwCl [(d 0, .inr (5, [.ref (d 1), .ref (d 2), .ref (d 3), .int (nI (S.2.1)), .int (th), .ref (d 4), .ref (d 5), .ref (d 6), .ref (d 7), .ref (d 8), .int (nI (S.2.2.2.length))])), (d 1, .inl (cI, (804, .inl K))), (d 2, .inl (cI, (804, .inl V))), (d 3, .inl (cI, (4, .inl sz))), (d 4, .inl (cI, (3, .inl cb))), (d 5, .inl (cI, (3, .inl ck))), (d 6, .inl (cI, (3, .inl ca))), (d 7, .inl (cZ, (3, .inl it))), (d 8, .inl (cI, (6000, .inl ou)))] s.heap := hP
      have hD : va_D (Ao d 9) [(d 0, .inr (5, [.ref (d 1), .ref (d 2), .ref (d 3), .int (nI (S.2.1)), .int (th), .ref (d 4), .ref (d 5), .ref (d 6), .ref (d 7), .ref (d 8), .int (nI (S.2.2.2.length))])), (d 1, .inl (cI, (804, .inl K))), (d 2, .inl (cI, (804, .inl V))), (d 3, .inl (cI, (4, .inl sz))), (d 4, .inl (cI, (3, .inl cb))), (d 5, .inl (cI, (3, .inl ck))), (d 6, .inl (cI, (3, .inl ca))), (d 7, .inl (cZ, (3, .inl it))), (d 8, .inl (cI, (6000, .inl ou)))] := hap.D9
      refine gf_X5_7 hx hb hG hown hK hP 0 rfl rfl dX5_keyAt_11 ?_
      refine lv_sipush (v := nI 201) hx hb dX5_keyAt_14 (by decide) ?_
      refine lv_iload_n hx hb dX5_keyAt_17 rfl (lv_at hl 1 rfl) ?_
      refine x_imul (v := nI (201 * b)) hx hb dX5_keyAt_18 (pk_mul _ _) ?_
      refine lv_iload_n hx hb dX5_keyAt_19 rfl (lv_at hl 2 rfl) ?_
      refine x_iadd (v := nI ((201 * b) + j)) hx hb dX5_keyAt_20 (nI_add _ _) ?_
      refine x_iald hx hb hK hP 1 0 rfl rfl (by omega) (by decide) dX5_keyAt_21 ?_
      rw [show K ((201 * b) + j) = kf (S.1 b) j from ((hMB b (by omega)).2.2 j (by omega)).1]
      refine k2_V hx hb hml hown hG cs_X5_65 (c5_told l D cI cZ d S th (kf (S.1 b) j) hap) (by decide) (pzV hK rfl hB0.rc hB0) rfl hl.1 rfl (Nat.le_of_ble_eq_true rfl) dX5_keyAt_22 ⟨Nat.zero_le _, Nat.zero_le _⟩ rfl hS (fun q h => h) (fun H locs hB0 hz hk hS => ?_)
      refine lv_goto (tgt := 33) hx hb dX5_keyAt_25 (by decide) ?_
      exact w_i (PB := (fun H => MdAt D cI cZ d S (nI 0) H)) rfl hB0 hS hx hb hr hlocks dX5_keyAt_33
    · skip
      have e9 : sp_keyAt S (nI (b)) y = (1, 0, S) := by simp [sp_keyAt, askP, hbk, hbj]
      rw [e9]
      refine m_start (by decide) (Nat.le_of_ble_eq_true rfl) ?_
      intro p e s m below meth c hx hb hr hG hown hlocks hml hB ls hl
      have hl : lv_has ls 3 [(0, .ref (d 0)), (1, .int (nI (b))), (2, .int (y))] := hl
      obtain ⟨hB0, hK⟩ := hB
      have hS : va_S (Ao d 9) s.heap s.heap [] := va_S.rf
      refine lv_aload_n hx hb dX5_keyAt_0 rfl (lv_at hl 0 rfl) ?_
      refine lv_iload_n hx hb dX5_keyAt_1 rfl (lv_at hl 1 rfl) ?_
      refine lv_iload_n hx hb dX5_keyAt_2 rfl (lv_at hl 2 rfl) ?_
      refine k1_V hx hb hml hown hG cs_X5_101 (c5_isPlace_f l D cI cZ d S th b y hb4 hnoj) (by decide) (pzV hK rfl hB0.rc hB0) rfl hl.1 rfl (Nat.le_of_ble_eq_true rfl) dX5_keyAt_3 ⟨Nat.zero_le _, Nat.zero_le _⟩ rfl ?_
      refine x_ifb_eq (tgt := 28) hx hb dX5_keyAt_6 (by decide) (fun zc1 => ?_) (fun zc1 => False.elim (by first | exact absurd zc1 (by decide) | omega | (simp_all; done)))
      refine lv_aload_n hx hb dX5_keyAt_28 rfl (lv_at hl 0 rfl) ?_
      refine lv_iconst (v := nI 1) hx hb dX5_keyAt_29 (by decide) ?_
      refine k2_V hx hb hml hown hG cs_X5_58 (c5_refuse l D cI cZ d S th 1 hap) (by decide) (pzV hK rfl hB0.rc hB0) rfl hl.1 rfl (Nat.le_of_ble_eq_true rfl) dX5_keyAt_30 ⟨Nat.zero_le _, Nat.zero_le _⟩ rfl hS (fun q h => h) (fun H locs hB0 hz hk hS => ?_)
      exact w_i (PB := (fun H => MdAt D cI cZ d S (nI 1) H)) rfl hB0 hS hx hb hr hlocks dX5_keyAt_33
  · skip
    have e9 : sp_keyAt S x y = (1, 0, S) := by simp [sp_keyAt, askP, hbk]
    rw [e9]
    refine m_start (by decide) (Nat.le_of_ble_eq_true rfl) ?_
    intro p e s m below meth c hx hb hr hG hown hlocks hml hB ls hl
    have hl : lv_has ls 3 [(0, .ref (d 0)), (1, .int (x)), (2, .int (y))] := hl
    obtain ⟨hB0, hK⟩ := hB
    have hS : va_S (Ao d 9) s.heap s.heap [] := va_S.rf
    refine lv_aload_n hx hb dX5_keyAt_0 rfl (lv_at hl 0 rfl) ?_
    refine lv_iload_n hx hb dX5_keyAt_1 rfl (lv_at hl 1 rfl) ?_
    refine lv_iload_n hx hb dX5_keyAt_2 rfl (lv_at hl 2 rfl) ?_
    refine k1_V hx hb hml hown hG cs_X5_101 (c5_isPlace_no l D cI cZ d S th x y hno) (by decide) (pzV hK rfl hB0.rc hB0) rfl hl.1 rfl (Nat.le_of_ble_eq_true rfl) dX5_keyAt_3 ⟨Nat.zero_le _, Nat.zero_le _⟩ rfl ?_
    refine x_ifb_eq (tgt := 28) hx hb dX5_keyAt_6 (by decide) (fun zc1 => ?_) (fun zc1 => False.elim (by first | exact absurd zc1 (by decide) | omega | (simp_all; done)))
    refine lv_aload_n hx hb dX5_keyAt_28 rfl (lv_at hl 0 rfl) ?_
    refine lv_iconst (v := nI 1) hx hb dX5_keyAt_29 (by decide) ?_
    refine k2_V hx hb hml hown hG cs_X5_58 (c5_refuse l D cI cZ d S th 1 hap) (by decide) (pzV hK rfl hB0.rc hB0) rfl hl.1 rfl (Nat.le_of_ble_eq_true rfl) dX5_keyAt_30 ⟨Nat.zero_le _, Nat.zero_le _⟩ rfl hS (fun q h => h) (fun H locs hB0 hz hk hS => ?_)
    exact w_i (PB := (fun H => MdAt D cI cZ d S (nI 1) H)) rfl hB0 hS hx hb hr hlocks dX5_keyAt_33
set_option maxHeartbeats 4000000 in
set_option maxRecDepth 100000 in
theorem m_valueAt (l : Launch) (D : va_G) (cI cZ : ClassId) (d : Nat → Nat) (S : St) (th : Int32) (x y : Int32) (hI : Inv S) (hap : Ap d 9) : Met l yX5_valueAt (ws_ yX5_valueAt cX5_valueAt 3 (some .int)) (rmN 4) (va_Pc [.ref (d 0), .int x, .int y] (pz D [(cI, .int), (cZ, .boolean)] (fun H => MdAt D cI cZ d S th H))) (Wq (some (.int (sp_valueAt S x y).2.1)) (fun H => MdAt D cI cZ d (sp_valueAt S x y).2.2 (nI (sp_valueAt S x y).1) H) (Ao d 9)) 0 0 (Ao d 9) := by
  have hbd2 : S.2.1 ≤ 40 := hI.2.2.2.1
  have hCC : ∀ cu, cu < 3 → ∀ y, S.2.2.1 cu = some y → y.1 < 4 := fun cu hcu y hy => by have h := hI.2.2.2.2.1 cu hcu; rw [hy] at h; exact h.1
  rcases bkn_cases 4 (by decide) x with ⟨b, hb4, rfl, hbk⟩ | ⟨hbk, hno⟩
  · have hN := hI.1 b hb4
    rcases bkn_cases (S.1 b).length (by omega) y with ⟨j, hj, rfl, hbj⟩ | ⟨hbj, hnoj⟩
    · skip
      have e9 : sp_valueAt S (nI (b)) (nI (j)) = (0, vf (S.1 b) j, S) := by simp [sp_valueAt, askP, hbk, hbj]
      rw [e9]
      refine m_start (by decide) (Nat.le_of_ble_eq_true rfl) ?_
      intro p e s m below meth c hx hb hr hG hown hlocks hml hB ls hl
      have hl : lv_has ls 3 [(0, .ref (d 0)), (1, .int (nI (b))), (2, .int (nI (j)))] := hl
      obtain ⟨hB0, hK⟩ := hB
      have hS : va_S (Ao d 9) s.heap s.heap [] := va_S.rf
      refine lv_aload_n hx hb dX5_valueAt_0 rfl (lv_at hl 0 rfl) ?_
      refine lv_iload_n hx hb dX5_valueAt_1 rfl (lv_at hl 1 rfl) ?_
      refine lv_iload_n hx hb dX5_valueAt_2 rfl (lv_at hl 2 rfl) ?_
      refine k1_V hx hb hml hown hG cs_X5_101 (c5_isPlace_t l D cI cZ d S th b (nI j) hb4 (rch_in hj (by omega))) (by decide) (pzV hK rfl hB0.rc hB0) rfl hl.1 rfl (Nat.le_of_ble_eq_true rfl) dX5_valueAt_3 ⟨Nat.zero_le _, Nat.zero_le _⟩ rfl ?_
      refine x_ifb_eq (tgt := 28) hx hb dX5_valueAt_6 (by decide) (fun zc1 => False.elim (by first | exact absurd zc1 (by decide) | omega | (simp_all; done))) (fun zc1 => ?_)
      refine lv_aload_n hx hb dX5_valueAt_9 rfl (lv_at hl 0 rfl) ?_
      refine lv_aload_n hx hb dX5_valueAt_10 rfl (lv_at hl 0 rfl) ?_
      obtain ⟨K, V, sz, cb, ck, ca, it, ou, hP, hMB, hMC, hMO⟩ := id hB0
      have hP : va_P D vwCl [(d 0, .inr (5, [.ref (d 1), .ref (d 2), .ref (d 3), .int (nI (S.2.1)), .int (th), .ref (d 4), .ref (d 5), .ref (d 6), .ref (d 7), .ref (d 8), .int (nI (S.2.2.2.length))])), (d 1, .inl (cI, (804, .inl K))), (d 2, .inl (cI, (804, .inl V))), (d 3, .inl (cI, (4, .inl sz))), (d 4, .inl (cI, (3, .inl cb))), (d 5, .inl (cI, (3, .inl ck))), (d 6, .inl (cI, (3, .inl ca))), (d 7, .inl (cZ, (3, .inl it))), (d 8, .inl (cI, (6000, .inl ou)))] s.heap := hP
      have hD : va_D (Ao d 9) [(d 0, .inr (5, [.ref (d 1), .ref (d 2), .ref (d 3), .int (nI (S.2.1)), .int (th), .ref (d 4), .ref (d 5), .ref (d 6), .ref (d 7), .ref (d 8), .int (nI (S.2.2.2.length))])), (d 1, .inl (cI, (804, .inl K))), (d 2, .inl (cI, (804, .inl V))), (d 3, .inl (cI, (4, .inl sz))), (d 4, .inl (cI, (3, .inl cb))), (d 5, .inl (cI, (3, .inl ck))), (d 6, .inl (cI, (3, .inl ca))), (d 7, .inl (cZ, (3, .inl it))), (d 8, .inl (cI, (6000, .inl ou)))] := hap.D9
      refine gf_X5_13 hx hb hG hown hK hP 0 rfl rfl dX5_valueAt_11 ?_
      refine lv_sipush (v := nI 201) hx hb dX5_valueAt_14 (by decide) ?_
      refine lv_iload_n hx hb dX5_valueAt_17 rfl (lv_at hl 1 rfl) ?_
      refine x_imul (v := nI (201 * b)) hx hb dX5_valueAt_18 (pk_mul _ _) ?_
      refine lv_iload_n hx hb dX5_valueAt_19 rfl (lv_at hl 2 rfl) ?_
      refine x_iadd (v := nI ((201 * b) + j)) hx hb dX5_valueAt_20 (nI_add _ _) ?_
      refine x_iald hx hb hK hP 2 0 rfl rfl (by omega) (by decide) dX5_valueAt_21 ?_
      rw [show V ((201 * b) + j) = vf (S.1 b) j from ((hMB b (by omega)).2.2 j (by omega)).2]
      refine k2_V hx hb hml hown hG cs_X5_65 (c5_told l D cI cZ d S th (vf (S.1 b) j) hap) (by decide) (pzV hK rfl hB0.rc hB0) rfl hl.1 rfl (Nat.le_of_ble_eq_true rfl) dX5_valueAt_22 ⟨Nat.zero_le _, Nat.zero_le _⟩ rfl hS (fun q h => h) (fun H locs hB0 hz hk hS => ?_)
      refine lv_goto (tgt := 33) hx hb dX5_valueAt_25 (by decide) ?_
      exact w_i (PB := (fun H => MdAt D cI cZ d S (nI 0) H)) rfl hB0 hS hx hb hr hlocks dX5_valueAt_33
    · skip
      have e9 : sp_valueAt S (nI (b)) y = (1, 0, S) := by simp [sp_valueAt, askP, hbk, hbj]
      rw [e9]
      refine m_start (by decide) (Nat.le_of_ble_eq_true rfl) ?_
      intro p e s m below meth c hx hb hr hG hown hlocks hml hB ls hl
      have hl : lv_has ls 3 [(0, .ref (d 0)), (1, .int (nI (b))), (2, .int (y))] := hl
      obtain ⟨hB0, hK⟩ := hB
      have hS : va_S (Ao d 9) s.heap s.heap [] := va_S.rf
      refine lv_aload_n hx hb dX5_valueAt_0 rfl (lv_at hl 0 rfl) ?_
      refine lv_iload_n hx hb dX5_valueAt_1 rfl (lv_at hl 1 rfl) ?_
      refine lv_iload_n hx hb dX5_valueAt_2 rfl (lv_at hl 2 rfl) ?_
      refine k1_V hx hb hml hown hG cs_X5_101 (c5_isPlace_f l D cI cZ d S th b y hb4 hnoj) (by decide) (pzV hK rfl hB0.rc hB0) rfl hl.1 rfl (Nat.le_of_ble_eq_true rfl) dX5_valueAt_3 ⟨Nat.zero_le _, Nat.zero_le _⟩ rfl ?_
      refine x_ifb_eq (tgt := 28) hx hb dX5_valueAt_6 (by decide) (fun zc1 => ?_) (fun zc1 => False.elim (by first | exact absurd zc1 (by decide) | omega | (simp_all; done)))
      refine lv_aload_n hx hb dX5_valueAt_28 rfl (lv_at hl 0 rfl) ?_
      refine lv_iconst (v := nI 1) hx hb dX5_valueAt_29 (by decide) ?_
      refine k2_V hx hb hml hown hG cs_X5_58 (c5_refuse l D cI cZ d S th 1 hap) (by decide) (pzV hK rfl hB0.rc hB0) rfl hl.1 rfl (Nat.le_of_ble_eq_true rfl) dX5_valueAt_30 ⟨Nat.zero_le _, Nat.zero_le _⟩ rfl hS (fun q h => h) (fun H locs hB0 hz hk hS => ?_)
      exact w_i (PB := (fun H => MdAt D cI cZ d S (nI 1) H)) rfl hB0 hS hx hb hr hlocks dX5_valueAt_33
  · skip
    have e9 : sp_valueAt S x y = (1, 0, S) := by simp [sp_valueAt, askP, hbk]
    rw [e9]
    refine m_start (by decide) (Nat.le_of_ble_eq_true rfl) ?_
    intro p e s m below meth c hx hb hr hG hown hlocks hml hB ls hl
    have hl : lv_has ls 3 [(0, .ref (d 0)), (1, .int (x)), (2, .int (y))] := hl
    obtain ⟨hB0, hK⟩ := hB
    have hS : va_S (Ao d 9) s.heap s.heap [] := va_S.rf
    refine lv_aload_n hx hb dX5_valueAt_0 rfl (lv_at hl 0 rfl) ?_
    refine lv_iload_n hx hb dX5_valueAt_1 rfl (lv_at hl 1 rfl) ?_
    refine lv_iload_n hx hb dX5_valueAt_2 rfl (lv_at hl 2 rfl) ?_
    refine k1_V hx hb hml hown hG cs_X5_101 (c5_isPlace_no l D cI cZ d S th x y hno) (by decide) (pzV hK rfl hB0.rc hB0) rfl hl.1 rfl (Nat.le_of_ble_eq_true rfl) dX5_valueAt_3 ⟨Nat.zero_le _, Nat.zero_le _⟩ rfl ?_
    refine x_ifb_eq (tgt := 28) hx hb dX5_valueAt_6 (by decide) (fun zc1 => ?_) (fun zc1 => False.elim (by first | exact absurd zc1 (by decide) | omega | (simp_all; done)))
    refine lv_aload_n hx hb dX5_valueAt_28 rfl (lv_at hl 0 rfl) ?_
    refine lv_iconst (v := nI 1) hx hb dX5_valueAt_29 (by decide) ?_
    refine k2_V hx hb hml hown hG cs_X5_58 (c5_refuse l D cI cZ d S th 1 hap) (by decide) (pzV hK rfl hB0.rc hB0) rfl hl.1 rfl (Nat.le_of_ble_eq_true rfl) dX5_valueAt_30 ⟨Nat.zero_le _, Nat.zero_le _⟩ rfl hS (fun q h => h) (fun H locs hB0 hz hk hS => ?_)
    exact w_i (PB := (fun H => MdAt D cI cZ d S (nI 1) H)) rfl hB0 hS hx hb hr hlocks dX5_valueAt_33
set_option maxHeartbeats 4000000 in
set_option maxRecDepth 100000 in
theorem m_bookOf (l : Launch) (D : va_G) (cI cZ : ClassId) (d : Nat → Nat) (S : St) (th : Int32) (x : Int32) (hI : Inv S) (hap : Ap d 9) : Met l yX5_bookOf (ws_ yX5_bookOf cX5_bookOf 2 (some .int)) (rmN 4) (va_Pc [.ref (d 0), .int x] (pz D [(cI, .int), (cZ, .boolean)] (fun H => MdAt D cI cZ d S th H))) (Wq (some (.int (sp_bookOf S x).2.1)) (fun H => MdAt D cI cZ d (sp_bookOf S x).2.2 (nI (sp_bookOf S x).1) H) (Ao d 9)) 0 0 (Ao d 9) := by
  have hbd2 : S.2.1 ≤ 40 := hI.2.2.2.1
  have hCC : ∀ cu, cu < 3 → ∀ y, S.2.2.1 cu = some y → y.1 < 4 := fun cu hcu y hy => by have h := hI.2.2.2.2.1 cu hcu; rw [hy] at h; exact h.1
  rcases bkn_cases 3 (by decide) x with ⟨cu, hc3, rfl, hbk⟩ | ⟨hbk, hno⟩
  · have hCu := hI.2.2.2.2.1 cu hc3
    cases hC : S.2.2.1 cu with
    | none =>
      have e9 : sp_bookOf S (nI (cu)) = (0, -1, S) := by simp [sp_bookOf, hbk, hC]
      rw [e9]
      refine m_start (by decide) (Nat.le_of_ble_eq_true rfl) ?_
      intro p e s m below meth c hx hb hr hG hown hlocks hml hB ls hl
      have hl : lv_has ls 2 [(0, .ref (d 0)), (1, .int (nI (cu)))] := hl
      obtain ⟨hB0, hK⟩ := hB
      have hS : va_S (Ao d 9) s.heap s.heap [] := va_S.rf
      obtain ⟨K, V, sz, cb, ck, ca, it, ou, hP, hMB, hMC, hMO⟩ := id hB0
      have hP : va_P D vwCl [(d 0, .inr (5, [.ref (d 1), .ref (d 2), .ref (d 3), .int (nI (S.2.1)), .int (th), .ref (d 4), .ref (d 5), .ref (d 6), .ref (d 7), .ref (d 8), .int (nI (S.2.2.2.length))])), (d 1, .inl (cI, (804, .inl K))), (d 2, .inl (cI, (804, .inl V))), (d 3, .inl (cI, (4, .inl sz))), (d 4, .inl (cI, (3, .inl cb))), (d 5, .inl (cI, (3, .inl ck))), (d 6, .inl (cI, (3, .inl ca))), (d 7, .inl (cZ, (3, .inl it))), (d 8, .inl (cI, (6000, .inl ou)))] s.heap := hP
      have hD : va_D (Ao d 9) [(d 0, .inr (5, [.ref (d 1), .ref (d 2), .ref (d 3), .int (nI (S.2.1)), .int (th), .ref (d 4), .ref (d 5), .ref (d 6), .ref (d 7), .ref (d 8), .int (nI (S.2.2.2.length))])), (d 1, .inl (cI, (804, .inl K))), (d 2, .inl (cI, (804, .inl V))), (d 3, .inl (cI, (4, .inl sz))), (d 4, .inl (cI, (3, .inl cb))), (d 5, .inl (cI, (3, .inl ck))), (d 6, .inl (cI, (3, .inl ca))), (d 7, .inl (cZ, (3, .inl it))), (d 8, .inl (cI, (6000, .inl ou)))] := hap.D9
      have hcb := MdQ_n (hMC cu (by omega)) hC
      refine lv_iload_n hx hb dX5_bookOf_0 rfl (lv_at hl 1 rfl) ?_
      refine k1_S hx hb hml hown hG cs_X5_92 (by have h := c5_isCursor l D (nI (cu)); rw [rch_in (by omega) (by decide)] at h; exact h) (by decide) (pzS (hK.sub (tys' := []) [] rfl) trivial) rfl hl.1 rfl (Nat.le_of_ble_eq_true rfl) dX5_bookOf_1 ⟨Nat.zero_le _, Nat.zero_le _⟩ rfl ?_
      refine x_ifb_eq (tgt := 20) hx hb dX5_bookOf_4 (by decide) (fun zc1 => False.elim (by first | exact absurd zc1 (by decide) | omega | (simp_all; done))) (fun zc1 => ?_)
      refine lv_aload_n hx hb dX5_bookOf_7 rfl (lv_at hl 0 rfl) ?_
      refine lv_aload_n hx hb dX5_bookOf_8 rfl (lv_at hl 0 rfl) ?_
      refine gf_X5_23 hx hb hG hown hK hP 0 rfl rfl dX5_bookOf_9 ?_
      refine lv_iload_n hx hb dX5_bookOf_12 rfl (lv_at hl 1 rfl) ?_
      refine x_iald hx hb hK hP 4 0 rfl rfl (by omega) (by decide) dX5_bookOf_13 ?_
      rw [hcb]
      refine k2_V hx hb hml hown hG cs_X5_65 (c5_told l D cI cZ d S th (-1) hap) (by decide) (pzV hK rfl hB0.rc hB0) rfl hl.1 rfl (Nat.le_of_ble_eq_true rfl) dX5_bookOf_14 ⟨Nat.zero_le _, Nat.zero_le _⟩ rfl hS (fun q h => h) (fun H locs hB0 hz hk hS => ?_)
      refine lv_goto (tgt := 25) hx hb dX5_bookOf_17 (by decide) ?_
      exact w_i (PB := (fun H => MdAt D cI cZ d S (nI 0) H)) rfl hB0 hS hx hb hr hlocks dX5_bookOf_25
    | some x9 =>
      obtain ⟨b, k, n, t⟩ := x9
      rw [hC] at hCu
      obtain ⟨hb4, hk3, hnl, ht1⟩ := hCu
      have hN := hI.1 b hb4
      have e9 : sp_bookOf S (nI (cu)) = (0, nI b, S) := by simp [sp_bookOf, hbk, hC]
      rw [e9]
      refine m_start (by decide) (Nat.le_of_ble_eq_true rfl) ?_
      intro p e s m below meth c hx hb hr hG hown hlocks hml hB ls hl
      have hl : lv_has ls 2 [(0, .ref (d 0)), (1, .int (nI (cu)))] := hl
      obtain ⟨hB0, hK⟩ := hB
      have hS : va_S (Ao d 9) s.heap s.heap [] := va_S.rf
      obtain ⟨K, V, sz, cb, ck, ca, it, ou, hP, hMB, hMC, hMO⟩ := id hB0
      have hP : va_P D vwCl [(d 0, .inr (5, [.ref (d 1), .ref (d 2), .ref (d 3), .int (nI (S.2.1)), .int (th), .ref (d 4), .ref (d 5), .ref (d 6), .ref (d 7), .ref (d 8), .int (nI (S.2.2.2.length))])), (d 1, .inl (cI, (804, .inl K))), (d 2, .inl (cI, (804, .inl V))), (d 3, .inl (cI, (4, .inl sz))), (d 4, .inl (cI, (3, .inl cb))), (d 5, .inl (cI, (3, .inl ck))), (d 6, .inl (cI, (3, .inl ca))), (d 7, .inl (cZ, (3, .inl it))), (d 8, .inl (cI, (6000, .inl ou)))] s.heap := hP
      have hD : va_D (Ao d 9) [(d 0, .inr (5, [.ref (d 1), .ref (d 2), .ref (d 3), .int (nI (S.2.1)), .int (th), .ref (d 4), .ref (d 5), .ref (d 6), .ref (d 7), .ref (d 8), .int (nI (S.2.2.2.length))])), (d 1, .inl (cI, (804, .inl K))), (d 2, .inl (cI, (804, .inl V))), (d 3, .inl (cI, (4, .inl sz))), (d 4, .inl (cI, (3, .inl cb))), (d 5, .inl (cI, (3, .inl ck))), (d 6, .inl (cI, (3, .inl ca))), (d 7, .inl (cZ, (3, .inl it))), (d 8, .inl (cI, (6000, .inl ou)))] := hap.D9
      obtain ⟨hcb, hck, hca, hit⟩ := MdQ_w (hMC cu (by omega)) b k n t hC
      refine lv_iload_n hx hb dX5_bookOf_0 rfl (lv_at hl 1 rfl) ?_
      refine k1_S hx hb hml hown hG cs_X5_92 (by have h := c5_isCursor l D (nI (cu)); rw [rch_in (by omega) (by decide)] at h; exact h) (by decide) (pzS (hK.sub (tys' := []) [] rfl) trivial) rfl hl.1 rfl (Nat.le_of_ble_eq_true rfl) dX5_bookOf_1 ⟨Nat.zero_le _, Nat.zero_le _⟩ rfl ?_
      refine x_ifb_eq (tgt := 20) hx hb dX5_bookOf_4 (by decide) (fun zc1 => False.elim (by first | exact absurd zc1 (by decide) | omega | (simp_all; done))) (fun zc1 => ?_)
      refine lv_aload_n hx hb dX5_bookOf_7 rfl (lv_at hl 0 rfl) ?_
      refine lv_aload_n hx hb dX5_bookOf_8 rfl (lv_at hl 0 rfl) ?_
      refine gf_X5_23 hx hb hG hown hK hP 0 rfl rfl dX5_bookOf_9 ?_
      refine lv_iload_n hx hb dX5_bookOf_12 rfl (lv_at hl 1 rfl) ?_
      refine x_iald hx hb hK hP 4 0 rfl rfl (by omega) (by decide) dX5_bookOf_13 ?_
      rw [hcb]
      refine k2_V hx hb hml hown hG cs_X5_65 (c5_told l D cI cZ d S th (nI (b)) hap) (by decide) (pzV hK rfl hB0.rc hB0) rfl hl.1 rfl (Nat.le_of_ble_eq_true rfl) dX5_bookOf_14 ⟨Nat.zero_le _, Nat.zero_le _⟩ rfl hS (fun q h => h) (fun H locs hB0 hz hk hS => ?_)
      refine lv_goto (tgt := 25) hx hb dX5_bookOf_17 (by decide) ?_
      exact w_i (PB := (fun H => MdAt D cI cZ d S (nI 0) H)) rfl hB0 hS hx hb hr hlocks dX5_bookOf_25
  · skip
    have e9 : sp_bookOf S x = (1, 0, S) := by simp [sp_bookOf, hbk]
    rw [e9]
    refine m_start (by decide) (Nat.le_of_ble_eq_true rfl) ?_
    intro p e s m below meth c hx hb hr hG hown hlocks hml hB ls hl
    have hl : lv_has ls 2 [(0, .ref (d 0)), (1, .int (x))] := hl
    obtain ⟨hB0, hK⟩ := hB
    have hS : va_S (Ao d 9) s.heap s.heap [] := va_S.rf
    refine lv_iload_n hx hb dX5_bookOf_0 rfl (lv_at hl 1 rfl) ?_
    refine k1_S hx hb hml hown hG cs_X5_92 (by have h := c5_isCursor l D x; rw [hno] at h; exact h) (by decide) (pzS (hK.sub (tys' := []) [] rfl) trivial) rfl hl.1 rfl (Nat.le_of_ble_eq_true rfl) dX5_bookOf_1 ⟨Nat.zero_le _, Nat.zero_le _⟩ rfl ?_
    refine x_ifb_eq (tgt := 20) hx hb dX5_bookOf_4 (by decide) (fun zc1 => ?_) (fun zc1 => False.elim (by first | exact absurd zc1 (by decide) | omega | (simp_all; done)))
    refine lv_aload_n hx hb dX5_bookOf_20 rfl (lv_at hl 0 rfl) ?_
    refine lv_iconst (v := nI 1) hx hb dX5_bookOf_21 (by decide) ?_
    refine k2_V hx hb hml hown hG cs_X5_58 (c5_refuse l D cI cZ d S th 1 hap) (by decide) (pzV hK rfl hB0.rc hB0) rfl hl.1 rfl (Nat.le_of_ble_eq_true rfl) dX5_bookOf_22 ⟨Nat.zero_le _, Nat.zero_le _⟩ rfl hS (fun q h => h) (fun H locs hB0 hz hk hS => ?_)
    exact w_i (PB := (fun H => MdAt D cI cZ d S (nI 1) H)) rfl hB0 hS hx hb hr hlocks dX5_bookOf_25
set_option maxHeartbeats 4000000 in
set_option maxRecDepth 100000 in
theorem m_hasNext (l : Launch) (D : va_G) (cI cZ : ClassId) (d : Nat → Nat) (S : St) (th : Int32) (x : Int32) (hI : Inv S) (hap : Ap d 9) : Met l yX5_hasNext (ws_ yX5_hasNext cX5_hasNext 2 (some .boolean)) (rmN 4) (va_Pc [.ref (d 0), .int x] (pz D [(cI, .int), (cZ, .boolean)] (fun H => MdAt D cI cZ d S th H))) (Wq (some (.int (bI (sp_hasNext S x).2.1))) (fun H => MdAt D cI cZ d (sp_hasNext S x).2.2 (nI (sp_hasNext S x).1) H) (Ao d 9)) 0 0 (Ao d 9) := by
  have hbd2 : S.2.1 ≤ 40 := hI.2.2.2.1
  have hCC : ∀ cu, cu < 3 → ∀ y, S.2.2.1 cu = some y → y.1 < 4 := fun cu hcu y hy => by have h := hI.2.2.2.2.1 cu hcu; rw [hy] at h; exact h.1
  rcases bkn_cases 3 (by decide) x with ⟨cu, hc3, rfl, hbk⟩ | ⟨hbk, hno⟩
  · have hCu := hI.2.2.2.2.1 cu hc3
    cases hC : S.2.2.1 cu with
    | none =>
      have e9 : sp_hasNext S (nI (cu)) = (2, false, S) := by simp [sp_hasNext, hbk, hC]
      rw [e9]
      refine m_start (by decide) (Nat.le_of_ble_eq_true rfl) ?_
      intro p e s m below meth c hx hb hr hG hown hlocks hml hB ls hl
      have hl : lv_has ls 2 [(0, .ref (d 0)), (1, .int (nI (cu)))] := hl
      obtain ⟨hB0, hK⟩ := hB
      have hS : va_S (Ao d 9) s.heap s.heap [] := va_S.rf
      obtain ⟨K, V, sz, cb, ck, ca, it, ou, hP, hMB, hMC, hMO⟩ := id hB0
      have hP : va_P D vwCl [(d 0, .inr (5, [.ref (d 1), .ref (d 2), .ref (d 3), .int (nI (S.2.1)), .int (th), .ref (d 4), .ref (d 5), .ref (d 6), .ref (d 7), .ref (d 8), .int (nI (S.2.2.2.length))])), (d 1, .inl (cI, (804, .inl K))), (d 2, .inl (cI, (804, .inl V))), (d 3, .inl (cI, (4, .inl sz))), (d 4, .inl (cI, (3, .inl cb))), (d 5, .inl (cI, (3, .inl ck))), (d 6, .inl (cI, (3, .inl ca))), (d 7, .inl (cZ, (3, .inl it))), (d 8, .inl (cI, (6000, .inl ou)))] s.heap := hP
      have hD : va_D (Ao d 9) [(d 0, .inr (5, [.ref (d 1), .ref (d 2), .ref (d 3), .int (nI (S.2.1)), .int (th), .ref (d 4), .ref (d 5), .ref (d 6), .ref (d 7), .ref (d 8), .int (nI (S.2.2.2.length))])), (d 1, .inl (cI, (804, .inl K))), (d 2, .inl (cI, (804, .inl V))), (d 3, .inl (cI, (4, .inl sz))), (d 4, .inl (cI, (3, .inl cb))), (d 5, .inl (cI, (3, .inl ck))), (d 6, .inl (cI, (3, .inl ca))), (d 7, .inl (cZ, (3, .inl it))), (d 8, .inl (cI, (6000, .inl ou)))] := hap.D9
      have hcb := MdQ_n (hMC cu (by omega)) hC
      refine lv_iload_n hx hb dX5_hasNext_0 rfl (lv_at hl 1 rfl) ?_
      refine k1_S hx hb hml hown hG cs_X5_92 (by have h := c5_isCursor l D (nI (cu)); rw [rch_in (by omega) (by decide)] at h; exact h) (by decide) (pzS (hK.sub (tys' := []) [] rfl) trivial) rfl hl.1 rfl (Nat.le_of_ble_eq_true rfl) dX5_hasNext_1 ⟨Nat.zero_le _, Nat.zero_le _⟩ rfl ?_
      refine x_ifb_ne (tgt := 13) hx hb dX5_hasNext_4 (by decide) (fun zc1 => ?_) (fun zc1 => False.elim (by first | exact absurd zc1 (by decide) | omega | (simp_all; done)))
      refine lv_aload_n hx hb dX5_hasNext_13 rfl (lv_at hl 0 rfl) ?_
      refine lv_iload_n hx hb dX5_hasNext_14 rfl (lv_at hl 1 rfl) ?_
      refine k1_V hx hb hml hown hG cs_X5_95 (c5_isOpen_f l D cI cZ d S th cu (by omega) hC) (by decide) (pzV hK rfl hB0.rc hB0) rfl hl.1 rfl (Nat.le_of_ble_eq_true rfl) dX5_hasNext_15 ⟨Nat.zero_le _, Nat.zero_le _⟩ rfl ?_
      refine x_ifb_eq (tgt := 53) hx hb dX5_hasNext_18 (by decide) (fun zc2 => ?_) (fun zc2 => False.elim (by first | exact absurd zc2 (by decide) | omega | (simp_all; done)))
      refine lv_aload_n hx hb dX5_hasNext_53 rfl (lv_at hl 0 rfl) ?_
      refine lv_iconst (v := nI 2) hx hb dX5_hasNext_54 (by decide) ?_
      refine k2_V hx hb hml hown hG cs_X5_72 (c5_denies l D cI cZ d S th 2 hap) (by decide) (pzV hK rfl hB0.rc hB0) rfl hl.1 rfl (Nat.le_of_ble_eq_true rfl) dX5_hasNext_55 ⟨Nat.zero_le _, Nat.zero_le _⟩ rfl hS (fun q h => h) (fun H locs hB0 hz hk hS => ?_)
      exact w_z (PB := (fun H => MdAt D cI cZ d S (nI 2) H)) rfl hB0 hS hx hb hr hlocks dX5_hasNext_58
    | some x9 =>
      obtain ⟨b, k, n, t⟩ := x9
      rw [hC] at hCu
      obtain ⟨hb4, hk3, hnl, ht1⟩ := hCu
      have hN := hI.1 b hb4
      by_cases hlt : n < (S.1 b).length
      · skip
        have e9 : sp_hasNext S (nI (cu)) = (0, true, S) := by simp [sp_hasNext, hbk, hC, hlt]
        rw [e9]
        refine m_start (by decide) (Nat.le_of_ble_eq_true rfl) ?_
        intro p e s m below meth c hx hb hr hG hown hlocks hml hB ls hl
        have hl : lv_has ls 2 [(0, .ref (d 0)), (1, .int (nI (cu)))] := hl
        obtain ⟨hB0, hK⟩ := hB
        have hS : va_S (Ao d 9) s.heap s.heap [] := va_S.rf
        obtain ⟨K, V, sz, cb, ck, ca, it, ou, hP, hMB, hMC, hMO⟩ := id hB0
        have hP : va_P D vwCl [(d 0, .inr (5, [.ref (d 1), .ref (d 2), .ref (d 3), .int (nI (S.2.1)), .int (th), .ref (d 4), .ref (d 5), .ref (d 6), .ref (d 7), .ref (d 8), .int (nI (S.2.2.2.length))])), (d 1, .inl (cI, (804, .inl K))), (d 2, .inl (cI, (804, .inl V))), (d 3, .inl (cI, (4, .inl sz))), (d 4, .inl (cI, (3, .inl cb))), (d 5, .inl (cI, (3, .inl ck))), (d 6, .inl (cI, (3, .inl ca))), (d 7, .inl (cZ, (3, .inl it))), (d 8, .inl (cI, (6000, .inl ou)))] s.heap := hP
        have hD : va_D (Ao d 9) [(d 0, .inr (5, [.ref (d 1), .ref (d 2), .ref (d 3), .int (nI (S.2.1)), .int (th), .ref (d 4), .ref (d 5), .ref (d 6), .ref (d 7), .ref (d 8), .int (nI (S.2.2.2.length))])), (d 1, .inl (cI, (804, .inl K))), (d 2, .inl (cI, (804, .inl V))), (d 3, .inl (cI, (4, .inl sz))), (d 4, .inl (cI, (3, .inl cb))), (d 5, .inl (cI, (3, .inl ck))), (d 6, .inl (cI, (3, .inl ca))), (d 7, .inl (cZ, (3, .inl it))), (d 8, .inl (cI, (6000, .inl ou)))] := hap.D9
        obtain ⟨hcb, hck, hca, hit⟩ := MdQ_w (hMC cu (by omega)) b k n t hC
        refine lv_iload_n hx hb dX5_hasNext_0 rfl (lv_at hl 1 rfl) ?_
        refine k1_S hx hb hml hown hG cs_X5_92 (by have h := c5_isCursor l D (nI (cu)); rw [rch_in (by omega) (by decide)] at h; exact h) (by decide) (pzS (hK.sub (tys' := []) [] rfl) trivial) rfl hl.1 rfl (Nat.le_of_ble_eq_true rfl) dX5_hasNext_1 ⟨Nat.zero_le _, Nat.zero_le _⟩ rfl ?_
        refine x_ifb_ne (tgt := 13) hx hb dX5_hasNext_4 (by decide) (fun zc1 => ?_) (fun zc1 => False.elim (by first | exact absurd zc1 (by decide) | omega | (simp_all; done)))
        refine lv_aload_n hx hb dX5_hasNext_13 rfl (lv_at hl 0 rfl) ?_
        refine lv_iload_n hx hb dX5_hasNext_14 rfl (lv_at hl 1 rfl) ?_
        refine k1_V hx hb hml hown hG cs_X5_95 (c5_isOpen_t l D cI cZ d S th cu b k n t (by omega) hC (by omega)) (by decide) (pzV hK rfl hB0.rc hB0) rfl hl.1 rfl (Nat.le_of_ble_eq_true rfl) dX5_hasNext_15 ⟨Nat.zero_le _, Nat.zero_le _⟩ rfl ?_
        refine x_ifb_eq (tgt := 53) hx hb dX5_hasNext_18 (by decide) (fun zc2 => False.elim (by first | exact absurd zc2 (by decide) | omega | (simp_all; done))) (fun zc2 => ?_)
        refine lv_aload_n hx hb dX5_hasNext_21 rfl (lv_at hl 0 rfl) ?_
        refine lv_aload_n hx hb dX5_hasNext_22 rfl (lv_at hl 0 rfl) ?_
        refine gf_X5_29 hx hb hG hown hK hP 0 rfl rfl dX5_hasNext_23 ?_
        refine lv_iload_n hx hb dX5_hasNext_26 rfl (lv_at hl 1 rfl) ?_
        refine x_iald hx hb hK hP 6 0 rfl rfl (by omega) (by decide) dX5_hasNext_27 ?_
        rw [hca]
        refine lv_aload_n hx hb dX5_hasNext_28 rfl (lv_at hl 0 rfl) ?_
        refine gf_X5_16 hx hb hG hown hK hP 0 rfl rfl dX5_hasNext_29 ?_
        refine lv_aload_n hx hb dX5_hasNext_32 rfl (lv_at hl 0 rfl) ?_
        refine gf_X5_23 hx hb hG hown hK hP 0 rfl rfl dX5_hasNext_33 ?_
        refine lv_iload_n hx hb dX5_hasNext_36 rfl (lv_at hl 1 rfl) ?_
        refine x_iald hx hb hK hP 4 0 rfl rfl (by omega) (by decide) dX5_hasNext_37 ?_
        rw [hcb]
        refine x_iald hx hb hK hP 3 0 rfl rfl (by omega) (by decide) dX5_hasNext_38 ?_
        rw [(hMB (b) (by omega)).1]
        refine x_cmp_ge (tgt := 46) hx hb dX5_hasNext_39 (by decide) (by omega) (by omega) (fun zc3 => False.elim (by first | omega | contradiction | exact absurd zc3 (m1_ne _ (by omega)) | exact absurd zc3 (by decide) | exact absurd (Eq.symm zc3) (m1_ne _ (by omega)) | (simp_all; done))) (fun zc3 => ?_)
        refine lv_iconst (v := nI 1) hx hb dX5_hasNext_42 (by decide) ?_
        refine lv_goto (tgt := 47) hx hb dX5_hasNext_43 (by decide) ?_
        refine k2_V hx hb hml hown hG cs_X5_82 (c5_says l D cI cZ d S th true hap) (by decide) (pzV hK rfl hB0.rc hB0) rfl hl.1 rfl (Nat.le_of_ble_eq_true rfl) dX5_hasNext_47 ⟨Nat.zero_le _, Nat.zero_le _⟩ rfl hS (fun q h => h) (fun H locs hB0 hz hk hS => ?_)
        refine lv_goto (tgt := 58) hx hb dX5_hasNext_50 (by decide) ?_
        exact w_z (PB := (fun H => MdAt D cI cZ d S (nI 0) H)) rfl hB0 hS hx hb hr hlocks dX5_hasNext_58
      · skip
        have e9 : sp_hasNext S (nI (cu)) = (0, false, S) := by simp [sp_hasNext, hbk, hC, hlt]
        rw [e9]
        refine m_start (by decide) (Nat.le_of_ble_eq_true rfl) ?_
        intro p e s m below meth c hx hb hr hG hown hlocks hml hB ls hl
        have hl : lv_has ls 2 [(0, .ref (d 0)), (1, .int (nI (cu)))] := hl
        obtain ⟨hB0, hK⟩ := hB
        have hS : va_S (Ao d 9) s.heap s.heap [] := va_S.rf
        obtain ⟨K, V, sz, cb, ck, ca, it, ou, hP, hMB, hMC, hMO⟩ := id hB0
        have hP : va_P D vwCl [(d 0, .inr (5, [.ref (d 1), .ref (d 2), .ref (d 3), .int (nI (S.2.1)), .int (th), .ref (d 4), .ref (d 5), .ref (d 6), .ref (d 7), .ref (d 8), .int (nI (S.2.2.2.length))])), (d 1, .inl (cI, (804, .inl K))), (d 2, .inl (cI, (804, .inl V))), (d 3, .inl (cI, (4, .inl sz))), (d 4, .inl (cI, (3, .inl cb))), (d 5, .inl (cI, (3, .inl ck))), (d 6, .inl (cI, (3, .inl ca))), (d 7, .inl (cZ, (3, .inl it))), (d 8, .inl (cI, (6000, .inl ou)))] s.heap := hP
        have hD : va_D (Ao d 9) [(d 0, .inr (5, [.ref (d 1), .ref (d 2), .ref (d 3), .int (nI (S.2.1)), .int (th), .ref (d 4), .ref (d 5), .ref (d 6), .ref (d 7), .ref (d 8), .int (nI (S.2.2.2.length))])), (d 1, .inl (cI, (804, .inl K))), (d 2, .inl (cI, (804, .inl V))), (d 3, .inl (cI, (4, .inl sz))), (d 4, .inl (cI, (3, .inl cb))), (d 5, .inl (cI, (3, .inl ck))), (d 6, .inl (cI, (3, .inl ca))), (d 7, .inl (cZ, (3, .inl it))), (d 8, .inl (cI, (6000, .inl ou)))] := hap.D9
        obtain ⟨hcb, hck, hca, hit⟩ := MdQ_w (hMC cu (by omega)) b k n t hC
        refine lv_iload_n hx hb dX5_hasNext_0 rfl (lv_at hl 1 rfl) ?_
        refine k1_S hx hb hml hown hG cs_X5_92 (by have h := c5_isCursor l D (nI (cu)); rw [rch_in (by omega) (by decide)] at h; exact h) (by decide) (pzS (hK.sub (tys' := []) [] rfl) trivial) rfl hl.1 rfl (Nat.le_of_ble_eq_true rfl) dX5_hasNext_1 ⟨Nat.zero_le _, Nat.zero_le _⟩ rfl ?_
        refine x_ifb_ne (tgt := 13) hx hb dX5_hasNext_4 (by decide) (fun zc1 => ?_) (fun zc1 => False.elim (by first | exact absurd zc1 (by decide) | omega | (simp_all; done)))
        refine lv_aload_n hx hb dX5_hasNext_13 rfl (lv_at hl 0 rfl) ?_
        refine lv_iload_n hx hb dX5_hasNext_14 rfl (lv_at hl 1 rfl) ?_
        refine k1_V hx hb hml hown hG cs_X5_95 (c5_isOpen_t l D cI cZ d S th cu b k n t (by omega) hC (by omega)) (by decide) (pzV hK rfl hB0.rc hB0) rfl hl.1 rfl (Nat.le_of_ble_eq_true rfl) dX5_hasNext_15 ⟨Nat.zero_le _, Nat.zero_le _⟩ rfl ?_
        refine x_ifb_eq (tgt := 53) hx hb dX5_hasNext_18 (by decide) (fun zc2 => False.elim (by first | exact absurd zc2 (by decide) | omega | (simp_all; done))) (fun zc2 => ?_)
        refine lv_aload_n hx hb dX5_hasNext_21 rfl (lv_at hl 0 rfl) ?_
        refine lv_aload_n hx hb dX5_hasNext_22 rfl (lv_at hl 0 rfl) ?_
        refine gf_X5_29 hx hb hG hown hK hP 0 rfl rfl dX5_hasNext_23 ?_
        refine lv_iload_n hx hb dX5_hasNext_26 rfl (lv_at hl 1 rfl) ?_
        refine x_iald hx hb hK hP 6 0 rfl rfl (by omega) (by decide) dX5_hasNext_27 ?_
        rw [hca]
        refine lv_aload_n hx hb dX5_hasNext_28 rfl (lv_at hl 0 rfl) ?_
        refine gf_X5_16 hx hb hG hown hK hP 0 rfl rfl dX5_hasNext_29 ?_
        refine lv_aload_n hx hb dX5_hasNext_32 rfl (lv_at hl 0 rfl) ?_
        refine gf_X5_23 hx hb hG hown hK hP 0 rfl rfl dX5_hasNext_33 ?_
        refine lv_iload_n hx hb dX5_hasNext_36 rfl (lv_at hl 1 rfl) ?_
        refine x_iald hx hb hK hP 4 0 rfl rfl (by omega) (by decide) dX5_hasNext_37 ?_
        rw [hcb]
        refine x_iald hx hb hK hP 3 0 rfl rfl (by omega) (by decide) dX5_hasNext_38 ?_
        rw [(hMB (b) (by omega)).1]
        refine x_cmp_ge (tgt := 46) hx hb dX5_hasNext_39 (by decide) (by omega) (by omega) (fun zc3 => ?_) (fun zc3 => False.elim (by first | omega | contradiction | exact absurd zc3 (m1_ne _ (by omega)) | exact absurd zc3 (by decide) | exact absurd (Eq.symm zc3) (m1_ne _ (by omega)) | (simp_all; done)))
        refine lv_iconst (v := nI 0) hx hb dX5_hasNext_46 (by decide) ?_
        refine k2_V hx hb hml hown hG cs_X5_82 (c5_says l D cI cZ d S th false hap) (by decide) (pzV hK rfl hB0.rc hB0) rfl hl.1 rfl (Nat.le_of_ble_eq_true rfl) dX5_hasNext_47 ⟨Nat.zero_le _, Nat.zero_le _⟩ rfl hS (fun q h => h) (fun H locs hB0 hz hk hS => ?_)
        refine lv_goto (tgt := 58) hx hb dX5_hasNext_50 (by decide) ?_
        exact w_z (PB := (fun H => MdAt D cI cZ d S (nI 0) H)) rfl hB0 hS hx hb hr hlocks dX5_hasNext_58
  · skip
    have e9 : sp_hasNext S x = (1, false, S) := by simp [sp_hasNext, hbk]
    rw [e9]
    refine m_start (by decide) (Nat.le_of_ble_eq_true rfl) ?_
    intro p e s m below meth c hx hb hr hG hown hlocks hml hB ls hl
    have hl : lv_has ls 2 [(0, .ref (d 0)), (1, .int (x))] := hl
    obtain ⟨hB0, hK⟩ := hB
    have hS : va_S (Ao d 9) s.heap s.heap [] := va_S.rf
    refine lv_iload_n hx hb dX5_hasNext_0 rfl (lv_at hl 1 rfl) ?_
    refine k1_S hx hb hml hown hG cs_X5_92 (by have h := c5_isCursor l D x; rw [hno] at h; exact h) (by decide) (pzS (hK.sub (tys' := []) [] rfl) trivial) rfl hl.1 rfl (Nat.le_of_ble_eq_true rfl) dX5_hasNext_1 ⟨Nat.zero_le _, Nat.zero_le _⟩ rfl ?_
    refine x_ifb_ne (tgt := 13) hx hb dX5_hasNext_4 (by decide) (fun zc1 => False.elim (by first | exact absurd zc1 (by decide) | omega | (simp_all; done))) (fun zc1 => ?_)
    refine lv_aload_n hx hb dX5_hasNext_7 rfl (lv_at hl 0 rfl) ?_
    refine lv_iconst (v := nI 1) hx hb dX5_hasNext_8 (by decide) ?_
    refine k2_V hx hb hml hown hG cs_X5_72 (c5_denies l D cI cZ d S th 1 hap) (by decide) (pzV hK rfl hB0.rc hB0) rfl hl.1 rfl (Nat.le_of_ble_eq_true rfl) dX5_hasNext_9 ⟨Nat.zero_le _, Nat.zero_le _⟩ rfl hS (fun q h => h) (fun H locs hB0 hz hk hS => ?_)
    exact w_z (PB := (fun H => MdAt D cI cZ d S (nI 1) H)) rfl hB0 hS hx hb hr hlocks dX5_hasNext_12
theorem MdC.put {C : Nat → Cu} {cb ck ca it : Nat → Int32} (h : MdC C cb ck ca it) {cu : Nat} (hc : cu < 3) (x : Nat × Nat × Nat × Bool) : MdC (va_up C cu x) (upd cb cu (nI x.1)) (upd ck cu (nI x.2.1)) (upd ca cu (nI x.2.2.1)) (upd it cu (bI x.2.2.2)) := fun c hc' => by
  rw [up_at, upd_at, upd_at, upd_at, upd_at]
  by_cases e : c = cu
  · rw [if_pos e, if_pos e, if_pos e, if_pos e, if_pos e]; exact ⟨rfl, rfl, rfl, rfl⟩
  · rw [if_neg e, if_neg e, if_neg e, if_neg e, if_neg e]; exact h c hc'
theorem upd_same {f : Nat → Int32} {i : Nat} {x : Int32} (h : f i = x) : upd f i x = f := by
  funext j
  rw [upd_at]
  by_cases e : j = i
  · subst e; rw [if_pos rfl, h]
  · rw [if_neg e]
set_option maxHeartbeats 4000000 in
set_option maxRecDepth 100000 in
theorem m_open (l : Launch) (D : va_G) (cI cZ : ClassId) (d : Nat → Nat) (S : St) (th : Int32) (x y z : Int32) (hI : Inv S) (hap : Ap d 9) : Met l yX5_open (ws_ yX5_open cX5_open 4 (some .int)) (rmN 4) (va_Pc [.ref (d 0), .int x, .int y, .int z] (pz D [(cI, .int), (cZ, .boolean)] (fun H => MdAt D cI cZ d S th H))) (Wq (some (.int (sp_open S x y z).2.1)) (fun H => MdAt D cI cZ d (sp_open S x y z).2.2 (nI (sp_open S x y z).1) H) (Ao d 9)) 0 0 (Ao d 9) := by
  have hbd2 : S.2.1 ≤ 40 := hI.2.2.2.1
  have hCC : ∀ cu, cu < 3 → ∀ y, S.2.2.1 cu = some y → y.1 < 4 := fun cu hcu y hy => by have h := hI.2.2.2.2.1 cu hcu; rw [hy] at h; exact h.1
  rcases bkn_cases 3 (by decide) x with ⟨cu, hc3, rfl, hbx⟩ | ⟨hbx, hnox⟩
  · rcases bkn_cases 4 (by decide) y with ⟨b, hb4, rfl, hby⟩ | ⟨hby, hnoy⟩
    · have hN := hI.1 b hb4
      rcases bkn_cases 3 (by decide) z with ⟨k, hk3, rfl, hbz⟩ | ⟨hbz, hnoz⟩
      · skip
        have e9 : sp_open S (nI (cu)) (nI (b)) (nI (k)) = (0, nI (S.1 b).length, stC S cu (some (b, k, 0, false))) := by simp [sp_open, hbx, hby, hbz]
        rw [e9]
        refine m_start (by decide) (Nat.le_of_ble_eq_true rfl) ?_
        intro p e s m below meth c hx hb hr hG hown hlocks hml hB ls hl
        have hl : lv_has ls 4 [(0, .ref (d 0)), (1, .int (nI (cu))), (2, .int (nI (b))), (3, .int (nI (k)))] := hl
        obtain ⟨hB0, hK⟩ := hB
        have hS : va_S (Ao d 9) s.heap s.heap [] := va_S.rf
        obtain ⟨K, V, sz, cb, ck, ca, it, ou, hP, hMB, hMC, hMO⟩ := id hB0
        have hP : va_P D vwCl [(d 0, .inr (5, [.ref (d 1), .ref (d 2), .ref (d 3), .int (nI (S.2.1)), .int (th), .ref (d 4), .ref (d 5), .ref (d 6), .ref (d 7), .ref (d 8), .int (nI (S.2.2.2.length))])), (d 1, .inl (cI, (804, .inl K))), (d 2, .inl (cI, (804, .inl V))), (d 3, .inl (cI, (4, .inl sz))), (d 4, .inl (cI, (3, .inl cb))), (d 5, .inl (cI, (3, .inl ck))), (d 6, .inl (cI, (3, .inl ca))), (d 7, .inl (cZ, (3, .inl it))), (d 8, .inl (cI, (6000, .inl ou)))] s.heap := hP
        have hD : va_D (Ao d 9) [(d 0, .inr (5, [.ref (d 1), .ref (d 2), .ref (d 3), .int (nI (S.2.1)), .int (th), .ref (d 4), .ref (d 5), .ref (d 6), .ref (d 7), .ref (d 8), .int (nI (S.2.2.2.length))])), (d 1, .inl (cI, (804, .inl K))), (d 2, .inl (cI, (804, .inl V))), (d 3, .inl (cI, (4, .inl sz))), (d 4, .inl (cI, (3, .inl cb))), (d 5, .inl (cI, (3, .inl ck))), (d 6, .inl (cI, (3, .inl ca))), (d 7, .inl (cZ, (3, .inl it))), (d 8, .inl (cI, (6000, .inl ou)))] := hap.D9
        refine lv_iload_n hx hb dX5_open_0 rfl (lv_at hl 1 rfl) ?_
        refine k1_S hx hb hml hown hG cs_X5_92 (by have h := c5_isCursor l D (nI (cu)); rw [rch_in (by omega) (by decide)] at h; exact h) (by decide) (pzS (hK.sub (tys' := []) [] rfl) trivial) rfl hl.1 rfl (Nat.le_of_ble_eq_true rfl) dX5_open_1 ⟨Nat.zero_le _, Nat.zero_le _⟩ rfl ?_
        refine x_ifb_eq (tgt := 14) hx hb dX5_open_4 (by decide) (fun zc1 => False.elim (by first | exact absurd zc1 (by decide) | omega | (simp_all; done))) (fun zc1 => ?_)
        refine lv_iload_n hx hb dX5_open_7 rfl (lv_at hl 2 rfl) ?_
        refine k1_S hx hb hml hown hG cs_X5_68 (by have h := c5_isBook l D (nI (b)); rw [rch_in (by omega) (by decide)] at h; exact h) (by decide) (pzS (hK.sub (tys' := []) [] rfl) trivial) rfl hl.1 rfl (Nat.le_of_ble_eq_true rfl) dX5_open_8 ⟨Nat.zero_le _, Nat.zero_le _⟩ rfl ?_
        refine x_ifb_ne (tgt := 20) hx hb dX5_open_11 (by decide) (fun zc2 => ?_) (fun zc2 => False.elim (by first | exact absurd zc2 (by decide) | omega | (simp_all; done)))
        refine lv_iload_n hx hb dX5_open_20 rfl (lv_at hl 3 rfl) ?_
        refine lv_iconst (v := nI 0) hx hb dX5_open_21 (by decide) ?_
        refine lv_iconst (v := nI 2) hx hb dX5_open_22 (by decide) ?_
        refine k1_S hx hb hml hown hG cs_X5_42 (by have h := c5_in l D (nI (k)) (nI (0)) (nI (2)); rw [show inb (nI k) (nI 0) (nI 2) = true from by rw [show (nI 0 : Int32) = 0 from rfl, inb_rch (n := 3) (by decide) _ (nI 2) (by decide)]; exact rch_in hk3 (by decide)] at h; exact h) (by decide) (pzS (hK.sub (tys' := []) [] rfl) trivial) rfl hl.1 rfl (Nat.le_of_ble_eq_true rfl) dX5_open_23 ⟨Nat.zero_le _, Nat.zero_le _⟩ rfl ?_
        refine x_ifb_ne (tgt := 35) hx hb dX5_open_26 (by decide) (fun zc3 => ?_) (fun zc3 => False.elim (by first | exact absurd zc3 (by decide) | omega | (simp_all; done)))
        refine lv_aload_n hx hb dX5_open_35 rfl (lv_at hl 0 rfl) ?_
        refine gf_X5_23 hx hb hG hown hK hP 0 rfl rfl dX5_open_36 ?_
        refine lv_iload_n hx hb dX5_open_39 rfl (lv_at hl 1 rfl) ?_
        refine lv_iload_n hx hb dX5_open_40 rfl (lv_at hl 2 rfl) ?_
        refine x_iast hx hb hK hP hD hS 4 0 rfl rfl (by omega) (by decide) dX5_open_41 (fun H locs hP hD hS => ?_)
        have hP : va_P D vwCl [(d 0, .inr (5, [.ref (d 1), .ref (d 2), .ref (d 3), .int (nI (S.2.1)), .int (th), .ref (d 4), .ref (d 5), .ref (d 6), .ref (d 7), .ref (d 8), .int (nI (S.2.2.2.length))])), (d 1, .inl (cI, (804, .inl K))), (d 2, .inl (cI, (804, .inl V))), (d 3, .inl (cI, (4, .inl sz))), (d 4, .inl (cI, (3, .inl (upd cb (cu) (nI (b)))))), (d 5, .inl (cI, (3, .inl ck))), (d 6, .inl (cI, (3, .inl ca))), (d 7, .inl (cZ, (3, .inl it))), (d 8, .inl (cI, (6000, .inl ou)))] H := hP
        have hD : va_D (Ao d 9) [(d 0, .inr (5, [.ref (d 1), .ref (d 2), .ref (d 3), .int (nI (S.2.1)), .int (th), .ref (d 4), .ref (d 5), .ref (d 6), .ref (d 7), .ref (d 8), .int (nI (S.2.2.2.length))])), (d 1, .inl (cI, (804, .inl K))), (d 2, .inl (cI, (804, .inl V))), (d 3, .inl (cI, (4, .inl sz))), (d 4, .inl (cI, (3, .inl (upd cb (cu) (nI (b)))))), (d 5, .inl (cI, (3, .inl ck))), (d 6, .inl (cI, (3, .inl ca))), (d 7, .inl (cZ, (3, .inl it))), (d 8, .inl (cI, (6000, .inl ou)))] := hD
        refine lv_aload_n hx hb dX5_open_42 rfl (lv_at hl 0 rfl) ?_
        refine gf_X5_26 hx hb hG hown hK hP 0 rfl rfl dX5_open_43 ?_
        refine lv_iload_n hx hb dX5_open_46 rfl (lv_at hl 1 rfl) ?_
        refine lv_iload_n hx hb dX5_open_47 rfl (lv_at hl 3 rfl) ?_
        refine x_iast hx hb hK hP hD hS 5 0 rfl rfl (by omega) (by decide) dX5_open_48 (fun H locs hP hD hS => ?_)
        have hP : va_P D vwCl [(d 0, .inr (5, [.ref (d 1), .ref (d 2), .ref (d 3), .int (nI (S.2.1)), .int (th), .ref (d 4), .ref (d 5), .ref (d 6), .ref (d 7), .ref (d 8), .int (nI (S.2.2.2.length))])), (d 1, .inl (cI, (804, .inl K))), (d 2, .inl (cI, (804, .inl V))), (d 3, .inl (cI, (4, .inl sz))), (d 4, .inl (cI, (3, .inl (upd cb (cu) (nI (b)))))), (d 5, .inl (cI, (3, .inl (upd ck (cu) (nI (k)))))), (d 6, .inl (cI, (3, .inl ca))), (d 7, .inl (cZ, (3, .inl it))), (d 8, .inl (cI, (6000, .inl ou)))] H := hP
        have hD : va_D (Ao d 9) [(d 0, .inr (5, [.ref (d 1), .ref (d 2), .ref (d 3), .int (nI (S.2.1)), .int (th), .ref (d 4), .ref (d 5), .ref (d 6), .ref (d 7), .ref (d 8), .int (nI (S.2.2.2.length))])), (d 1, .inl (cI, (804, .inl K))), (d 2, .inl (cI, (804, .inl V))), (d 3, .inl (cI, (4, .inl sz))), (d 4, .inl (cI, (3, .inl (upd cb (cu) (nI (b)))))), (d 5, .inl (cI, (3, .inl (upd ck (cu) (nI (k)))))), (d 6, .inl (cI, (3, .inl ca))), (d 7, .inl (cZ, (3, .inl it))), (d 8, .inl (cI, (6000, .inl ou)))] := hD
        refine lv_aload_n hx hb dX5_open_49 rfl (lv_at hl 0 rfl) ?_
        refine gf_X5_29 hx hb hG hown hK hP 0 rfl rfl dX5_open_50 ?_
        refine lv_iload_n hx hb dX5_open_53 rfl (lv_at hl 1 rfl) ?_
        refine lv_iconst (v := nI 0) hx hb dX5_open_54 (by decide) ?_
        refine x_iast hx hb hK hP hD hS 6 0 rfl rfl (by omega) (by decide) dX5_open_55 (fun H locs hP hD hS => ?_)
        have hP : va_P D vwCl [(d 0, .inr (5, [.ref (d 1), .ref (d 2), .ref (d 3), .int (nI (S.2.1)), .int (th), .ref (d 4), .ref (d 5), .ref (d 6), .ref (d 7), .ref (d 8), .int (nI (S.2.2.2.length))])), (d 1, .inl (cI, (804, .inl K))), (d 2, .inl (cI, (804, .inl V))), (d 3, .inl (cI, (4, .inl sz))), (d 4, .inl (cI, (3, .inl (upd cb (cu) (nI (b)))))), (d 5, .inl (cI, (3, .inl (upd ck (cu) (nI (k)))))), (d 6, .inl (cI, (3, .inl (upd ca (cu) (nI (0)))))), (d 7, .inl (cZ, (3, .inl it))), (d 8, .inl (cI, (6000, .inl ou)))] H := hP
        have hD : va_D (Ao d 9) [(d 0, .inr (5, [.ref (d 1), .ref (d 2), .ref (d 3), .int (nI (S.2.1)), .int (th), .ref (d 4), .ref (d 5), .ref (d 6), .ref (d 7), .ref (d 8), .int (nI (S.2.2.2.length))])), (d 1, .inl (cI, (804, .inl K))), (d 2, .inl (cI, (804, .inl V))), (d 3, .inl (cI, (4, .inl sz))), (d 4, .inl (cI, (3, .inl (upd cb (cu) (nI (b)))))), (d 5, .inl (cI, (3, .inl (upd ck (cu) (nI (k)))))), (d 6, .inl (cI, (3, .inl (upd ca (cu) (nI (0)))))), (d 7, .inl (cZ, (3, .inl it))), (d 8, .inl (cI, (6000, .inl ou)))] := hD
        refine lv_aload_n hx hb dX5_open_56 rfl (lv_at hl 0 rfl) ?_
        refine gf_X5_32 hx hb hG hown hK hP 0 rfl rfl dX5_open_57 ?_
        refine lv_iload_n hx hb dX5_open_60 rfl (lv_at hl 1 rfl) ?_
        refine lv_iconst (v := nI 0) hx hb dX5_open_61 (by decide) ?_
        refine x_zast hx hb hK hP hD hS 7 1 rfl rfl rfl (by omega) (by decide) dX5_open_62 (fun H locs hP hD hS => ?_)
        have hP : va_P D vwCl [(d 0, .inr (5, [.ref (d 1), .ref (d 2), .ref (d 3), .int (nI (S.2.1)), .int (th), .ref (d 4), .ref (d 5), .ref (d 6), .ref (d 7), .ref (d 8), .int (nI (S.2.2.2.length))])), (d 1, .inl (cI, (804, .inl K))), (d 2, .inl (cI, (804, .inl V))), (d 3, .inl (cI, (4, .inl sz))), (d 4, .inl (cI, (3, .inl (upd cb (cu) (nI (b)))))), (d 5, .inl (cI, (3, .inl (upd ck (cu) (nI (k)))))), (d 6, .inl (cI, (3, .inl (upd ca (cu) (nI (0)))))), (d 7, .inl (cZ, (3, .inl (upd it (cu) (nI (0)))))), (d 8, .inl (cI, (6000, .inl ou)))] H := hP
        have hD : va_D (Ao d 9) [(d 0, .inr (5, [.ref (d 1), .ref (d 2), .ref (d 3), .int (nI (S.2.1)), .int (th), .ref (d 4), .ref (d 5), .ref (d 6), .ref (d 7), .ref (d 8), .int (nI (S.2.2.2.length))])), (d 1, .inl (cI, (804, .inl K))), (d 2, .inl (cI, (804, .inl V))), (d 3, .inl (cI, (4, .inl sz))), (d 4, .inl (cI, (3, .inl (upd cb (cu) (nI (b)))))), (d 5, .inl (cI, (3, .inl (upd ck (cu) (nI (k)))))), (d 6, .inl (cI, (3, .inl (upd ca (cu) (nI (0)))))), (d 7, .inl (cZ, (3, .inl (upd it (cu) (nI (0)))))), (d 8, .inl (cI, (6000, .inl ou)))] := hD
        refine lv_aload_n hx hb dX5_open_63 rfl (lv_at hl 0 rfl) ?_
        refine lv_aload_n hx hb dX5_open_64 rfl (lv_at hl 0 rfl) ?_
        refine gf_X5_16 hx hb hG hown hK hP 0 rfl rfl dX5_open_65 ?_
        refine lv_iload_n hx hb dX5_open_68 rfl (lv_at hl 2 rfl) ?_
        refine x_iald hx hb hK hP 3 0 rfl rfl (by omega) (by decide) dX5_open_69 ?_
        rw [(hMB (b) (by omega)).1]
        have hB0 : MdAt D cI cZ d (stC S cu (some (b, k, 0, false))) th H := ⟨K, V, sz, _, _, _, _, ou, hP, hMB, hMC.put hc3 (b, k, 0, false), hMO⟩
        refine k2_V hx hb hml hown hG cs_X5_65 (c5_told l D cI cZ d (stC S cu (some (b, k, 0, false))) th (nI ((S.1 b).length)) hap) (by decide) (pzV hK rfl hB0.rc hB0) rfl hl.1 rfl (Nat.le_of_ble_eq_true rfl) dX5_open_70 ⟨Nat.zero_le _, Nat.zero_le _⟩ rfl hS (fun q h => h) (fun H locs hB0 hz hk hS => ?_)
        exact w_i (PB := (fun H => MdAt D cI cZ d (stC S cu (some (b, k, 0, false))) (nI 0) H)) rfl hB0 hS hx hb hr hlocks dX5_open_73
      · skip
        have e9 : sp_open S (nI (cu)) (nI (b)) z = (2, 0, S) := by simp [sp_open, hbx, hby, hbz]
        rw [e9]
        refine m_start (by decide) (Nat.le_of_ble_eq_true rfl) ?_
        intro p e s m below meth c hx hb hr hG hown hlocks hml hB ls hl
        have hl : lv_has ls 4 [(0, .ref (d 0)), (1, .int (nI (cu))), (2, .int (nI (b))), (3, .int (z))] := hl
        obtain ⟨hB0, hK⟩ := hB
        have hS : va_S (Ao d 9) s.heap s.heap [] := va_S.rf
        refine lv_iload_n hx hb dX5_open_0 rfl (lv_at hl 1 rfl) ?_
        refine k1_S hx hb hml hown hG cs_X5_92 (by have h := c5_isCursor l D (nI (cu)); rw [rch_in (by omega) (by decide)] at h; exact h) (by decide) (pzS (hK.sub (tys' := []) [] rfl) trivial) rfl hl.1 rfl (Nat.le_of_ble_eq_true rfl) dX5_open_1 ⟨Nat.zero_le _, Nat.zero_le _⟩ rfl ?_
        refine x_ifb_eq (tgt := 14) hx hb dX5_open_4 (by decide) (fun zc1 => False.elim (by first | exact absurd zc1 (by decide) | omega | (simp_all; done))) (fun zc1 => ?_)
        refine lv_iload_n hx hb dX5_open_7 rfl (lv_at hl 2 rfl) ?_
        refine k1_S hx hb hml hown hG cs_X5_68 (by have h := c5_isBook l D (nI (b)); rw [rch_in (by omega) (by decide)] at h; exact h) (by decide) (pzS (hK.sub (tys' := []) [] rfl) trivial) rfl hl.1 rfl (Nat.le_of_ble_eq_true rfl) dX5_open_8 ⟨Nat.zero_le _, Nat.zero_le _⟩ rfl ?_
        refine x_ifb_ne (tgt := 20) hx hb dX5_open_11 (by decide) (fun zc2 => ?_) (fun zc2 => False.elim (by first | exact absurd zc2 (by decide) | omega | (simp_all; done)))
        refine lv_iload_n hx hb dX5_open_20 rfl (lv_at hl 3 rfl) ?_
        refine lv_iconst (v := nI 0) hx hb dX5_open_21 (by decide) ?_
        refine lv_iconst (v := nI 2) hx hb dX5_open_22 (by decide) ?_
        refine k1_S hx hb hml hown hG cs_X5_42 (by have h := c5_in l D z (nI (0)) (nI (2)); rw [show inb z (nI 0) (nI 2) = false from by rw [show (nI 0 : Int32) = 0 from rfl, inb_rch (n := 3) (by decide) _ (nI 2) (by decide)]; exact hnoz] at h; exact h) (by decide) (pzS (hK.sub (tys' := []) [] rfl) trivial) rfl hl.1 rfl (Nat.le_of_ble_eq_true rfl) dX5_open_23 ⟨Nat.zero_le _, Nat.zero_le _⟩ rfl ?_
        refine x_ifb_ne (tgt := 35) hx hb dX5_open_26 (by decide) (fun zc3 => False.elim (by first | exact absurd zc3 (by decide) | omega | (simp_all; done))) (fun zc3 => ?_)
        refine lv_aload_n hx hb dX5_open_29 rfl (lv_at hl 0 rfl) ?_
        refine lv_iconst (v := nI 2) hx hb dX5_open_30 (by decide) ?_
        refine k2_V hx hb hml hown hG cs_X5_58 (c5_refuse l D cI cZ d S th 2 hap) (by decide) (pzV hK rfl hB0.rc hB0) rfl hl.1 rfl (Nat.le_of_ble_eq_true rfl) dX5_open_31 ⟨Nat.zero_le _, Nat.zero_le _⟩ rfl hS (fun q h => h) (fun H locs hB0 hz hk hS => ?_)
        exact w_i (PB := (fun H => MdAt D cI cZ d S (nI 2) H)) rfl hB0 hS hx hb hr hlocks dX5_open_34
    · skip
      have e9 : sp_open S (nI (cu)) y z = (1, 0, S) := by simp [sp_open, hbx, hby]
      rw [e9]
      refine m_start (by decide) (Nat.le_of_ble_eq_true rfl) ?_
      intro p e s m below meth c hx hb hr hG hown hlocks hml hB ls hl
      have hl : lv_has ls 4 [(0, .ref (d 0)), (1, .int (nI (cu))), (2, .int (y)), (3, .int (z))] := hl
      obtain ⟨hB0, hK⟩ := hB
      have hS : va_S (Ao d 9) s.heap s.heap [] := va_S.rf
      refine lv_iload_n hx hb dX5_open_0 rfl (lv_at hl 1 rfl) ?_
      refine k1_S hx hb hml hown hG cs_X5_92 (by have h := c5_isCursor l D (nI (cu)); rw [rch_in (by omega) (by decide)] at h; exact h) (by decide) (pzS (hK.sub (tys' := []) [] rfl) trivial) rfl hl.1 rfl (Nat.le_of_ble_eq_true rfl) dX5_open_1 ⟨Nat.zero_le _, Nat.zero_le _⟩ rfl ?_
      refine x_ifb_eq (tgt := 14) hx hb dX5_open_4 (by decide) (fun zc1 => False.elim (by first | exact absurd zc1 (by decide) | omega | (simp_all; done))) (fun zc1 => ?_)
      refine lv_iload_n hx hb dX5_open_7 rfl (lv_at hl 2 rfl) ?_
      refine k1_S hx hb hml hown hG cs_X5_68 (by have h := c5_isBook l D y; rw [hnoy] at h; exact h) (by decide) (pzS (hK.sub (tys' := []) [] rfl) trivial) rfl hl.1 rfl (Nat.le_of_ble_eq_true rfl) dX5_open_8 ⟨Nat.zero_le _, Nat.zero_le _⟩ rfl ?_
      refine x_ifb_ne (tgt := 20) hx hb dX5_open_11 (by decide) (fun zc2 => False.elim (by first | exact absurd zc2 (by decide) | omega | (simp_all; done))) (fun zc2 => ?_)
      refine lv_aload_n hx hb dX5_open_14 rfl (lv_at hl 0 rfl) ?_
      refine lv_iconst (v := nI 1) hx hb dX5_open_15 (by decide) ?_
      refine k2_V hx hb hml hown hG cs_X5_58 (c5_refuse l D cI cZ d S th 1 hap) (by decide) (pzV hK rfl hB0.rc hB0) rfl hl.1 rfl (Nat.le_of_ble_eq_true rfl) dX5_open_16 ⟨Nat.zero_le _, Nat.zero_le _⟩ rfl hS (fun q h => h) (fun H locs hB0 hz hk hS => ?_)
      exact w_i (PB := (fun H => MdAt D cI cZ d S (nI 1) H)) rfl hB0 hS hx hb hr hlocks dX5_open_19
  · skip
    have e9 : sp_open S x y z = (1, 0, S) := by simp [sp_open, hbx]
    rw [e9]
    refine m_start (by decide) (Nat.le_of_ble_eq_true rfl) ?_
    intro p e s m below meth c hx hb hr hG hown hlocks hml hB ls hl
    have hl : lv_has ls 4 [(0, .ref (d 0)), (1, .int (x)), (2, .int (y)), (3, .int (z))] := hl
    obtain ⟨hB0, hK⟩ := hB
    have hS : va_S (Ao d 9) s.heap s.heap [] := va_S.rf
    refine lv_iload_n hx hb dX5_open_0 rfl (lv_at hl 1 rfl) ?_
    refine k1_S hx hb hml hown hG cs_X5_92 (by have h := c5_isCursor l D x; rw [hnox] at h; exact h) (by decide) (pzS (hK.sub (tys' := []) [] rfl) trivial) rfl hl.1 rfl (Nat.le_of_ble_eq_true rfl) dX5_open_1 ⟨Nat.zero_le _, Nat.zero_le _⟩ rfl ?_
    refine x_ifb_eq (tgt := 14) hx hb dX5_open_4 (by decide) (fun zc1 => ?_) (fun zc1 => False.elim (by first | exact absurd zc1 (by decide) | omega | (simp_all; done)))
    refine lv_aload_n hx hb dX5_open_14 rfl (lv_at hl 0 rfl) ?_
    refine lv_iconst (v := nI 1) hx hb dX5_open_15 (by decide) ?_
    refine k2_V hx hb hml hown hG cs_X5_58 (c5_refuse l D cI cZ d S th 1 hap) (by decide) (pzV hK rfl hB0.rc hB0) rfl hl.1 rfl (Nat.le_of_ble_eq_true rfl) dX5_open_16 ⟨Nat.zero_le _, Nat.zero_le _⟩ rfl hS (fun q h => h) (fun H locs hB0 hz hk hS => ?_)
    exact w_i (PB := (fun H => MdAt D cI cZ d S (nI 1) H)) rfl hB0 hS hx hb hr hlocks dX5_open_19
set_option maxHeartbeats 4000000 in
set_option maxRecDepth 100000 in
theorem m_next (l : Launch) (D : va_G) (cI cZ : ClassId) (d : Nat → Nat) (S : St) (th : Int32) (x : Int32) (hI : Inv S) (hap : Ap d 9) : Met l yX5_next (ws_ yX5_next cX5_next 4 (some .int)) (rmN 4) (va_Pc [.ref (d 0), .int x] (pz D [(cI, .int), (cZ, .boolean)] (fun H => MdAt D cI cZ d S th H))) (Wq (some (.int (sp_next S x).2.1)) (fun H => MdAt D cI cZ d (sp_next S x).2.2 (nI (sp_next S x).1) H) (Ao d 9)) 0 0 (Ao d 9) := by
  have hbd2 : S.2.1 ≤ 40 := hI.2.2.2.1
  have hCC : ∀ cu, cu < 3 → ∀ y, S.2.2.1 cu = some y → y.1 < 4 := fun cu hcu y hy => by have h := hI.2.2.2.2.1 cu hcu; rw [hy] at h; exact h.1
  rcases bkn_cases 3 (by decide) x with ⟨cu, hc3, rfl, hbk⟩ | ⟨hbk, hno⟩
  · have hCu := hI.2.2.2.2.1 cu hc3
    cases hC : S.2.2.1 cu with
    | none =>
      have e9 : sp_next S (nI (cu)) = (2, 0, S) := by simp [sp_next, hbk, hC]
      rw [e9]
      refine m_start (by decide) (Nat.le_of_ble_eq_true rfl) ?_
      intro p e s m below meth c hx hb hr hG hown hlocks hml hB ls hl
      have hl : lv_has ls 4 [(0, .ref (d 0)), (1, .int (nI (cu)))] := hl
      obtain ⟨hB0, hK⟩ := hB
      have hS : va_S (Ao d 9) s.heap s.heap [] := va_S.rf
      obtain ⟨K, V, sz, cb, ck, ca, it, ou, hP, hMB, hMC, hMO⟩ := id hB0
      have hP : va_P D vwCl [(d 0, .inr (5, [.ref (d 1), .ref (d 2), .ref (d 3), .int (nI (S.2.1)), .int (th), .ref (d 4), .ref (d 5), .ref (d 6), .ref (d 7), .ref (d 8), .int (nI (S.2.2.2.length))])), (d 1, .inl (cI, (804, .inl K))), (d 2, .inl (cI, (804, .inl V))), (d 3, .inl (cI, (4, .inl sz))), (d 4, .inl (cI, (3, .inl cb))), (d 5, .inl (cI, (3, .inl ck))), (d 6, .inl (cI, (3, .inl ca))), (d 7, .inl (cZ, (3, .inl it))), (d 8, .inl (cI, (6000, .inl ou)))] s.heap := hP
      have hD : va_D (Ao d 9) [(d 0, .inr (5, [.ref (d 1), .ref (d 2), .ref (d 3), .int (nI (S.2.1)), .int (th), .ref (d 4), .ref (d 5), .ref (d 6), .ref (d 7), .ref (d 8), .int (nI (S.2.2.2.length))])), (d 1, .inl (cI, (804, .inl K))), (d 2, .inl (cI, (804, .inl V))), (d 3, .inl (cI, (4, .inl sz))), (d 4, .inl (cI, (3, .inl cb))), (d 5, .inl (cI, (3, .inl ck))), (d 6, .inl (cI, (3, .inl ca))), (d 7, .inl (cZ, (3, .inl it))), (d 8, .inl (cI, (6000, .inl ou)))] := hap.D9
      have hcb := MdQ_n (hMC cu (by omega)) hC
      refine lv_iload_n hx hb dX5_next_0 rfl (lv_at hl 1 rfl) ?_
      refine k1_S hx hb hml hown hG cs_X5_92 (by have h := c5_isCursor l D (nI (cu)); rw [rch_in (by omega) (by decide)] at h; exact h) (by decide) (pzS (hK.sub (tys' := []) [] rfl) trivial) rfl hl.1 rfl (Nat.le_of_ble_eq_true rfl) dX5_next_1 ⟨Nat.zero_le _, Nat.zero_le _⟩ rfl ?_
      refine x_ifb_ne (tgt := 13) hx hb dX5_next_4 (by decide) (fun zc1 => ?_) (fun zc1 => False.elim (by first | exact absurd zc1 (by decide) | omega | (simp_all; done)))
      refine lv_aload_n hx hb dX5_next_13 rfl (lv_at hl 0 rfl) ?_
      refine lv_iload_n hx hb dX5_next_14 rfl (lv_at hl 1 rfl) ?_
      refine k1_V hx hb hml hown hG cs_X5_95 (c5_isOpen_f l D cI cZ d S th cu (by omega) hC) (by decide) (pzV hK rfl hB0.rc hB0) rfl hl.1 rfl (Nat.le_of_ble_eq_true rfl) dX5_next_15 ⟨Nat.zero_le _, Nat.zero_le _⟩ rfl ?_
      refine x_ifb_ne (tgt := 27) hx hb dX5_next_18 (by decide) (fun zc2 => False.elim (by first | exact absurd zc2 (by decide) | omega | (simp_all; done))) (fun zc2 => ?_)
      refine lv_aload_n hx hb dX5_next_21 rfl (lv_at hl 0 rfl) ?_
      refine lv_iconst (v := nI 2) hx hb dX5_next_22 (by decide) ?_
      refine k2_V hx hb hml hown hG cs_X5_58 (c5_refuse l D cI cZ d S th 2 hap) (by decide) (pzV hK rfl hB0.rc hB0) rfl hl.1 rfl (Nat.le_of_ble_eq_true rfl) dX5_next_23 ⟨Nat.zero_le _, Nat.zero_le _⟩ rfl hS (fun q h => h) (fun H locs hB0 hz hk hS => ?_)
      exact w_i (PB := (fun H => MdAt D cI cZ d S (nI 2) H)) rfl hB0 hS hx hb hr hlocks dX5_next_26
    | some x9 =>
      obtain ⟨b, k, n, t⟩ := x9
      rw [hC] at hCu
      obtain ⟨hb4, hk3, hnl, ht1⟩ := hCu
      have hN := hI.1 b hb4
      by_cases hlt : n < (S.1 b).length
      · by_cases hk1 : k = 1
        · skip
          have e9 : sp_next S (nI (cu)) = (0, vf (S.1 b) n, stC S cu (some (b, k, n + 1, true))) := by simp [sp_next, hbk, hC, hlt, hk1]
          rw [e9]
          refine m_start (by decide) (Nat.le_of_ble_eq_true rfl) ?_
          intro p e s m below meth c hx hb hr hG hown hlocks hml hB ls hl
          have hl : lv_has ls 4 [(0, .ref (d 0)), (1, .int (nI (cu)))] := hl
          obtain ⟨hB0, hK⟩ := hB
          have hS : va_S (Ao d 9) s.heap s.heap [] := va_S.rf
          obtain ⟨K, V, sz, cb, ck, ca, it, ou, hP, hMB, hMC, hMO⟩ := id hB0
          have hP : va_P D vwCl [(d 0, .inr (5, [.ref (d 1), .ref (d 2), .ref (d 3), .int (nI (S.2.1)), .int (th), .ref (d 4), .ref (d 5), .ref (d 6), .ref (d 7), .ref (d 8), .int (nI (S.2.2.2.length))])), (d 1, .inl (cI, (804, .inl K))), (d 2, .inl (cI, (804, .inl V))), (d 3, .inl (cI, (4, .inl sz))), (d 4, .inl (cI, (3, .inl cb))), (d 5, .inl (cI, (3, .inl ck))), (d 6, .inl (cI, (3, .inl ca))), (d 7, .inl (cZ, (3, .inl it))), (d 8, .inl (cI, (6000, .inl ou)))] s.heap := hP
          have hD : va_D (Ao d 9) [(d 0, .inr (5, [.ref (d 1), .ref (d 2), .ref (d 3), .int (nI (S.2.1)), .int (th), .ref (d 4), .ref (d 5), .ref (d 6), .ref (d 7), .ref (d 8), .int (nI (S.2.2.2.length))])), (d 1, .inl (cI, (804, .inl K))), (d 2, .inl (cI, (804, .inl V))), (d 3, .inl (cI, (4, .inl sz))), (d 4, .inl (cI, (3, .inl cb))), (d 5, .inl (cI, (3, .inl ck))), (d 6, .inl (cI, (3, .inl ca))), (d 7, .inl (cZ, (3, .inl it))), (d 8, .inl (cI, (6000, .inl ou)))] := hap.D9
          obtain ⟨hcb, hck, hca, hit⟩ := MdQ_w (hMC cu (by omega)) b k n t hC
          refine lv_iload_n hx hb dX5_next_0 rfl (lv_at hl 1 rfl) ?_
          refine k1_S hx hb hml hown hG cs_X5_92 (by have h := c5_isCursor l D (nI (cu)); rw [rch_in (by omega) (by decide)] at h; exact h) (by decide) (pzS (hK.sub (tys' := []) [] rfl) trivial) rfl hl.1 rfl (Nat.le_of_ble_eq_true rfl) dX5_next_1 ⟨Nat.zero_le _, Nat.zero_le _⟩ rfl ?_
          refine x_ifb_ne (tgt := 13) hx hb dX5_next_4 (by decide) (fun zc1 => ?_) (fun zc1 => False.elim (by first | exact absurd zc1 (by decide) | omega | (simp_all; done)))
          refine lv_aload_n hx hb dX5_next_13 rfl (lv_at hl 0 rfl) ?_
          refine lv_iload_n hx hb dX5_next_14 rfl (lv_at hl 1 rfl) ?_
          refine k1_V hx hb hml hown hG cs_X5_95 (c5_isOpen_t l D cI cZ d S th cu b k n t (by omega) hC (by omega)) (by decide) (pzV hK rfl hB0.rc hB0) rfl hl.1 rfl (Nat.le_of_ble_eq_true rfl) dX5_next_15 ⟨Nat.zero_le _, Nat.zero_le _⟩ rfl ?_
          refine x_ifb_ne (tgt := 27) hx hb dX5_next_18 (by decide) (fun zc2 => ?_) (fun zc2 => False.elim (by first | exact absurd zc2 (by decide) | omega | (simp_all; done)))
          refine lv_aload_n hx hb dX5_next_27 rfl (lv_at hl 0 rfl) ?_
          refine gf_X5_23 hx hb hG hown hK hP 0 rfl rfl dX5_next_28 ?_
          refine lv_iload_n hx hb dX5_next_31 rfl (lv_at hl 1 rfl) ?_
          refine x_iald hx hb hK hP 4 0 rfl rfl (by omega) (by decide) dX5_next_32 ?_
          rw [hcb]
          refine lv_istore_n (lv' := [(2, .int (nI (b))), (0, .ref (d 0)), (1, .int (nI (cu)))]) hx hb dX5_next_33 rfl hl (by decide) rfl (fun ls hl => ?_)
          refine lv_aload_n hx hb dX5_next_34 rfl (lv_at hl 1 rfl) ?_
          refine gf_X5_29 hx hb hG hown hK hP 0 rfl rfl dX5_next_35 ?_
          refine lv_iload_n hx hb dX5_next_38 rfl (lv_at hl 2 rfl) ?_
          refine x_iald hx hb hK hP 6 0 rfl rfl (by omega) (by decide) dX5_next_39 ?_
          rw [hca]
          refine lv_istore_n (lv' := [(3, .int (nI (n))), (2, .int (nI (b))), (0, .ref (d 0)), (1, .int (nI (cu)))]) hx hb dX5_next_40 rfl hl (by decide) rfl (fun ls hl => ?_)
          refine lv_iload_n hx hb dX5_next_41 rfl (lv_at hl 0 rfl) ?_
          refine lv_aload_n hx hb dX5_next_42 rfl (lv_at hl 2 rfl) ?_
          refine gf_X5_16 hx hb hG hown hK hP 0 rfl rfl dX5_next_43 ?_
          refine lv_iload_n hx hb dX5_next_46 rfl (lv_at hl 1 rfl) ?_
          refine x_iald hx hb hK hP 3 0 rfl rfl (by omega) (by decide) dX5_next_47 ?_
          rw [(hMB (b) (by omega)).1]
          refine x_cmp_ne (tgt := 57) hx hb dX5_next_48 (by decide) (by omega) (by omega) (fun zc3 => ?_) (fun zc3 => False.elim (by first | omega | contradiction | exact absurd zc3 (m1_ne _ (by omega)) | exact absurd zc3 (by decide) | exact absurd (Eq.symm zc3) (m1_ne _ (by omega)) | (simp_all; done)))
          refine lv_aload_n hx hb dX5_next_57 rfl (lv_at hl 2 rfl) ?_
          refine gf_X5_29 hx hb hG hown hK hP 0 rfl rfl dX5_next_58 ?_
          refine lv_iload_n hx hb dX5_next_61 rfl (lv_at hl 3 rfl) ?_
          refine lv_dup2_11 hx hb dX5_next_62 rfl rfl ?_
          refine x_iald hx hb hK hP 6 0 rfl rfl (by omega) (by decide) dX5_next_63 ?_
          rw [hca]
          refine lv_iconst (v := nI 1) hx hb dX5_next_64 (by decide) ?_
          refine x_iadd (v := nI (n + 1)) hx hb dX5_next_65 (nI_add _ _) ?_
          refine x_iast hx hb hK hP hD hS 6 0 rfl rfl (by omega) (by decide) dX5_next_66 (fun H locs hP hD hS => ?_)
          have hP : va_P D vwCl [(d 0, .inr (5, [.ref (d 1), .ref (d 2), .ref (d 3), .int (nI (S.2.1)), .int (th), .ref (d 4), .ref (d 5), .ref (d 6), .ref (d 7), .ref (d 8), .int (nI (S.2.2.2.length))])), (d 1, .inl (cI, (804, .inl K))), (d 2, .inl (cI, (804, .inl V))), (d 3, .inl (cI, (4, .inl sz))), (d 4, .inl (cI, (3, .inl cb))), (d 5, .inl (cI, (3, .inl ck))), (d 6, .inl (cI, (3, .inl (upd ca (cu) (nI (n + 1)))))), (d 7, .inl (cZ, (3, .inl it))), (d 8, .inl (cI, (6000, .inl ou)))] H := hP
          have hD : va_D (Ao d 9) [(d 0, .inr (5, [.ref (d 1), .ref (d 2), .ref (d 3), .int (nI (S.2.1)), .int (th), .ref (d 4), .ref (d 5), .ref (d 6), .ref (d 7), .ref (d 8), .int (nI (S.2.2.2.length))])), (d 1, .inl (cI, (804, .inl K))), (d 2, .inl (cI, (804, .inl V))), (d 3, .inl (cI, (4, .inl sz))), (d 4, .inl (cI, (3, .inl cb))), (d 5, .inl (cI, (3, .inl ck))), (d 6, .inl (cI, (3, .inl (upd ca (cu) (nI (n + 1)))))), (d 7, .inl (cZ, (3, .inl it))), (d 8, .inl (cI, (6000, .inl ou)))] := hD
          refine lv_aload_n hx hb dX5_next_67 rfl (lv_at hl 2 rfl) ?_
          refine gf_X5_32 hx hb hG hown hK hP 0 rfl rfl dX5_next_68 ?_
          refine lv_iload_n hx hb dX5_next_71 rfl (lv_at hl 3 rfl) ?_
          refine lv_iconst (v := nI 1) hx hb dX5_next_72 (by decide) ?_
          refine x_zast hx hb hK hP hD hS 7 1 rfl rfl rfl (by omega) (by decide) dX5_next_73 (fun H locs hP hD hS => ?_)
          have hP : va_P D vwCl [(d 0, .inr (5, [.ref (d 1), .ref (d 2), .ref (d 3), .int (nI (S.2.1)), .int (th), .ref (d 4), .ref (d 5), .ref (d 6), .ref (d 7), .ref (d 8), .int (nI (S.2.2.2.length))])), (d 1, .inl (cI, (804, .inl K))), (d 2, .inl (cI, (804, .inl V))), (d 3, .inl (cI, (4, .inl sz))), (d 4, .inl (cI, (3, .inl cb))), (d 5, .inl (cI, (3, .inl ck))), (d 6, .inl (cI, (3, .inl (upd ca (cu) (nI (n + 1)))))), (d 7, .inl (cZ, (3, .inl (upd it (cu) (nI (1)))))), (d 8, .inl (cI, (6000, .inl ou)))] H := hP
          have hD : va_D (Ao d 9) [(d 0, .inr (5, [.ref (d 1), .ref (d 2), .ref (d 3), .int (nI (S.2.1)), .int (th), .ref (d 4), .ref (d 5), .ref (d 6), .ref (d 7), .ref (d 8), .int (nI (S.2.2.2.length))])), (d 1, .inl (cI, (804, .inl K))), (d 2, .inl (cI, (804, .inl V))), (d 3, .inl (cI, (4, .inl sz))), (d 4, .inl (cI, (3, .inl cb))), (d 5, .inl (cI, (3, .inl ck))), (d 6, .inl (cI, (3, .inl (upd ca (cu) (nI (n + 1)))))), (d 7, .inl (cZ, (3, .inl (upd it (cu) (nI (1)))))), (d 8, .inl (cI, (6000, .inl ou)))] := hD
          have hMC2 := hMC.put hc3 (b, k, n + 1, true)
          rw [upd_same (show cb cu = nI b from hcb), upd_same (show ck cu = nI k from hck)] at hMC2
          refine lv_aload_n hx hb dX5_next_74 rfl (lv_at hl 2 rfl) ?_
          refine lv_aload_n hx hb dX5_next_75 rfl (lv_at hl 2 rfl) ?_
          refine gf_X5_26 hx hb hG hown hK hP 0 rfl rfl dX5_next_76 ?_
          refine lv_iload_n hx hb dX5_next_79 rfl (lv_at hl 3 rfl) ?_
          refine x_iald hx hb hK hP 5 0 rfl rfl (by omega) (by decide) dX5_next_80 ?_
          rw [hck]
          refine lv_iconst (v := nI 1) hx hb dX5_next_81 (by decide) ?_
          refine x_cmp_ne (tgt := 100) hx hb dX5_next_82 (by decide) (by omega) (by omega) (fun zc4 => False.elim (by first | omega | contradiction | exact absurd zc4 (m1_ne _ (by omega)) | exact absurd zc4 (by decide) | exact absurd (Eq.symm zc4) (m1_ne _ (by omega)) | (simp_all; done))) (fun zc4 => ?_)
          refine lv_aload_n hx hb dX5_next_85 rfl (lv_at hl 2 rfl) ?_
          refine gf_X5_13 hx hb hG hown hK hP 0 rfl rfl dX5_next_86 ?_
          refine lv_sipush (v := nI 201) hx hb dX5_next_89 (by decide) ?_
          refine lv_iload_n hx hb dX5_next_92 rfl (lv_at hl 1 rfl) ?_
          refine x_imul (v := nI (201 * b)) hx hb dX5_next_93 (pk_mul _ _) ?_
          refine lv_iload_n hx hb dX5_next_94 rfl (lv_at hl 0 rfl) ?_
          refine x_iadd (v := nI ((201 * b) + n)) hx hb dX5_next_95 (nI_add _ _) ?_
          refine x_iald hx hb hK hP 2 0 rfl rfl (by omega) (by decide) dX5_next_96 ?_
          rw [show V ((201 * b) + n) = vf (S.1 b) n from ((hMB b (by omega)).2.2 n (by omega)).2]
          refine lv_goto (tgt := 112) hx hb dX5_next_97 (by decide) ?_
          have hB0 : MdAt D cI cZ d (stC S cu (some (b, k, n + 1, true))) th H := ⟨K, V, sz, cb, ck, _, _, ou, hP, hMB, hMC2, hMO⟩
          refine k2_V hx hb hml hown hG cs_X5_65 (c5_told l D cI cZ d (stC S cu (some (b, k, n + 1, true))) th (vf (S.1 b) n) hap) (by decide) (pzV hK rfl hB0.rc hB0) rfl hl.1 rfl (Nat.le_of_ble_eq_true rfl) dX5_next_112 ⟨Nat.zero_le _, Nat.zero_le _⟩ rfl hS (fun q h => h) (fun H locs hB0 hz hk hS => ?_)
          exact w_i (PB := (fun H => MdAt D cI cZ d (stC S cu (some (b, k, n + 1, true))) (nI 0) H)) rfl hB0 hS hx hb hr hlocks dX5_next_115
        · skip
          have e9 : sp_next S (nI (cu)) = (0, kf (S.1 b) n, stC S cu (some (b, k, n + 1, true))) := by simp [sp_next, hbk, hC, hlt, hk1]
          rw [e9]
          refine m_start (by decide) (Nat.le_of_ble_eq_true rfl) ?_
          intro p e s m below meth c hx hb hr hG hown hlocks hml hB ls hl
          have hl : lv_has ls 4 [(0, .ref (d 0)), (1, .int (nI (cu)))] := hl
          obtain ⟨hB0, hK⟩ := hB
          have hS : va_S (Ao d 9) s.heap s.heap [] := va_S.rf
          obtain ⟨K, V, sz, cb, ck, ca, it, ou, hP, hMB, hMC, hMO⟩ := id hB0
          have hP : va_P D vwCl [(d 0, .inr (5, [.ref (d 1), .ref (d 2), .ref (d 3), .int (nI (S.2.1)), .int (th), .ref (d 4), .ref (d 5), .ref (d 6), .ref (d 7), .ref (d 8), .int (nI (S.2.2.2.length))])), (d 1, .inl (cI, (804, .inl K))), (d 2, .inl (cI, (804, .inl V))), (d 3, .inl (cI, (4, .inl sz))), (d 4, .inl (cI, (3, .inl cb))), (d 5, .inl (cI, (3, .inl ck))), (d 6, .inl (cI, (3, .inl ca))), (d 7, .inl (cZ, (3, .inl it))), (d 8, .inl (cI, (6000, .inl ou)))] s.heap := hP
          have hD : va_D (Ao d 9) [(d 0, .inr (5, [.ref (d 1), .ref (d 2), .ref (d 3), .int (nI (S.2.1)), .int (th), .ref (d 4), .ref (d 5), .ref (d 6), .ref (d 7), .ref (d 8), .int (nI (S.2.2.2.length))])), (d 1, .inl (cI, (804, .inl K))), (d 2, .inl (cI, (804, .inl V))), (d 3, .inl (cI, (4, .inl sz))), (d 4, .inl (cI, (3, .inl cb))), (d 5, .inl (cI, (3, .inl ck))), (d 6, .inl (cI, (3, .inl ca))), (d 7, .inl (cZ, (3, .inl it))), (d 8, .inl (cI, (6000, .inl ou)))] := hap.D9
          obtain ⟨hcb, hck, hca, hit⟩ := MdQ_w (hMC cu (by omega)) b k n t hC
          refine lv_iload_n hx hb dX5_next_0 rfl (lv_at hl 1 rfl) ?_
          refine k1_S hx hb hml hown hG cs_X5_92 (by have h := c5_isCursor l D (nI (cu)); rw [rch_in (by omega) (by decide)] at h; exact h) (by decide) (pzS (hK.sub (tys' := []) [] rfl) trivial) rfl hl.1 rfl (Nat.le_of_ble_eq_true rfl) dX5_next_1 ⟨Nat.zero_le _, Nat.zero_le _⟩ rfl ?_
          refine x_ifb_ne (tgt := 13) hx hb dX5_next_4 (by decide) (fun zc1 => ?_) (fun zc1 => False.elim (by first | exact absurd zc1 (by decide) | omega | (simp_all; done)))
          refine lv_aload_n hx hb dX5_next_13 rfl (lv_at hl 0 rfl) ?_
          refine lv_iload_n hx hb dX5_next_14 rfl (lv_at hl 1 rfl) ?_
          refine k1_V hx hb hml hown hG cs_X5_95 (c5_isOpen_t l D cI cZ d S th cu b k n t (by omega) hC (by omega)) (by decide) (pzV hK rfl hB0.rc hB0) rfl hl.1 rfl (Nat.le_of_ble_eq_true rfl) dX5_next_15 ⟨Nat.zero_le _, Nat.zero_le _⟩ rfl ?_
          refine x_ifb_ne (tgt := 27) hx hb dX5_next_18 (by decide) (fun zc2 => ?_) (fun zc2 => False.elim (by first | exact absurd zc2 (by decide) | omega | (simp_all; done)))
          refine lv_aload_n hx hb dX5_next_27 rfl (lv_at hl 0 rfl) ?_
          refine gf_X5_23 hx hb hG hown hK hP 0 rfl rfl dX5_next_28 ?_
          refine lv_iload_n hx hb dX5_next_31 rfl (lv_at hl 1 rfl) ?_
          refine x_iald hx hb hK hP 4 0 rfl rfl (by omega) (by decide) dX5_next_32 ?_
          rw [hcb]
          refine lv_istore_n (lv' := [(2, .int (nI (b))), (0, .ref (d 0)), (1, .int (nI (cu)))]) hx hb dX5_next_33 rfl hl (by decide) rfl (fun ls hl => ?_)
          refine lv_aload_n hx hb dX5_next_34 rfl (lv_at hl 1 rfl) ?_
          refine gf_X5_29 hx hb hG hown hK hP 0 rfl rfl dX5_next_35 ?_
          refine lv_iload_n hx hb dX5_next_38 rfl (lv_at hl 2 rfl) ?_
          refine x_iald hx hb hK hP 6 0 rfl rfl (by omega) (by decide) dX5_next_39 ?_
          rw [hca]
          refine lv_istore_n (lv' := [(3, .int (nI (n))), (2, .int (nI (b))), (0, .ref (d 0)), (1, .int (nI (cu)))]) hx hb dX5_next_40 rfl hl (by decide) rfl (fun ls hl => ?_)
          refine lv_iload_n hx hb dX5_next_41 rfl (lv_at hl 0 rfl) ?_
          refine lv_aload_n hx hb dX5_next_42 rfl (lv_at hl 2 rfl) ?_
          refine gf_X5_16 hx hb hG hown hK hP 0 rfl rfl dX5_next_43 ?_
          refine lv_iload_n hx hb dX5_next_46 rfl (lv_at hl 1 rfl) ?_
          refine x_iald hx hb hK hP 3 0 rfl rfl (by omega) (by decide) dX5_next_47 ?_
          rw [(hMB (b) (by omega)).1]
          refine x_cmp_ne (tgt := 57) hx hb dX5_next_48 (by decide) (by omega) (by omega) (fun zc3 => ?_) (fun zc3 => False.elim (by first | omega | contradiction | exact absurd zc3 (m1_ne _ (by omega)) | exact absurd zc3 (by decide) | exact absurd (Eq.symm zc3) (m1_ne _ (by omega)) | (simp_all; done)))
          refine lv_aload_n hx hb dX5_next_57 rfl (lv_at hl 2 rfl) ?_
          refine gf_X5_29 hx hb hG hown hK hP 0 rfl rfl dX5_next_58 ?_
          refine lv_iload_n hx hb dX5_next_61 rfl (lv_at hl 3 rfl) ?_
          refine lv_dup2_11 hx hb dX5_next_62 rfl rfl ?_
          refine x_iald hx hb hK hP 6 0 rfl rfl (by omega) (by decide) dX5_next_63 ?_
          rw [hca]
          refine lv_iconst (v := nI 1) hx hb dX5_next_64 (by decide) ?_
          refine x_iadd (v := nI (n + 1)) hx hb dX5_next_65 (nI_add _ _) ?_
          refine x_iast hx hb hK hP hD hS 6 0 rfl rfl (by omega) (by decide) dX5_next_66 (fun H locs hP hD hS => ?_)
          have hP : va_P D vwCl [(d 0, .inr (5, [.ref (d 1), .ref (d 2), .ref (d 3), .int (nI (S.2.1)), .int (th), .ref (d 4), .ref (d 5), .ref (d 6), .ref (d 7), .ref (d 8), .int (nI (S.2.2.2.length))])), (d 1, .inl (cI, (804, .inl K))), (d 2, .inl (cI, (804, .inl V))), (d 3, .inl (cI, (4, .inl sz))), (d 4, .inl (cI, (3, .inl cb))), (d 5, .inl (cI, (3, .inl ck))), (d 6, .inl (cI, (3, .inl (upd ca (cu) (nI (n + 1)))))), (d 7, .inl (cZ, (3, .inl it))), (d 8, .inl (cI, (6000, .inl ou)))] H := hP
          have hD : va_D (Ao d 9) [(d 0, .inr (5, [.ref (d 1), .ref (d 2), .ref (d 3), .int (nI (S.2.1)), .int (th), .ref (d 4), .ref (d 5), .ref (d 6), .ref (d 7), .ref (d 8), .int (nI (S.2.2.2.length))])), (d 1, .inl (cI, (804, .inl K))), (d 2, .inl (cI, (804, .inl V))), (d 3, .inl (cI, (4, .inl sz))), (d 4, .inl (cI, (3, .inl cb))), (d 5, .inl (cI, (3, .inl ck))), (d 6, .inl (cI, (3, .inl (upd ca (cu) (nI (n + 1)))))), (d 7, .inl (cZ, (3, .inl it))), (d 8, .inl (cI, (6000, .inl ou)))] := hD
          refine lv_aload_n hx hb dX5_next_67 rfl (lv_at hl 2 rfl) ?_
          refine gf_X5_32 hx hb hG hown hK hP 0 rfl rfl dX5_next_68 ?_
          refine lv_iload_n hx hb dX5_next_71 rfl (lv_at hl 3 rfl) ?_
          refine lv_iconst (v := nI 1) hx hb dX5_next_72 (by decide) ?_
          refine x_zast hx hb hK hP hD hS 7 1 rfl rfl rfl (by omega) (by decide) dX5_next_73 (fun H locs hP hD hS => ?_)
          have hP : va_P D vwCl [(d 0, .inr (5, [.ref (d 1), .ref (d 2), .ref (d 3), .int (nI (S.2.1)), .int (th), .ref (d 4), .ref (d 5), .ref (d 6), .ref (d 7), .ref (d 8), .int (nI (S.2.2.2.length))])), (d 1, .inl (cI, (804, .inl K))), (d 2, .inl (cI, (804, .inl V))), (d 3, .inl (cI, (4, .inl sz))), (d 4, .inl (cI, (3, .inl cb))), (d 5, .inl (cI, (3, .inl ck))), (d 6, .inl (cI, (3, .inl (upd ca (cu) (nI (n + 1)))))), (d 7, .inl (cZ, (3, .inl (upd it (cu) (nI (1)))))), (d 8, .inl (cI, (6000, .inl ou)))] H := hP
          have hD : va_D (Ao d 9) [(d 0, .inr (5, [.ref (d 1), .ref (d 2), .ref (d 3), .int (nI (S.2.1)), .int (th), .ref (d 4), .ref (d 5), .ref (d 6), .ref (d 7), .ref (d 8), .int (nI (S.2.2.2.length))])), (d 1, .inl (cI, (804, .inl K))), (d 2, .inl (cI, (804, .inl V))), (d 3, .inl (cI, (4, .inl sz))), (d 4, .inl (cI, (3, .inl cb))), (d 5, .inl (cI, (3, .inl ck))), (d 6, .inl (cI, (3, .inl (upd ca (cu) (nI (n + 1)))))), (d 7, .inl (cZ, (3, .inl (upd it (cu) (nI (1)))))), (d 8, .inl (cI, (6000, .inl ou)))] := hD
          have hMC2 := hMC.put hc3 (b, k, n + 1, true)
          rw [upd_same (show cb cu = nI b from hcb), upd_same (show ck cu = nI k from hck)] at hMC2
          refine lv_aload_n hx hb dX5_next_74 rfl (lv_at hl 2 rfl) ?_
          refine lv_aload_n hx hb dX5_next_75 rfl (lv_at hl 2 rfl) ?_
          refine gf_X5_26 hx hb hG hown hK hP 0 rfl rfl dX5_next_76 ?_
          refine lv_iload_n hx hb dX5_next_79 rfl (lv_at hl 3 rfl) ?_
          refine x_iald hx hb hK hP 5 0 rfl rfl (by omega) (by decide) dX5_next_80 ?_
          rw [hck]
          refine lv_iconst (v := nI 1) hx hb dX5_next_81 (by decide) ?_
          refine x_cmp_ne (tgt := 100) hx hb dX5_next_82 (by decide) (by omega) (by omega) (fun zc4 => ?_) (fun zc4 => False.elim (by first | omega | contradiction | exact absurd zc4 (m1_ne _ (by omega)) | exact absurd zc4 (by decide) | exact absurd (Eq.symm zc4) (m1_ne _ (by omega)) | (simp_all; done)))
          refine lv_aload_n hx hb dX5_next_100 rfl (lv_at hl 2 rfl) ?_
          refine gf_X5_7 hx hb hG hown hK hP 0 rfl rfl dX5_next_101 ?_
          refine lv_sipush (v := nI 201) hx hb dX5_next_104 (by decide) ?_
          refine lv_iload_n hx hb dX5_next_107 rfl (lv_at hl 1 rfl) ?_
          refine x_imul (v := nI (201 * b)) hx hb dX5_next_108 (pk_mul _ _) ?_
          refine lv_iload_n hx hb dX5_next_109 rfl (lv_at hl 0 rfl) ?_
          refine x_iadd (v := nI ((201 * b) + n)) hx hb dX5_next_110 (nI_add _ _) ?_
          refine x_iald hx hb hK hP 1 0 rfl rfl (by omega) (by decide) dX5_next_111 ?_
          rw [show K ((201 * b) + n) = kf (S.1 b) n from ((hMB b (by omega)).2.2 n (by omega)).1]
          have hB0 : MdAt D cI cZ d (stC S cu (some (b, k, n + 1, true))) th H := ⟨K, V, sz, cb, ck, _, _, ou, hP, hMB, hMC2, hMO⟩
          refine k2_V hx hb hml hown hG cs_X5_65 (c5_told l D cI cZ d (stC S cu (some (b, k, n + 1, true))) th (kf (S.1 b) n) hap) (by decide) (pzV hK rfl hB0.rc hB0) rfl hl.1 rfl (Nat.le_of_ble_eq_true rfl) dX5_next_112 ⟨Nat.zero_le _, Nat.zero_le _⟩ rfl hS (fun q h => h) (fun H locs hB0 hz hk hS => ?_)
          exact w_i (PB := (fun H => MdAt D cI cZ d (stC S cu (some (b, k, n + 1, true))) (nI 0) H)) rfl hB0 hS hx hb hr hlocks dX5_next_115
      · skip
        have e9 : sp_next S (nI (cu)) = (3, 0, S) := by simp [sp_next, hbk, hC, hlt]
        rw [e9]
        refine m_start (by decide) (Nat.le_of_ble_eq_true rfl) ?_
        intro p e s m below meth c hx hb hr hG hown hlocks hml hB ls hl
        have hl : lv_has ls 4 [(0, .ref (d 0)), (1, .int (nI (cu)))] := hl
        obtain ⟨hB0, hK⟩ := hB
        have hS : va_S (Ao d 9) s.heap s.heap [] := va_S.rf
        obtain ⟨K, V, sz, cb, ck, ca, it, ou, hP, hMB, hMC, hMO⟩ := id hB0
        have hP : va_P D vwCl [(d 0, .inr (5, [.ref (d 1), .ref (d 2), .ref (d 3), .int (nI (S.2.1)), .int (th), .ref (d 4), .ref (d 5), .ref (d 6), .ref (d 7), .ref (d 8), .int (nI (S.2.2.2.length))])), (d 1, .inl (cI, (804, .inl K))), (d 2, .inl (cI, (804, .inl V))), (d 3, .inl (cI, (4, .inl sz))), (d 4, .inl (cI, (3, .inl cb))), (d 5, .inl (cI, (3, .inl ck))), (d 6, .inl (cI, (3, .inl ca))), (d 7, .inl (cZ, (3, .inl it))), (d 8, .inl (cI, (6000, .inl ou)))] s.heap := hP
        have hD : va_D (Ao d 9) [(d 0, .inr (5, [.ref (d 1), .ref (d 2), .ref (d 3), .int (nI (S.2.1)), .int (th), .ref (d 4), .ref (d 5), .ref (d 6), .ref (d 7), .ref (d 8), .int (nI (S.2.2.2.length))])), (d 1, .inl (cI, (804, .inl K))), (d 2, .inl (cI, (804, .inl V))), (d 3, .inl (cI, (4, .inl sz))), (d 4, .inl (cI, (3, .inl cb))), (d 5, .inl (cI, (3, .inl ck))), (d 6, .inl (cI, (3, .inl ca))), (d 7, .inl (cZ, (3, .inl it))), (d 8, .inl (cI, (6000, .inl ou)))] := hap.D9
        obtain ⟨hcb, hck, hca, hit⟩ := MdQ_w (hMC cu (by omega)) b k n t hC
        refine lv_iload_n hx hb dX5_next_0 rfl (lv_at hl 1 rfl) ?_
        refine k1_S hx hb hml hown hG cs_X5_92 (by have h := c5_isCursor l D (nI (cu)); rw [rch_in (by omega) (by decide)] at h; exact h) (by decide) (pzS (hK.sub (tys' := []) [] rfl) trivial) rfl hl.1 rfl (Nat.le_of_ble_eq_true rfl) dX5_next_1 ⟨Nat.zero_le _, Nat.zero_le _⟩ rfl ?_
        refine x_ifb_ne (tgt := 13) hx hb dX5_next_4 (by decide) (fun zc1 => ?_) (fun zc1 => False.elim (by first | exact absurd zc1 (by decide) | omega | (simp_all; done)))
        refine lv_aload_n hx hb dX5_next_13 rfl (lv_at hl 0 rfl) ?_
        refine lv_iload_n hx hb dX5_next_14 rfl (lv_at hl 1 rfl) ?_
        refine k1_V hx hb hml hown hG cs_X5_95 (c5_isOpen_t l D cI cZ d S th cu b k n t (by omega) hC (by omega)) (by decide) (pzV hK rfl hB0.rc hB0) rfl hl.1 rfl (Nat.le_of_ble_eq_true rfl) dX5_next_15 ⟨Nat.zero_le _, Nat.zero_le _⟩ rfl ?_
        refine x_ifb_ne (tgt := 27) hx hb dX5_next_18 (by decide) (fun zc2 => ?_) (fun zc2 => False.elim (by first | exact absurd zc2 (by decide) | omega | (simp_all; done)))
        refine lv_aload_n hx hb dX5_next_27 rfl (lv_at hl 0 rfl) ?_
        refine gf_X5_23 hx hb hG hown hK hP 0 rfl rfl dX5_next_28 ?_
        refine lv_iload_n hx hb dX5_next_31 rfl (lv_at hl 1 rfl) ?_
        refine x_iald hx hb hK hP 4 0 rfl rfl (by omega) (by decide) dX5_next_32 ?_
        rw [hcb]
        refine lv_istore_n (lv' := [(2, .int (nI (b))), (0, .ref (d 0)), (1, .int (nI (cu)))]) hx hb dX5_next_33 rfl hl (by decide) rfl (fun ls hl => ?_)
        refine lv_aload_n hx hb dX5_next_34 rfl (lv_at hl 1 rfl) ?_
        refine gf_X5_29 hx hb hG hown hK hP 0 rfl rfl dX5_next_35 ?_
        refine lv_iload_n hx hb dX5_next_38 rfl (lv_at hl 2 rfl) ?_
        refine x_iald hx hb hK hP 6 0 rfl rfl (by omega) (by decide) dX5_next_39 ?_
        rw [hca]
        refine lv_istore_n (lv' := [(3, .int (nI (n))), (2, .int (nI (b))), (0, .ref (d 0)), (1, .int (nI (cu)))]) hx hb dX5_next_40 rfl hl (by decide) rfl (fun ls hl => ?_)
        refine lv_iload_n hx hb dX5_next_41 rfl (lv_at hl 0 rfl) ?_
        refine lv_aload_n hx hb dX5_next_42 rfl (lv_at hl 2 rfl) ?_
        refine gf_X5_16 hx hb hG hown hK hP 0 rfl rfl dX5_next_43 ?_
        refine lv_iload_n hx hb dX5_next_46 rfl (lv_at hl 1 rfl) ?_
        refine x_iald hx hb hK hP 3 0 rfl rfl (by omega) (by decide) dX5_next_47 ?_
        rw [(hMB (b) (by omega)).1]
        refine x_cmp_ne (tgt := 57) hx hb dX5_next_48 (by decide) (by omega) (by omega) (fun zc3 => False.elim (by first | omega | contradiction | exact absurd zc3 (m1_ne _ (by omega)) | exact absurd zc3 (by decide) | exact absurd (Eq.symm zc3) (m1_ne _ (by omega)) | (simp_all; done))) (fun zc3 => ?_)
        refine lv_aload_n hx hb dX5_next_51 rfl (lv_at hl 2 rfl) ?_
        refine lv_iconst (v := nI 3) hx hb dX5_next_52 (by decide) ?_
        refine k2_V hx hb hml hown hG cs_X5_58 (c5_refuse l D cI cZ d S th 3 hap) (by decide) (pzV hK rfl hB0.rc hB0) rfl hl.1 rfl (Nat.le_of_ble_eq_true rfl) dX5_next_53 ⟨Nat.zero_le _, Nat.zero_le _⟩ rfl hS (fun q h => h) (fun H locs hB0 hz hk hS => ?_)
        exact w_i (PB := (fun H => MdAt D cI cZ d S (nI 3) H)) rfl hB0 hS hx hb hr hlocks dX5_next_56
  · skip
    have e9 : sp_next S x = (1, 0, S) := by simp [sp_next, hbk]
    rw [e9]
    refine m_start (by decide) (Nat.le_of_ble_eq_true rfl) ?_
    intro p e s m below meth c hx hb hr hG hown hlocks hml hB ls hl
    have hl : lv_has ls 4 [(0, .ref (d 0)), (1, .int (x))] := hl
    obtain ⟨hB0, hK⟩ := hB
    have hS : va_S (Ao d 9) s.heap s.heap [] := va_S.rf
    refine lv_iload_n hx hb dX5_next_0 rfl (lv_at hl 1 rfl) ?_
    refine k1_S hx hb hml hown hG cs_X5_92 (by have h := c5_isCursor l D x; rw [hno] at h; exact h) (by decide) (pzS (hK.sub (tys' := []) [] rfl) trivial) rfl hl.1 rfl (Nat.le_of_ble_eq_true rfl) dX5_next_1 ⟨Nat.zero_le _, Nat.zero_le _⟩ rfl ?_
    refine x_ifb_ne (tgt := 13) hx hb dX5_next_4 (by decide) (fun zc1 => False.elim (by first | exact absurd zc1 (by decide) | omega | (simp_all; done))) (fun zc1 => ?_)
    refine lv_aload_n hx hb dX5_next_7 rfl (lv_at hl 0 rfl) ?_
    refine lv_iconst (v := nI 1) hx hb dX5_next_8 (by decide) ?_
    refine k2_V hx hb hml hown hG cs_X5_58 (c5_refuse l D cI cZ d S th 1 hap) (by decide) (pzV hK rfl hB0.rc hB0) rfl hl.1 rfl (Nat.le_of_ble_eq_true rfl) dX5_next_9 ⟨Nat.zero_le _, Nat.zero_le _⟩ rfl hS (fun q h => h) (fun H locs hB0 hz hk hS => ?_)
    exact w_i (PB := (fun H => MdAt D cI cZ d S (nI 1) H)) rfl hB0 hS hx hb hr hlocks dX5_next_12
set_option maxHeartbeats 4000000 in
set_option maxRecDepth 100000 in
theorem m_removeAt (l : Launch) (D : va_G) (cI cZ : ClassId) (d : Nat → Nat) (S : St) (th : Int32) (x : Int32) (hI : Inv S) (hap : Ap d 9) : Met l yX5_removeAt (ws_ yX5_removeAt cX5_removeAt 3 (some .int)) (rmN 4) (va_Pc [.ref (d 0), .int x] (pz D [(cI, .int), (cZ, .boolean)] (fun H => MdAt D cI cZ d S th H))) (Wq (some (.int (sp_removeAt S x).2.1)) (fun H => MdAt D cI cZ d (sp_removeAt S x).2.2 (nI (sp_removeAt S x).1) H) (Ao d 9)) 0 0 (Ao d 9) := by
  have hbd2 : S.2.1 ≤ 40 := hI.2.2.2.1
  have hCC : ∀ cu, cu < 3 → ∀ y, S.2.2.1 cu = some y → y.1 < 4 := fun cu hcu y hy => by have h := hI.2.2.2.2.1 cu hcu; rw [hy] at h; exact h.1
  rcases bkn_cases 3 (by decide) x with ⟨cu, hc3, rfl, hbk⟩ | ⟨hbk, hno⟩
  · have hCu := hI.2.2.2.2.1 cu hc3
    cases hC : S.2.2.1 cu with
    | none =>
      have e9 : sp_removeAt S (nI (cu)) = (2, 0, S) := by simp [sp_removeAt, hbk, hC]
      rw [e9]
      refine m_start (by decide) (Nat.le_of_ble_eq_true rfl) ?_
      intro p e s m below meth c hx hb hr hG hown hlocks hml hB ls hl
      have hl : lv_has ls 3 [(0, .ref (d 0)), (1, .int (nI (cu)))] := hl
      obtain ⟨hB0, hK⟩ := hB
      have hS : va_S (Ao d 9) s.heap s.heap [] := va_S.rf
      obtain ⟨K, V, sz, cb, ck, ca, it, ou, hP, hMB, hMC, hMO⟩ := id hB0
      have hP : va_P D vwCl [(d 0, .inr (5, [.ref (d 1), .ref (d 2), .ref (d 3), .int (nI (S.2.1)), .int (th), .ref (d 4), .ref (d 5), .ref (d 6), .ref (d 7), .ref (d 8), .int (nI (S.2.2.2.length))])), (d 1, .inl (cI, (804, .inl K))), (d 2, .inl (cI, (804, .inl V))), (d 3, .inl (cI, (4, .inl sz))), (d 4, .inl (cI, (3, .inl cb))), (d 5, .inl (cI, (3, .inl ck))), (d 6, .inl (cI, (3, .inl ca))), (d 7, .inl (cZ, (3, .inl it))), (d 8, .inl (cI, (6000, .inl ou)))] s.heap := hP
      have hD : va_D (Ao d 9) [(d 0, .inr (5, [.ref (d 1), .ref (d 2), .ref (d 3), .int (nI (S.2.1)), .int (th), .ref (d 4), .ref (d 5), .ref (d 6), .ref (d 7), .ref (d 8), .int (nI (S.2.2.2.length))])), (d 1, .inl (cI, (804, .inl K))), (d 2, .inl (cI, (804, .inl V))), (d 3, .inl (cI, (4, .inl sz))), (d 4, .inl (cI, (3, .inl cb))), (d 5, .inl (cI, (3, .inl ck))), (d 6, .inl (cI, (3, .inl ca))), (d 7, .inl (cZ, (3, .inl it))), (d 8, .inl (cI, (6000, .inl ou)))] := hap.D9
      have hcb := MdQ_n (hMC cu (by omega)) hC
      refine lv_iload_n hx hb dX5_removeAt_0 rfl (lv_at hl 1 rfl) ?_
      refine k1_S hx hb hml hown hG cs_X5_92 (by have h := c5_isCursor l D (nI (cu)); rw [rch_in (by omega) (by decide)] at h; exact h) (by decide) (pzS (hK.sub (tys' := []) [] rfl) trivial) rfl hl.1 rfl (Nat.le_of_ble_eq_true rfl) dX5_removeAt_1 ⟨Nat.zero_le _, Nat.zero_le _⟩ rfl ?_
      refine x_ifb_ne (tgt := 13) hx hb dX5_removeAt_4 (by decide) (fun zc1 => ?_) (fun zc1 => False.elim (by first | exact absurd zc1 (by decide) | omega | (simp_all; done)))
      refine lv_aload_n hx hb dX5_removeAt_13 rfl (lv_at hl 0 rfl) ?_
      refine lv_iload_n hx hb dX5_removeAt_14 rfl (lv_at hl 1 rfl) ?_
      refine k1_V hx hb hml hown hG cs_X5_98 (c5_canChange_f l D cI cZ d S th cu (by omega) hC) (by decide) (pzV hK rfl hB0.rc hB0) rfl hl.1 rfl (Nat.le_of_ble_eq_true rfl) dX5_removeAt_15 ⟨Nat.zero_le _, Nat.zero_le _⟩ rfl ?_
      refine x_ifb_ne (tgt := 27) hx hb dX5_removeAt_18 (by decide) (fun zc2 => False.elim (by first | exact absurd zc2 (by decide) | omega | (simp_all; done))) (fun zc2 => ?_)
      refine lv_aload_n hx hb dX5_removeAt_21 rfl (lv_at hl 0 rfl) ?_
      refine lv_iconst (v := nI 2) hx hb dX5_removeAt_22 (by decide) ?_
      refine k2_V hx hb hml hown hG cs_X5_58 (c5_refuse l D cI cZ d S th 2 hap) (by decide) (pzV hK rfl hB0.rc hB0) rfl hl.1 rfl (Nat.le_of_ble_eq_true rfl) dX5_removeAt_23 ⟨Nat.zero_le _, Nat.zero_le _⟩ rfl hS (fun q h => h) (fun H locs hB0 hz hk hS => ?_)
      exact w_i (PB := (fun H => MdAt D cI cZ d S (nI 2) H)) rfl hB0 hS hx hb hr hlocks dX5_removeAt_26
    | some x9 =>
      obtain ⟨b, k, n, t⟩ := x9
      rw [hC] at hCu
      obtain ⟨hb4, hk3, hnl, ht1⟩ := hCu
      have hN := hI.1 b hb4
      by_cases h3 : b = 3
      · skip
        have e9 : sp_removeAt S (nI (cu)) = (2, 0, S) := by simp [sp_removeAt, hbk, hC, h3]
        rw [e9]
        refine m_start (by decide) (Nat.le_of_ble_eq_true rfl) ?_
        intro p e s m below meth c hx hb hr hG hown hlocks hml hB ls hl
        have hl : lv_has ls 3 [(0, .ref (d 0)), (1, .int (nI (cu)))] := hl
        obtain ⟨hB0, hK⟩ := hB
        have hS : va_S (Ao d 9) s.heap s.heap [] := va_S.rf
        obtain ⟨K, V, sz, cb, ck, ca, it, ou, hP, hMB, hMC, hMO⟩ := id hB0
        have hP : va_P D vwCl [(d 0, .inr (5, [.ref (d 1), .ref (d 2), .ref (d 3), .int (nI (S.2.1)), .int (th), .ref (d 4), .ref (d 5), .ref (d 6), .ref (d 7), .ref (d 8), .int (nI (S.2.2.2.length))])), (d 1, .inl (cI, (804, .inl K))), (d 2, .inl (cI, (804, .inl V))), (d 3, .inl (cI, (4, .inl sz))), (d 4, .inl (cI, (3, .inl cb))), (d 5, .inl (cI, (3, .inl ck))), (d 6, .inl (cI, (3, .inl ca))), (d 7, .inl (cZ, (3, .inl it))), (d 8, .inl (cI, (6000, .inl ou)))] s.heap := hP
        have hD : va_D (Ao d 9) [(d 0, .inr (5, [.ref (d 1), .ref (d 2), .ref (d 3), .int (nI (S.2.1)), .int (th), .ref (d 4), .ref (d 5), .ref (d 6), .ref (d 7), .ref (d 8), .int (nI (S.2.2.2.length))])), (d 1, .inl (cI, (804, .inl K))), (d 2, .inl (cI, (804, .inl V))), (d 3, .inl (cI, (4, .inl sz))), (d 4, .inl (cI, (3, .inl cb))), (d 5, .inl (cI, (3, .inl ck))), (d 6, .inl (cI, (3, .inl ca))), (d 7, .inl (cZ, (3, .inl it))), (d 8, .inl (cI, (6000, .inl ou)))] := hap.D9
        obtain ⟨hcb, hck, hca, hit⟩ := MdQ_w (hMC cu (by omega)) b k n t hC
        refine lv_iload_n hx hb dX5_removeAt_0 rfl (lv_at hl 1 rfl) ?_
        refine k1_S hx hb hml hown hG cs_X5_92 (by have h := c5_isCursor l D (nI (cu)); rw [rch_in (by omega) (by decide)] at h; exact h) (by decide) (pzS (hK.sub (tys' := []) [] rfl) trivial) rfl hl.1 rfl (Nat.le_of_ble_eq_true rfl) dX5_removeAt_1 ⟨Nat.zero_le _, Nat.zero_le _⟩ rfl ?_
        refine x_ifb_ne (tgt := 13) hx hb dX5_removeAt_4 (by decide) (fun zc1 => ?_) (fun zc1 => False.elim (by first | exact absurd zc1 (by decide) | omega | (simp_all; done)))
        refine lv_aload_n hx hb dX5_removeAt_13 rfl (lv_at hl 0 rfl) ?_
        refine lv_iload_n hx hb dX5_removeAt_14 rfl (lv_at hl 1 rfl) ?_
        refine k1_V hx hb hml hown hG cs_X5_98 (c5_canChange_q l D cI cZ d S th cu b k n t (by omega) hC (by omega) h3) (by decide) (pzV hK rfl hB0.rc hB0) rfl hl.1 rfl (Nat.le_of_ble_eq_true rfl) dX5_removeAt_15 ⟨Nat.zero_le _, Nat.zero_le _⟩ rfl ?_
        refine x_ifb_ne (tgt := 27) hx hb dX5_removeAt_18 (by decide) (fun zc2 => False.elim (by first | exact absurd zc2 (by decide) | omega | (simp_all; done))) (fun zc2 => ?_)
        refine lv_aload_n hx hb dX5_removeAt_21 rfl (lv_at hl 0 rfl) ?_
        refine lv_iconst (v := nI 2) hx hb dX5_removeAt_22 (by decide) ?_
        refine k2_V hx hb hml hown hG cs_X5_58 (c5_refuse l D cI cZ d S th 2 hap) (by decide) (pzV hK rfl hB0.rc hB0) rfl hl.1 rfl (Nat.le_of_ble_eq_true rfl) dX5_removeAt_23 ⟨Nat.zero_le _, Nat.zero_le _⟩ rfl hS (fun q h => h) (fun H locs hB0 hz hk hS => ?_)
        exact w_i (PB := (fun H => MdAt D cI cZ d S (nI 2) H)) rfl hB0 hS hx hb hr hlocks dX5_removeAt_26
      · cases ht : t with
        | false =>
          have e9 : sp_removeAt S (nI (cu)) = (2, 0, S) := by simp [sp_removeAt, hbk, hC, h3, ht]
          rw [e9]
          refine m_start (by decide) (Nat.le_of_ble_eq_true rfl) ?_
          intro p e s m below meth c hx hb hr hG hown hlocks hml hB ls hl
          have hl : lv_has ls 3 [(0, .ref (d 0)), (1, .int (nI (cu)))] := hl
          obtain ⟨hB0, hK⟩ := hB
          have hS : va_S (Ao d 9) s.heap s.heap [] := va_S.rf
          obtain ⟨K, V, sz, cb, ck, ca, it, ou, hP, hMB, hMC, hMO⟩ := id hB0
          have hP : va_P D vwCl [(d 0, .inr (5, [.ref (d 1), .ref (d 2), .ref (d 3), .int (nI (S.2.1)), .int (th), .ref (d 4), .ref (d 5), .ref (d 6), .ref (d 7), .ref (d 8), .int (nI (S.2.2.2.length))])), (d 1, .inl (cI, (804, .inl K))), (d 2, .inl (cI, (804, .inl V))), (d 3, .inl (cI, (4, .inl sz))), (d 4, .inl (cI, (3, .inl cb))), (d 5, .inl (cI, (3, .inl ck))), (d 6, .inl (cI, (3, .inl ca))), (d 7, .inl (cZ, (3, .inl it))), (d 8, .inl (cI, (6000, .inl ou)))] s.heap := hP
          have hD : va_D (Ao d 9) [(d 0, .inr (5, [.ref (d 1), .ref (d 2), .ref (d 3), .int (nI (S.2.1)), .int (th), .ref (d 4), .ref (d 5), .ref (d 6), .ref (d 7), .ref (d 8), .int (nI (S.2.2.2.length))])), (d 1, .inl (cI, (804, .inl K))), (d 2, .inl (cI, (804, .inl V))), (d 3, .inl (cI, (4, .inl sz))), (d 4, .inl (cI, (3, .inl cb))), (d 5, .inl (cI, (3, .inl ck))), (d 6, .inl (cI, (3, .inl ca))), (d 7, .inl (cZ, (3, .inl it))), (d 8, .inl (cI, (6000, .inl ou)))] := hap.D9
          obtain ⟨hcb, hck, hca, hit⟩ := MdQ_w (hMC cu (by omega)) b k n t hC
          refine lv_iload_n hx hb dX5_removeAt_0 rfl (lv_at hl 1 rfl) ?_
          refine k1_S hx hb hml hown hG cs_X5_92 (by have h := c5_isCursor l D (nI (cu)); rw [rch_in (by omega) (by decide)] at h; exact h) (by decide) (pzS (hK.sub (tys' := []) [] rfl) trivial) rfl hl.1 rfl (Nat.le_of_ble_eq_true rfl) dX5_removeAt_1 ⟨Nat.zero_le _, Nat.zero_le _⟩ rfl ?_
          refine x_ifb_ne (tgt := 13) hx hb dX5_removeAt_4 (by decide) (fun zc1 => ?_) (fun zc1 => False.elim (by first | exact absurd zc1 (by decide) | omega | (simp_all; done)))
          refine lv_aload_n hx hb dX5_removeAt_13 rfl (lv_at hl 0 rfl) ?_
          refine lv_iload_n hx hb dX5_removeAt_14 rfl (lv_at hl 1 rfl) ?_
          refine k1_V hx hb hml hown hG cs_X5_98 (c5_canChange_n l D cI cZ d S th cu b k n t (by omega) hC (by omega) h3 ht) (by decide) (pzV hK rfl hB0.rc hB0) rfl hl.1 rfl (Nat.le_of_ble_eq_true rfl) dX5_removeAt_15 ⟨Nat.zero_le _, Nat.zero_le _⟩ rfl ?_
          refine x_ifb_ne (tgt := 27) hx hb dX5_removeAt_18 (by decide) (fun zc2 => False.elim (by first | exact absurd zc2 (by decide) | omega | (simp_all; done))) (fun zc2 => ?_)
          refine lv_aload_n hx hb dX5_removeAt_21 rfl (lv_at hl 0 rfl) ?_
          refine lv_iconst (v := nI 2) hx hb dX5_removeAt_22 (by decide) ?_
          refine k2_V hx hb hml hown hG cs_X5_58 (c5_refuse l D cI cZ d S th 2 hap) (by decide) (pzV hK rfl hB0.rc hB0) rfl hl.1 rfl (Nat.le_of_ble_eq_true rfl) dX5_removeAt_23 ⟨Nat.zero_le _, Nat.zero_le _⟩ rfl hS (fun q h => h) (fun H locs hB0 hz hk hS => ?_)
          exact w_i (PB := (fun H => MdAt D cI cZ d S (nI 2) H)) rfl hB0 hS hx hb hr hlocks dX5_removeAt_26
        | true =>
          have hn1 := ht1 ht
          have e9 : sp_removeAt S (nI (cu)) = (0, nI ((S.1 b).length - 1), clB (stC (upB S b ((S.1 b).eraseIdx (n - 1))) cu (some (b, k, n - 1, false))) b (nI cu)) := by simp [sp_removeAt, hbk, hC, h3, ht]
          rw [e9]
          refine m_start (by decide) (Nat.le_of_ble_eq_true rfl) ?_
          intro p e s m below meth c hx hb hr hG hown hlocks hml hB ls hl
          have hl : lv_has ls 3 [(0, .ref (d 0)), (1, .int (nI (cu)))] := hl
          obtain ⟨hB0, hK⟩ := hB
          have hS : va_S (Ao d 9) s.heap s.heap [] := va_S.rf
          obtain ⟨K, V, sz, cb, ck, ca, it, ou, hP, hMB, hMC, hMO⟩ := id hB0
          have hP : va_P D vwCl [(d 0, .inr (5, [.ref (d 1), .ref (d 2), .ref (d 3), .int (nI (S.2.1)), .int (th), .ref (d 4), .ref (d 5), .ref (d 6), .ref (d 7), .ref (d 8), .int (nI (S.2.2.2.length))])), (d 1, .inl (cI, (804, .inl K))), (d 2, .inl (cI, (804, .inl V))), (d 3, .inl (cI, (4, .inl sz))), (d 4, .inl (cI, (3, .inl cb))), (d 5, .inl (cI, (3, .inl ck))), (d 6, .inl (cI, (3, .inl ca))), (d 7, .inl (cZ, (3, .inl it))), (d 8, .inl (cI, (6000, .inl ou)))] s.heap := hP
          have hD : va_D (Ao d 9) [(d 0, .inr (5, [.ref (d 1), .ref (d 2), .ref (d 3), .int (nI (S.2.1)), .int (th), .ref (d 4), .ref (d 5), .ref (d 6), .ref (d 7), .ref (d 8), .int (nI (S.2.2.2.length))])), (d 1, .inl (cI, (804, .inl K))), (d 2, .inl (cI, (804, .inl V))), (d 3, .inl (cI, (4, .inl sz))), (d 4, .inl (cI, (3, .inl cb))), (d 5, .inl (cI, (3, .inl ck))), (d 6, .inl (cI, (3, .inl ca))), (d 7, .inl (cZ, (3, .inl it))), (d 8, .inl (cI, (6000, .inl ou)))] := hap.D9
          obtain ⟨hcb, hck, hca, hit⟩ := MdQ_w (hMC cu (by omega)) b k n t hC
          refine lv_iload_n hx hb dX5_removeAt_0 rfl (lv_at hl 1 rfl) ?_
          refine k1_S hx hb hml hown hG cs_X5_92 (by have h := c5_isCursor l D (nI (cu)); rw [rch_in (by omega) (by decide)] at h; exact h) (by decide) (pzS (hK.sub (tys' := []) [] rfl) trivial) rfl hl.1 rfl (Nat.le_of_ble_eq_true rfl) dX5_removeAt_1 ⟨Nat.zero_le _, Nat.zero_le _⟩ rfl ?_
          refine x_ifb_ne (tgt := 13) hx hb dX5_removeAt_4 (by decide) (fun zc1 => ?_) (fun zc1 => False.elim (by first | exact absurd zc1 (by decide) | omega | (simp_all; done)))
          refine lv_aload_n hx hb dX5_removeAt_13 rfl (lv_at hl 0 rfl) ?_
          refine lv_iload_n hx hb dX5_removeAt_14 rfl (lv_at hl 1 rfl) ?_
          refine k1_V hx hb hml hown hG cs_X5_98 (c5_canChange_y l D cI cZ d S th cu b k n t (by omega) hC (by omega) h3 ht) (by decide) (pzV hK rfl hB0.rc hB0) rfl hl.1 rfl (Nat.le_of_ble_eq_true rfl) dX5_removeAt_15 ⟨Nat.zero_le _, Nat.zero_le _⟩ rfl ?_
          refine x_ifb_ne (tgt := 27) hx hb dX5_removeAt_18 (by decide) (fun zc2 => ?_) (fun zc2 => False.elim (by first | exact absurd zc2 (by decide) | omega | (simp_all; done)))
          refine lv_aload_n hx hb dX5_removeAt_27 rfl (lv_at hl 0 rfl) ?_
          refine gf_X5_23 hx hb hG hown hK hP 0 rfl rfl dX5_removeAt_28 ?_
          refine lv_iload_n hx hb dX5_removeAt_31 rfl (lv_at hl 1 rfl) ?_
          refine x_iald hx hb hK hP 4 0 rfl rfl (by omega) (by decide) dX5_removeAt_32 ?_
          rw [hcb]
          refine lv_istore_n (lv' := [(2, .int (nI (b))), (0, .ref (d 0)), (1, .int (nI (cu)))]) hx hb dX5_removeAt_33 rfl hl (by decide) rfl (fun ls hl => ?_)
          refine lv_aload_n hx hb dX5_removeAt_34 rfl (lv_at hl 1 rfl) ?_
          refine gf_X5_29 hx hb hG hown hK hP 0 rfl rfl dX5_removeAt_35 ?_
          refine lv_iload_n hx hb dX5_removeAt_38 rfl (lv_at hl 2 rfl) ?_
          refine lv_dup2_11 hx hb dX5_removeAt_39 rfl rfl ?_
          refine x_iald hx hb hK hP 6 0 rfl rfl (by omega) (by decide) dX5_removeAt_40 ?_
          rw [hca]
          refine lv_iconst (v := nI 1) hx hb dX5_removeAt_41 (by decide) ?_
          refine x_isub (v := nI (n - 1)) hx hb dX5_removeAt_42 (pk_sub (by omega)) ?_
          refine x_iast hx hb hK hP hD hS 6 0 rfl rfl (by omega) (by decide) dX5_removeAt_43 (fun H locs hP hD hS => ?_)
          have hP : va_P D vwCl [(d 0, .inr (5, [.ref (d 1), .ref (d 2), .ref (d 3), .int (nI (S.2.1)), .int (th), .ref (d 4), .ref (d 5), .ref (d 6), .ref (d 7), .ref (d 8), .int (nI (S.2.2.2.length))])), (d 1, .inl (cI, (804, .inl K))), (d 2, .inl (cI, (804, .inl V))), (d 3, .inl (cI, (4, .inl sz))), (d 4, .inl (cI, (3, .inl cb))), (d 5, .inl (cI, (3, .inl ck))), (d 6, .inl (cI, (3, .inl (upd ca (cu) (nI (n - 1)))))), (d 7, .inl (cZ, (3, .inl it))), (d 8, .inl (cI, (6000, .inl ou)))] H := hP
          have hD : va_D (Ao d 9) [(d 0, .inr (5, [.ref (d 1), .ref (d 2), .ref (d 3), .int (nI (S.2.1)), .int (th), .ref (d 4), .ref (d 5), .ref (d 6), .ref (d 7), .ref (d 8), .int (nI (S.2.2.2.length))])), (d 1, .inl (cI, (804, .inl K))), (d 2, .inl (cI, (804, .inl V))), (d 3, .inl (cI, (4, .inl sz))), (d 4, .inl (cI, (3, .inl cb))), (d 5, .inl (cI, (3, .inl ck))), (d 6, .inl (cI, (3, .inl (upd ca (cu) (nI (n - 1)))))), (d 7, .inl (cZ, (3, .inl it))), (d 8, .inl (cI, (6000, .inl ou)))] := hD
          refine lv_aload_n hx hb dX5_removeAt_44 rfl (lv_at hl 1 rfl) ?_
          refine gf_X5_32 hx hb hG hown hK hP 0 rfl rfl dX5_removeAt_45 ?_
          refine lv_iload_n hx hb dX5_removeAt_48 rfl (lv_at hl 2 rfl) ?_
          refine lv_iconst (v := nI 0) hx hb dX5_removeAt_49 (by decide) ?_
          refine x_zast hx hb hK hP hD hS 7 1 rfl rfl rfl (by omega) (by decide) dX5_removeAt_50 (fun H locs hP hD hS => ?_)
          have hP : va_P D vwCl [(d 0, .inr (5, [.ref (d 1), .ref (d 2), .ref (d 3), .int (nI (S.2.1)), .int (th), .ref (d 4), .ref (d 5), .ref (d 6), .ref (d 7), .ref (d 8), .int (nI (S.2.2.2.length))])), (d 1, .inl (cI, (804, .inl K))), (d 2, .inl (cI, (804, .inl V))), (d 3, .inl (cI, (4, .inl sz))), (d 4, .inl (cI, (3, .inl cb))), (d 5, .inl (cI, (3, .inl ck))), (d 6, .inl (cI, (3, .inl (upd ca (cu) (nI (n - 1)))))), (d 7, .inl (cZ, (3, .inl (upd it (cu) (nI (0)))))), (d 8, .inl (cI, (6000, .inl ou)))] H := hP
          have hD : va_D (Ao d 9) [(d 0, .inr (5, [.ref (d 1), .ref (d 2), .ref (d 3), .int (nI (S.2.1)), .int (th), .ref (d 4), .ref (d 5), .ref (d 6), .ref (d 7), .ref (d 8), .int (nI (S.2.2.2.length))])), (d 1, .inl (cI, (804, .inl K))), (d 2, .inl (cI, (804, .inl V))), (d 3, .inl (cI, (4, .inl sz))), (d 4, .inl (cI, (3, .inl cb))), (d 5, .inl (cI, (3, .inl ck))), (d 6, .inl (cI, (3, .inl (upd ca (cu) (nI (n - 1)))))), (d 7, .inl (cZ, (3, .inl (upd it (cu) (nI (0)))))), (d 8, .inl (cI, (6000, .inl ou)))] := hD
          have hMC2 := hMC.put hc3 (b, k, n - 1, false)
          rw [upd_same (show cb cu = nI b from hcb), upd_same (show ck cu = nI k from hck)] at hMC2
          have hCC : ∀ c9, c9 < 3 → ∀ y, (stC S cu (some (b, k, n - 1, false))).2.2.1 c9 = some y → y.1 < 4 := fun c9 h9 y hy => by
            have hy : va_up S.2.2.1 cu (some (b, k, n - 1, false)) c9 = some y := hy
            rw [up_at] at hy
            by_cases e9 : c9 = cu
            · rw [if_pos e9] at hy; cases hy; exact hb4
            · rw [if_neg e9] at hy; exact hCC c9 h9 y hy
          refine lv_aload_n hx hb dX5_removeAt_51 rfl (lv_at hl 1 rfl) ?_
          refine lv_iload_n hx hb dX5_removeAt_52 rfl (lv_at hl 0 rfl) ?_
          refine lv_aload_n hx hb dX5_removeAt_53 rfl (lv_at hl 1 rfl) ?_
          refine gf_X5_29 hx hb hG hown hK hP 0 rfl rfl dX5_removeAt_54 ?_
          refine lv_iload_n hx hb dX5_removeAt_57 rfl (lv_at hl 2 rfl) ?_
          refine x_iald hx hb hK hP 6 0 rfl rfl (by omega) (by decide) dX5_removeAt_58 ?_
          rw [show (upd ca (cu) (nI (n - 1))) cu = nI (n - 1) from by rw [upd_at, if_pos rfl]]
          have hB0 : MdAt D cI cZ d (stC S cu (some (b, k, n - 1, false))) th H := ⟨K, V, sz, cb, ck, _, _, ou, hP, hMB, hMC2, hMO⟩
          refine k2_V hx hb hml hown hG cs_X5_46 (c5_takes l D cI cZ d (stC S cu (some (b, k, n - 1, false))) th b (n - 1) (by omega) (by show n - 1 < (S.1 b).length; omega) hap) (by decide) (pzV hK rfl hB0.rc hB0) rfl hl.1 rfl (Nat.le_of_ble_eq_true rfl) dX5_removeAt_59 ⟨Nat.zero_le _, Nat.zero_le _⟩ rfl hS (fun q h => h) (fun H locs hB0 hz hk hS => ?_)
          refine lv_aload_n hx hb dX5_removeAt_62 rfl (lv_at hl 1 rfl) ?_
          refine lv_iload_n hx hb dX5_removeAt_63 rfl (lv_at hl 0 rfl) ?_
          refine lv_iload_n hx hb dX5_removeAt_64 rfl (lv_at hl 2 rfl) ?_
          refine k2_V hx hb hml hown hG cs_X5_62 (c5_closes l D cI cZ d (upB (stC S cu (some (b, k, n - 1, false))) b (((stC S cu (some (b, k, n - 1, false))).1 b).eraseIdx (n - 1))) th b (nI (cu)) (by omega) hCC hap) (by decide) (pzV hK rfl hB0.rc hB0) rfl hl.1 rfl (Nat.le_of_ble_eq_true rfl) dX5_removeAt_65 ⟨Nat.zero_le _, Nat.zero_le _⟩ rfl hS (fun q h => h) (fun H locs hB0 hz hk hS => ?_)
          obtain ⟨K, V, sz, cb, ck, ca, it, ou, hP, hMB, hMC, hMO⟩ := id hB0
          have hMB : MdB (upB (stC S cu (some (b, k, n - 1, false))) b (((stC S cu (some (b, k, n - 1, false))).1 b).eraseIdx (n - 1))).1 K V sz := hMB
          have hP : va_P D vwCl [(d 0, .inr (5, [.ref (d 1), .ref (d 2), .ref (d 3), .int (nI (S.2.1)), .int (th), .ref (d 4), .ref (d 5), .ref (d 6), .ref (d 7), .ref (d 8), .int (nI (S.2.2.2.length))])), (d 1, .inl (cI, (804, .inl K))), (d 2, .inl (cI, (804, .inl V))), (d 3, .inl (cI, (4, .inl sz))), (d 4, .inl (cI, (3, .inl cb))), (d 5, .inl (cI, (3, .inl ck))), (d 6, .inl (cI, (3, .inl ca))), (d 7, .inl (cZ, (3, .inl it))), (d 8, .inl (cI, (6000, .inl ou)))] H := hP
          have hD : va_D (Ao d 9) [(d 0, .inr (5, [.ref (d 1), .ref (d 2), .ref (d 3), .int (nI (S.2.1)), .int (th), .ref (d 4), .ref (d 5), .ref (d 6), .ref (d 7), .ref (d 8), .int (nI (S.2.2.2.length))])), (d 1, .inl (cI, (804, .inl K))), (d 2, .inl (cI, (804, .inl V))), (d 3, .inl (cI, (4, .inl sz))), (d 4, .inl (cI, (3, .inl cb))), (d 5, .inl (cI, (3, .inl ck))), (d 6, .inl (cI, (3, .inl ca))), (d 7, .inl (cZ, (3, .inl it))), (d 8, .inl (cI, (6000, .inl ou)))] := hap.D9
          have hsz : sz b = nI ((S.1 b).length - 1) := by
            have h := (hMB b (by omega)).1
            rw [h]
            show nI (va_up S.1 b ((S.1 b).eraseIdx (n - 1)) b).length = _
            rw [up_at, if_pos rfl, era_len (by omega)]
          refine lv_aload_n hx hb dX5_removeAt_68 rfl (lv_at hl 1 rfl) ?_
          refine lv_aload_n hx hb dX5_removeAt_69 rfl (lv_at hl 1 rfl) ?_
          refine gf_X5_16 hx hb hG hown hK hP 0 rfl rfl dX5_removeAt_70 ?_
          refine lv_iload_n hx hb dX5_removeAt_73 rfl (lv_at hl 0 rfl) ?_
          refine x_iald hx hb hK hP 3 0 rfl rfl (by omega) (by decide) dX5_removeAt_74 ?_
          rw [hsz]
          refine k2_V hx hb hml hown hG cs_X5_65 (c5_told l D cI cZ d (clB (upB (stC S cu (some (b, k, n - 1, false))) b (((stC S cu (some (b, k, n - 1, false))).1 b).eraseIdx (n - 1))) b (nI (cu))) th (nI ((S.1 b).length - 1)) hap) (by decide) (pzV hK rfl hB0.rc hB0) rfl hl.1 rfl (Nat.le_of_ble_eq_true rfl) dX5_removeAt_75 ⟨Nat.zero_le _, Nat.zero_le _⟩ rfl hS (fun q h => h) (fun H locs hB0 hz hk hS => ?_)
          exact w_i (PB := (fun H => MdAt D cI cZ d (clB (stC (upB S b ((S.1 b).eraseIdx (n - 1))) cu (some (b, k, n - 1, false))) b (nI cu)) (nI 0) H)) rfl hB0 hS hx hb hr hlocks dX5_removeAt_78
  · skip
    have e9 : sp_removeAt S x = (1, 0, S) := by simp [sp_removeAt, hbk]
    rw [e9]
    refine m_start (by decide) (Nat.le_of_ble_eq_true rfl) ?_
    intro p e s m below meth c hx hb hr hG hown hlocks hml hB ls hl
    have hl : lv_has ls 3 [(0, .ref (d 0)), (1, .int (x))] := hl
    obtain ⟨hB0, hK⟩ := hB
    have hS : va_S (Ao d 9) s.heap s.heap [] := va_S.rf
    refine lv_iload_n hx hb dX5_removeAt_0 rfl (lv_at hl 1 rfl) ?_
    refine k1_S hx hb hml hown hG cs_X5_92 (by have h := c5_isCursor l D x; rw [hno] at h; exact h) (by decide) (pzS (hK.sub (tys' := []) [] rfl) trivial) rfl hl.1 rfl (Nat.le_of_ble_eq_true rfl) dX5_removeAt_1 ⟨Nat.zero_le _, Nat.zero_le _⟩ rfl ?_
    refine x_ifb_ne (tgt := 13) hx hb dX5_removeAt_4 (by decide) (fun zc1 => False.elim (by first | exact absurd zc1 (by decide) | omega | (simp_all; done))) (fun zc1 => ?_)
    refine lv_aload_n hx hb dX5_removeAt_7 rfl (lv_at hl 0 rfl) ?_
    refine lv_iconst (v := nI 1) hx hb dX5_removeAt_8 (by decide) ?_
    refine k2_V hx hb hml hown hG cs_X5_58 (c5_refuse l D cI cZ d S th 1 hap) (by decide) (pzV hK rfl hB0.rc hB0) rfl hl.1 rfl (Nat.le_of_ble_eq_true rfl) dX5_removeAt_9 ⟨Nat.zero_le _, Nat.zero_le _⟩ rfl hS (fun q h => h) (fun H locs hB0 hz hk hS => ?_)
    exact w_i (PB := (fun H => MdAt D cI cZ d S (nI 1) H)) rfl hB0 hS hx hb hr hlocks dX5_removeAt_12
set_option maxHeartbeats 4000000 in
set_option maxRecDepth 100000 in
theorem m_setAt (l : Launch) (D : va_G) (cI cZ : ClassId) (d : Nat → Nat) (S : St) (th : Int32) (x v : Int32) (hI : Inv S) (hap : Ap d 9) : Met l yX5_setAt (ws_ yX5_setAt cX5_setAt 6 (some .int)) (rmN 4) (va_Pc [.ref (d 0), .int x, .int v] (pz D [(cI, .int), (cZ, .boolean)] (fun H => MdAt D cI cZ d S th H))) (Wq (some (.int (sp_setAt S x v).2.1)) (fun H => MdAt D cI cZ d (sp_setAt S x v).2.2 (nI (sp_setAt S x v).1) H) (Ao d 9)) 0 0 (Ao d 9) := by
  have hbd2 : S.2.1 ≤ 40 := hI.2.2.2.1
  have hCC : ∀ cu, cu < 3 → ∀ y, S.2.2.1 cu = some y → y.1 < 4 := fun cu hcu y hy => by have h := hI.2.2.2.2.1 cu hcu; rw [hy] at h; exact h.1
  rcases bkn_cases 3 (by decide) x with ⟨cu, hc3, rfl, hbk⟩ | ⟨hbk, hno⟩
  · have hCu := hI.2.2.2.2.1 cu hc3
    cases hC : S.2.2.1 cu with
    | none =>
      have e9 : sp_setAt S (nI (cu)) v = (3, 0, S) := by simp [sp_setAt, hbk, hC]
      rw [e9]
      refine m_start (by decide) (Nat.le_of_ble_eq_true rfl) ?_
      intro p e s m below meth c hx hb hr hG hown hlocks hml hB ls hl
      have hl : lv_has ls 6 [(0, .ref (d 0)), (1, .int (nI (cu))), (2, .int (v))] := hl
      obtain ⟨hB0, hK⟩ := hB
      have hS : va_S (Ao d 9) s.heap s.heap [] := va_S.rf
      obtain ⟨K, V, sz, cb, ck, ca, it, ou, hP, hMB, hMC, hMO⟩ := id hB0
      have hP : va_P D vwCl [(d 0, .inr (5, [.ref (d 1), .ref (d 2), .ref (d 3), .int (nI (S.2.1)), .int (th), .ref (d 4), .ref (d 5), .ref (d 6), .ref (d 7), .ref (d 8), .int (nI (S.2.2.2.length))])), (d 1, .inl (cI, (804, .inl K))), (d 2, .inl (cI, (804, .inl V))), (d 3, .inl (cI, (4, .inl sz))), (d 4, .inl (cI, (3, .inl cb))), (d 5, .inl (cI, (3, .inl ck))), (d 6, .inl (cI, (3, .inl ca))), (d 7, .inl (cZ, (3, .inl it))), (d 8, .inl (cI, (6000, .inl ou)))] s.heap := hP
      have hD : va_D (Ao d 9) [(d 0, .inr (5, [.ref (d 1), .ref (d 2), .ref (d 3), .int (nI (S.2.1)), .int (th), .ref (d 4), .ref (d 5), .ref (d 6), .ref (d 7), .ref (d 8), .int (nI (S.2.2.2.length))])), (d 1, .inl (cI, (804, .inl K))), (d 2, .inl (cI, (804, .inl V))), (d 3, .inl (cI, (4, .inl sz))), (d 4, .inl (cI, (3, .inl cb))), (d 5, .inl (cI, (3, .inl ck))), (d 6, .inl (cI, (3, .inl ca))), (d 7, .inl (cZ, (3, .inl it))), (d 8, .inl (cI, (6000, .inl ou)))] := hap.D9
      have hcb := MdQ_n (hMC cu (by omega)) hC
      refine lv_iload_n hx hb dX5_setAt_0 rfl (lv_at hl 1 rfl) ?_
      refine k1_S hx hb hml hown hG cs_X5_92 (by have h := c5_isCursor l D (nI (cu)); rw [rch_in (by omega) (by decide)] at h; exact h) (by decide) (pzS (hK.sub (tys' := []) [] rfl) trivial) rfl hl.1 rfl (Nat.le_of_ble_eq_true rfl) dX5_setAt_1 ⟨Nat.zero_le _, Nat.zero_le _⟩ rfl ?_
      refine x_ifb_ne (tgt := 13) hx hb dX5_setAt_4 (by decide) (fun zc1 => ?_) (fun zc1 => False.elim (by first | exact absurd zc1 (by decide) | omega | (simp_all; done)))
      refine lv_aload_n hx hb dX5_setAt_13 rfl (lv_at hl 0 rfl) ?_
      refine lv_iload_n hx hb dX5_setAt_14 rfl (lv_at hl 1 rfl) ?_
      refine k1_V hx hb hml hown hG cs_X5_95 (c5_isOpen_f l D cI cZ d S th cu (by omega) hC) (by decide) (pzV hK rfl hB0.rc hB0) rfl hl.1 rfl (Nat.le_of_ble_eq_true rfl) dX5_setAt_15 ⟨Nat.zero_le _, Nat.zero_le _⟩ rfl ?_
      refine x_ifb_eq (tgt := 37) hx hb dX5_setAt_18 (by decide) (fun zc2 => ?_) (fun zc2 => False.elim (by first | exact absurd zc2 (by decide) | omega | (simp_all; done)))
      refine lv_aload_n hx hb dX5_setAt_37 rfl (lv_at hl 0 rfl) ?_
      refine lv_iload_n hx hb dX5_setAt_38 rfl (lv_at hl 1 rfl) ?_
      refine k1_V hx hb hml hown hG cs_X5_98 (c5_canChange_f l D cI cZ d S th cu (by omega) hC) (by decide) (pzV hK rfl hB0.rc hB0) rfl hl.1 rfl (Nat.le_of_ble_eq_true rfl) dX5_setAt_39 ⟨Nat.zero_le _, Nat.zero_le _⟩ rfl ?_
      refine x_ifb_ne (tgt := 51) hx hb dX5_setAt_42 (by decide) (fun zc3 => False.elim (by first | exact absurd zc3 (by decide) | omega | (simp_all; done))) (fun zc3 => ?_)
      refine lv_aload_n hx hb dX5_setAt_45 rfl (lv_at hl 0 rfl) ?_
      refine lv_iconst (v := nI 3) hx hb dX5_setAt_46 (by decide) ?_
      refine k2_V hx hb hml hown hG cs_X5_58 (c5_refuse l D cI cZ d S th 3 hap) (by decide) (pzV hK rfl hB0.rc hB0) rfl hl.1 rfl (Nat.le_of_ble_eq_true rfl) dX5_setAt_47 ⟨Nat.zero_le _, Nat.zero_le _⟩ rfl hS (fun q h => h) (fun H locs hB0 hz hk hS => ?_)
      exact w_i (PB := (fun H => MdAt D cI cZ d S (nI 3) H)) rfl hB0 hS hx hb hr hlocks dX5_setAt_50
    | some x9 =>
      obtain ⟨b, k, n, t⟩ := x9
      rw [hC] at hCu
      obtain ⟨hb4, hk3, hnl, ht1⟩ := hCu
      have hN := hI.1 b hb4
      by_cases hk2 : k = 2
      · skip
        by_cases h3 : b = 3
        · skip
          have e9 : sp_setAt S (nI (cu)) v = (3, 0, S) := by simp [sp_setAt, hbk, hC, h3, hk2]
          rw [e9]
          refine m_start (by decide) (Nat.le_of_ble_eq_true rfl) ?_
          intro p e s m below meth c hx hb hr hG hown hlocks hml hB ls hl
          have hl : lv_has ls 6 [(0, .ref (d 0)), (1, .int (nI (cu))), (2, .int (v))] := hl
          obtain ⟨hB0, hK⟩ := hB
          have hS : va_S (Ao d 9) s.heap s.heap [] := va_S.rf
          obtain ⟨K, V, sz, cb, ck, ca, it, ou, hP, hMB, hMC, hMO⟩ := id hB0
          have hP : va_P D vwCl [(d 0, .inr (5, [.ref (d 1), .ref (d 2), .ref (d 3), .int (nI (S.2.1)), .int (th), .ref (d 4), .ref (d 5), .ref (d 6), .ref (d 7), .ref (d 8), .int (nI (S.2.2.2.length))])), (d 1, .inl (cI, (804, .inl K))), (d 2, .inl (cI, (804, .inl V))), (d 3, .inl (cI, (4, .inl sz))), (d 4, .inl (cI, (3, .inl cb))), (d 5, .inl (cI, (3, .inl ck))), (d 6, .inl (cI, (3, .inl ca))), (d 7, .inl (cZ, (3, .inl it))), (d 8, .inl (cI, (6000, .inl ou)))] s.heap := hP
          have hD : va_D (Ao d 9) [(d 0, .inr (5, [.ref (d 1), .ref (d 2), .ref (d 3), .int (nI (S.2.1)), .int (th), .ref (d 4), .ref (d 5), .ref (d 6), .ref (d 7), .ref (d 8), .int (nI (S.2.2.2.length))])), (d 1, .inl (cI, (804, .inl K))), (d 2, .inl (cI, (804, .inl V))), (d 3, .inl (cI, (4, .inl sz))), (d 4, .inl (cI, (3, .inl cb))), (d 5, .inl (cI, (3, .inl ck))), (d 6, .inl (cI, (3, .inl ca))), (d 7, .inl (cZ, (3, .inl it))), (d 8, .inl (cI, (6000, .inl ou)))] := hap.D9
          obtain ⟨hcb, hck, hca, hit⟩ := MdQ_w (hMC cu (by omega)) b k n t hC
          refine lv_iload_n hx hb dX5_setAt_0 rfl (lv_at hl 1 rfl) ?_
          refine k1_S hx hb hml hown hG cs_X5_92 (by have h := c5_isCursor l D (nI (cu)); rw [rch_in (by omega) (by decide)] at h; exact h) (by decide) (pzS (hK.sub (tys' := []) [] rfl) trivial) rfl hl.1 rfl (Nat.le_of_ble_eq_true rfl) dX5_setAt_1 ⟨Nat.zero_le _, Nat.zero_le _⟩ rfl ?_
          refine x_ifb_ne (tgt := 13) hx hb dX5_setAt_4 (by decide) (fun zc1 => ?_) (fun zc1 => False.elim (by first | exact absurd zc1 (by decide) | omega | (simp_all; done)))
          refine lv_aload_n hx hb dX5_setAt_13 rfl (lv_at hl 0 rfl) ?_
          refine lv_iload_n hx hb dX5_setAt_14 rfl (lv_at hl 1 rfl) ?_
          refine k1_V hx hb hml hown hG cs_X5_95 (c5_isOpen_t l D cI cZ d S th cu b k n t (by omega) hC (by omega)) (by decide) (pzV hK rfl hB0.rc hB0) rfl hl.1 rfl (Nat.le_of_ble_eq_true rfl) dX5_setAt_15 ⟨Nat.zero_le _, Nat.zero_le _⟩ rfl ?_
          refine x_ifb_eq (tgt := 37) hx hb dX5_setAt_18 (by decide) (fun zc2 => False.elim (by first | exact absurd zc2 (by decide) | omega | (simp_all; done))) (fun zc2 => ?_)
          refine lv_aload_n hx hb dX5_setAt_21 rfl (lv_at hl 0 rfl) ?_
          refine gf_X5_26 hx hb hG hown hK hP 0 rfl rfl dX5_setAt_22 ?_
          refine lv_iload_n hx hb dX5_setAt_25 rfl (lv_at hl 1 rfl) ?_
          refine x_iald hx hb hK hP 5 0 rfl rfl (by omega) (by decide) dX5_setAt_26 ?_
          rw [hck]
          refine lv_iconst (v := nI 2) hx hb dX5_setAt_27 (by decide) ?_
          refine x_cmp_eq (tgt := 37) hx hb dX5_setAt_28 (by decide) (by omega) (by omega) (fun zc3 => ?_) (fun zc3 => False.elim (by first | omega | contradiction | exact absurd zc3 (m1_ne _ (by omega)) | exact absurd zc3 (by decide) | exact absurd (Eq.symm zc3) (m1_ne _ (by omega)) | (simp_all; done)))
          refine lv_aload_n hx hb dX5_setAt_37 rfl (lv_at hl 0 rfl) ?_
          refine lv_iload_n hx hb dX5_setAt_38 rfl (lv_at hl 1 rfl) ?_
          refine k1_V hx hb hml hown hG cs_X5_98 (c5_canChange_q l D cI cZ d S th cu b k n t (by omega) hC (by omega) h3) (by decide) (pzV hK rfl hB0.rc hB0) rfl hl.1 rfl (Nat.le_of_ble_eq_true rfl) dX5_setAt_39 ⟨Nat.zero_le _, Nat.zero_le _⟩ rfl ?_
          refine x_ifb_ne (tgt := 51) hx hb dX5_setAt_42 (by decide) (fun zc4 => False.elim (by first | exact absurd zc4 (by decide) | omega | (simp_all; done))) (fun zc4 => ?_)
          refine lv_aload_n hx hb dX5_setAt_45 rfl (lv_at hl 0 rfl) ?_
          refine lv_iconst (v := nI 3) hx hb dX5_setAt_46 (by decide) ?_
          refine k2_V hx hb hml hown hG cs_X5_58 (c5_refuse l D cI cZ d S th 3 hap) (by decide) (pzV hK rfl hB0.rc hB0) rfl hl.1 rfl (Nat.le_of_ble_eq_true rfl) dX5_setAt_47 ⟨Nat.zero_le _, Nat.zero_le _⟩ rfl hS (fun q h => h) (fun H locs hB0 hz hk hS => ?_)
          exact w_i (PB := (fun H => MdAt D cI cZ d S (nI 3) H)) rfl hB0 hS hx hb hr hlocks dX5_setAt_50
        · cases ht : t with
          | false =>
            have e9 : sp_setAt S (nI (cu)) v = (3, 0, S) := by simp [sp_setAt, hbk, hC, h3, ht, hk2]
            rw [e9]
            refine m_start (by decide) (Nat.le_of_ble_eq_true rfl) ?_
            intro p e s m below meth c hx hb hr hG hown hlocks hml hB ls hl
            have hl : lv_has ls 6 [(0, .ref (d 0)), (1, .int (nI (cu))), (2, .int (v))] := hl
            obtain ⟨hB0, hK⟩ := hB
            have hS : va_S (Ao d 9) s.heap s.heap [] := va_S.rf
            obtain ⟨K, V, sz, cb, ck, ca, it, ou, hP, hMB, hMC, hMO⟩ := id hB0
            have hP : va_P D vwCl [(d 0, .inr (5, [.ref (d 1), .ref (d 2), .ref (d 3), .int (nI (S.2.1)), .int (th), .ref (d 4), .ref (d 5), .ref (d 6), .ref (d 7), .ref (d 8), .int (nI (S.2.2.2.length))])), (d 1, .inl (cI, (804, .inl K))), (d 2, .inl (cI, (804, .inl V))), (d 3, .inl (cI, (4, .inl sz))), (d 4, .inl (cI, (3, .inl cb))), (d 5, .inl (cI, (3, .inl ck))), (d 6, .inl (cI, (3, .inl ca))), (d 7, .inl (cZ, (3, .inl it))), (d 8, .inl (cI, (6000, .inl ou)))] s.heap := hP
            have hD : va_D (Ao d 9) [(d 0, .inr (5, [.ref (d 1), .ref (d 2), .ref (d 3), .int (nI (S.2.1)), .int (th), .ref (d 4), .ref (d 5), .ref (d 6), .ref (d 7), .ref (d 8), .int (nI (S.2.2.2.length))])), (d 1, .inl (cI, (804, .inl K))), (d 2, .inl (cI, (804, .inl V))), (d 3, .inl (cI, (4, .inl sz))), (d 4, .inl (cI, (3, .inl cb))), (d 5, .inl (cI, (3, .inl ck))), (d 6, .inl (cI, (3, .inl ca))), (d 7, .inl (cZ, (3, .inl it))), (d 8, .inl (cI, (6000, .inl ou)))] := hap.D9
            obtain ⟨hcb, hck, hca, hit⟩ := MdQ_w (hMC cu (by omega)) b k n t hC
            refine lv_iload_n hx hb dX5_setAt_0 rfl (lv_at hl 1 rfl) ?_
            refine k1_S hx hb hml hown hG cs_X5_92 (by have h := c5_isCursor l D (nI (cu)); rw [rch_in (by omega) (by decide)] at h; exact h) (by decide) (pzS (hK.sub (tys' := []) [] rfl) trivial) rfl hl.1 rfl (Nat.le_of_ble_eq_true rfl) dX5_setAt_1 ⟨Nat.zero_le _, Nat.zero_le _⟩ rfl ?_
            refine x_ifb_ne (tgt := 13) hx hb dX5_setAt_4 (by decide) (fun zc1 => ?_) (fun zc1 => False.elim (by first | exact absurd zc1 (by decide) | omega | (simp_all; done)))
            refine lv_aload_n hx hb dX5_setAt_13 rfl (lv_at hl 0 rfl) ?_
            refine lv_iload_n hx hb dX5_setAt_14 rfl (lv_at hl 1 rfl) ?_
            refine k1_V hx hb hml hown hG cs_X5_95 (c5_isOpen_t l D cI cZ d S th cu b k n t (by omega) hC (by omega)) (by decide) (pzV hK rfl hB0.rc hB0) rfl hl.1 rfl (Nat.le_of_ble_eq_true rfl) dX5_setAt_15 ⟨Nat.zero_le _, Nat.zero_le _⟩ rfl ?_
            refine x_ifb_eq (tgt := 37) hx hb dX5_setAt_18 (by decide) (fun zc2 => False.elim (by first | exact absurd zc2 (by decide) | omega | (simp_all; done))) (fun zc2 => ?_)
            refine lv_aload_n hx hb dX5_setAt_21 rfl (lv_at hl 0 rfl) ?_
            refine gf_X5_26 hx hb hG hown hK hP 0 rfl rfl dX5_setAt_22 ?_
            refine lv_iload_n hx hb dX5_setAt_25 rfl (lv_at hl 1 rfl) ?_
            refine x_iald hx hb hK hP 5 0 rfl rfl (by omega) (by decide) dX5_setAt_26 ?_
            rw [hck]
            refine lv_iconst (v := nI 2) hx hb dX5_setAt_27 (by decide) ?_
            refine x_cmp_eq (tgt := 37) hx hb dX5_setAt_28 (by decide) (by omega) (by omega) (fun zc3 => ?_) (fun zc3 => False.elim (by first | omega | contradiction | exact absurd zc3 (m1_ne _ (by omega)) | exact absurd zc3 (by decide) | exact absurd (Eq.symm zc3) (m1_ne _ (by omega)) | (simp_all; done)))
            refine lv_aload_n hx hb dX5_setAt_37 rfl (lv_at hl 0 rfl) ?_
            refine lv_iload_n hx hb dX5_setAt_38 rfl (lv_at hl 1 rfl) ?_
            refine k1_V hx hb hml hown hG cs_X5_98 (c5_canChange_n l D cI cZ d S th cu b k n t (by omega) hC (by omega) h3 ht) (by decide) (pzV hK rfl hB0.rc hB0) rfl hl.1 rfl (Nat.le_of_ble_eq_true rfl) dX5_setAt_39 ⟨Nat.zero_le _, Nat.zero_le _⟩ rfl ?_
            refine x_ifb_ne (tgt := 51) hx hb dX5_setAt_42 (by decide) (fun zc4 => False.elim (by first | exact absurd zc4 (by decide) | omega | (simp_all; done))) (fun zc4 => ?_)
            refine lv_aload_n hx hb dX5_setAt_45 rfl (lv_at hl 0 rfl) ?_
            refine lv_iconst (v := nI 3) hx hb dX5_setAt_46 (by decide) ?_
            refine k2_V hx hb hml hown hG cs_X5_58 (c5_refuse l D cI cZ d S th 3 hap) (by decide) (pzV hK rfl hB0.rc hB0) rfl hl.1 rfl (Nat.le_of_ble_eq_true rfl) dX5_setAt_47 ⟨Nat.zero_le _, Nat.zero_le _⟩ rfl hS (fun q h => h) (fun H locs hB0 hz hk hS => ?_)
            exact w_i (PB := (fun H => MdAt D cI cZ d S (nI 3) H)) rfl hB0 hS hx hb hr hlocks dX5_setAt_50
          | true =>
            have hn1 := ht1 ht
            have e9 : sp_setAt S (nI (cu)) v = (0, vf (S.1 b) (n - 1), clB (upB S b (sv (S.1 b) (n - 1) v)) b (nI cu)) := by simp [sp_setAt, hbk, hC, hk2, h3, ht]
            rw [e9]
            refine m_start (by decide) (Nat.le_of_ble_eq_true rfl) ?_
            intro p e s m below meth c hx hb hr hG hown hlocks hml hB ls hl
            have hl : lv_has ls 6 [(0, .ref (d 0)), (1, .int (nI (cu))), (2, .int (v))] := hl
            obtain ⟨hB0, hK⟩ := hB
            have hS : va_S (Ao d 9) s.heap s.heap [] := va_S.rf
            obtain ⟨K, V, sz, cb, ck, ca, it, ou, hP, hMB, hMC, hMO⟩ := id hB0
            have hP : va_P D vwCl [(d 0, .inr (5, [.ref (d 1), .ref (d 2), .ref (d 3), .int (nI (S.2.1)), .int (th), .ref (d 4), .ref (d 5), .ref (d 6), .ref (d 7), .ref (d 8), .int (nI (S.2.2.2.length))])), (d 1, .inl (cI, (804, .inl K))), (d 2, .inl (cI, (804, .inl V))), (d 3, .inl (cI, (4, .inl sz))), (d 4, .inl (cI, (3, .inl cb))), (d 5, .inl (cI, (3, .inl ck))), (d 6, .inl (cI, (3, .inl ca))), (d 7, .inl (cZ, (3, .inl it))), (d 8, .inl (cI, (6000, .inl ou)))] s.heap := hP
            have hD : va_D (Ao d 9) [(d 0, .inr (5, [.ref (d 1), .ref (d 2), .ref (d 3), .int (nI (S.2.1)), .int (th), .ref (d 4), .ref (d 5), .ref (d 6), .ref (d 7), .ref (d 8), .int (nI (S.2.2.2.length))])), (d 1, .inl (cI, (804, .inl K))), (d 2, .inl (cI, (804, .inl V))), (d 3, .inl (cI, (4, .inl sz))), (d 4, .inl (cI, (3, .inl cb))), (d 5, .inl (cI, (3, .inl ck))), (d 6, .inl (cI, (3, .inl ca))), (d 7, .inl (cZ, (3, .inl it))), (d 8, .inl (cI, (6000, .inl ou)))] := hap.D9
            obtain ⟨hcb, hck, hca, hit⟩ := MdQ_w (hMC cu (by omega)) b k n t hC
            refine lv_iload_n hx hb dX5_setAt_0 rfl (lv_at hl 1 rfl) ?_
            refine k1_S hx hb hml hown hG cs_X5_92 (by have h := c5_isCursor l D (nI (cu)); rw [rch_in (by omega) (by decide)] at h; exact h) (by decide) (pzS (hK.sub (tys' := []) [] rfl) trivial) rfl hl.1 rfl (Nat.le_of_ble_eq_true rfl) dX5_setAt_1 ⟨Nat.zero_le _, Nat.zero_le _⟩ rfl ?_
            refine x_ifb_ne (tgt := 13) hx hb dX5_setAt_4 (by decide) (fun zc1 => ?_) (fun zc1 => False.elim (by first | exact absurd zc1 (by decide) | omega | (simp_all; done)))
            refine lv_aload_n hx hb dX5_setAt_13 rfl (lv_at hl 0 rfl) ?_
            refine lv_iload_n hx hb dX5_setAt_14 rfl (lv_at hl 1 rfl) ?_
            refine k1_V hx hb hml hown hG cs_X5_95 (c5_isOpen_t l D cI cZ d S th cu b k n t (by omega) hC (by omega)) (by decide) (pzV hK rfl hB0.rc hB0) rfl hl.1 rfl (Nat.le_of_ble_eq_true rfl) dX5_setAt_15 ⟨Nat.zero_le _, Nat.zero_le _⟩ rfl ?_
            refine x_ifb_eq (tgt := 37) hx hb dX5_setAt_18 (by decide) (fun zc2 => False.elim (by first | exact absurd zc2 (by decide) | omega | (simp_all; done))) (fun zc2 => ?_)
            refine lv_aload_n hx hb dX5_setAt_21 rfl (lv_at hl 0 rfl) ?_
            refine gf_X5_26 hx hb hG hown hK hP 0 rfl rfl dX5_setAt_22 ?_
            refine lv_iload_n hx hb dX5_setAt_25 rfl (lv_at hl 1 rfl) ?_
            refine x_iald hx hb hK hP 5 0 rfl rfl (by omega) (by decide) dX5_setAt_26 ?_
            rw [hck]
            refine lv_iconst (v := nI 2) hx hb dX5_setAt_27 (by decide) ?_
            refine x_cmp_eq (tgt := 37) hx hb dX5_setAt_28 (by decide) (by omega) (by omega) (fun zc3 => ?_) (fun zc3 => False.elim (by first | omega | contradiction | exact absurd zc3 (m1_ne _ (by omega)) | exact absurd zc3 (by decide) | exact absurd (Eq.symm zc3) (m1_ne _ (by omega)) | (simp_all; done)))
            refine lv_aload_n hx hb dX5_setAt_37 rfl (lv_at hl 0 rfl) ?_
            refine lv_iload_n hx hb dX5_setAt_38 rfl (lv_at hl 1 rfl) ?_
            refine k1_V hx hb hml hown hG cs_X5_98 (c5_canChange_y l D cI cZ d S th cu b k n t (by omega) hC (by omega) h3 ht) (by decide) (pzV hK rfl hB0.rc hB0) rfl hl.1 rfl (Nat.le_of_ble_eq_true rfl) dX5_setAt_39 ⟨Nat.zero_le _, Nat.zero_le _⟩ rfl ?_
            refine x_ifb_ne (tgt := 51) hx hb dX5_setAt_42 (by decide) (fun zc4 => ?_) (fun zc4 => False.elim (by first | exact absurd zc4 (by decide) | omega | (simp_all; done)))
            refine lv_aload_n hx hb dX5_setAt_51 rfl (lv_at hl 0 rfl) ?_
            refine gf_X5_23 hx hb hG hown hK hP 0 rfl rfl dX5_setAt_52 ?_
            refine lv_iload_n hx hb dX5_setAt_55 rfl (lv_at hl 1 rfl) ?_
            refine x_iald hx hb hK hP 4 0 rfl rfl (by omega) (by decide) dX5_setAt_56 ?_
            rw [hcb]
            refine lv_istore_n (lv' := [(3, .int (nI (b))), (0, .ref (d 0)), (1, .int (nI (cu))), (2, .int (v))]) hx hb dX5_setAt_57 rfl hl (by decide) rfl (fun ls hl => ?_)
            refine lv_sipush (v := nI 201) hx hb dX5_setAt_58 (by decide) ?_
            refine lv_iload_n hx hb dX5_setAt_61 rfl (lv_at hl 0 rfl) ?_
            refine x_imul (v := nI (201 * b)) hx hb dX5_setAt_62 (pk_mul _ _) ?_
            refine lv_aload_n hx hb dX5_setAt_63 rfl (lv_at hl 1 rfl) ?_
            refine gf_X5_29 hx hb hG hown hK hP 0 rfl rfl dX5_setAt_64 ?_
            refine lv_iload_n hx hb dX5_setAt_67 rfl (lv_at hl 2 rfl) ?_
            refine x_iald hx hb hK hP 6 0 rfl rfl (by omega) (by decide) dX5_setAt_68 ?_
            rw [hca]
            refine x_iadd (v := nI ((201 * b) + n)) hx hb dX5_setAt_69 (nI_add _ _) ?_
            refine lv_iconst (v := nI 1) hx hb dX5_setAt_70 (by decide) ?_
            refine x_isub (v := nI (((201 * b) + n) - 1)) hx hb dX5_setAt_71 (pk_sub (by omega)) ?_
            refine lv_istore (lv' := [(4, .int (nI (((201 * b) + n) - 1))), (3, .int (nI (b))), (0, .ref (d 0)), (1, .int (nI (cu))), (2, .int (v))]) hx hb dX5_setAt_72 hl (by decide) rfl (fun ls hl => ?_)
            have eat : (201 * b) + n - 1 = (201 * b) + (n - 1) := by omega
            rw [eat] at hl
            refine lv_aload_n hx hb dX5_setAt_74 rfl (lv_at hl 2 rfl) ?_
            refine gf_X5_13 hx hb hG hown hK hP 0 rfl rfl dX5_setAt_75 ?_
            refine lv_iload hx hb dX5_setAt_78 (lv_at hl 0 rfl) ?_
            refine x_iald hx hb hK hP 2 0 rfl rfl (by omega) (by decide) dX5_setAt_80 ?_
            rw [show V ((201 * b) + (n - 1)) = vf (S.1 b) (n - 1) from ((hMB b (by omega)).2.2 (n - 1) (by omega)).2]
            refine lv_istore (lv' := [(5, .int (vf (S.1 b) (n - 1))), (4, .int (nI ((201 * b) + (n - 1)))), (3, .int (nI (b))), (0, .ref (d 0)), (1, .int (nI (cu))), (2, .int (v))]) hx hb dX5_setAt_81 hl (by decide) rfl (fun ls hl => ?_)
            refine lv_aload_n hx hb dX5_setAt_83 rfl (lv_at hl 3 rfl) ?_
            refine gf_X5_13 hx hb hG hown hK hP 0 rfl rfl dX5_setAt_84 ?_
            refine lv_iload hx hb dX5_setAt_87 (lv_at hl 1 rfl) ?_
            refine lv_iload_n hx hb dX5_setAt_89 rfl (lv_at hl 5 rfl) ?_
            refine x_iast hx hb hK hP hD hS 2 0 rfl rfl (by omega) (by decide) dX5_setAt_90 (fun H locs hP hD hS => ?_)
            have hP : va_P D vwCl [(d 0, .inr (5, [.ref (d 1), .ref (d 2), .ref (d 3), .int (nI (S.2.1)), .int (th), .ref (d 4), .ref (d 5), .ref (d 6), .ref (d 7), .ref (d 8), .int (nI (S.2.2.2.length))])), (d 1, .inl (cI, (804, .inl K))), (d 2, .inl (cI, (804, .inl (upd V ((201 * b) + (n - 1)) v)))), (d 3, .inl (cI, (4, .inl sz))), (d 4, .inl (cI, (3, .inl cb))), (d 5, .inl (cI, (3, .inl ck))), (d 6, .inl (cI, (3, .inl ca))), (d 7, .inl (cZ, (3, .inl it))), (d 8, .inl (cI, (6000, .inl ou)))] H := hP
            have hD : va_D (Ao d 9) [(d 0, .inr (5, [.ref (d 1), .ref (d 2), .ref (d 3), .int (nI (S.2.1)), .int (th), .ref (d 4), .ref (d 5), .ref (d 6), .ref (d 7), .ref (d 8), .int (nI (S.2.2.2.length))])), (d 1, .inl (cI, (804, .inl K))), (d 2, .inl (cI, (804, .inl (upd V ((201 * b) + (n - 1)) v)))), (d 3, .inl (cI, (4, .inl sz))), (d 4, .inl (cI, (3, .inl cb))), (d 5, .inl (cI, (3, .inl ck))), (d 6, .inl (cI, (3, .inl ca))), (d 7, .inl (cZ, (3, .inl it))), (d 8, .inl (cI, (6000, .inl ou)))] := hD
            refine lv_aload_n hx hb dX5_setAt_91 rfl (lv_at hl 3 rfl) ?_
            refine lv_iload_n hx hb dX5_setAt_92 rfl (lv_at hl 2 rfl) ?_
            refine lv_iload_n hx hb dX5_setAt_93 rfl (lv_at hl 4 rfl) ?_
            have hB0 : MdAt D cI cZ d (upB S b (sv (S.1 b) (n - 1) v)) th H := ⟨K, _, sz, cb, ck, ca, it, ou, hP, hMB.val hb4 (show n - 1 < (S.1 b).length by omega) v, hMC, hMO⟩
            refine k2_V hx hb hml hown hG cs_X5_62 (c5_closes l D cI cZ d (upB S b (sv (S.1 b) (n - 1) v)) th b (nI (cu)) (by omega) hCC hap) (by decide) (pzV hK rfl hB0.rc hB0) rfl hl.1 rfl (Nat.le_of_ble_eq_true rfl) dX5_setAt_94 ⟨Nat.zero_le _, Nat.zero_le _⟩ rfl hS (fun q h => h) (fun H locs hB0 hz hk hS => ?_)
            refine lv_aload_n hx hb dX5_setAt_97 rfl (lv_at hl 3 rfl) ?_
            refine lv_iload hx hb dX5_setAt_98 (lv_at hl 0 rfl) ?_
            refine k2_V hx hb hml hown hG cs_X5_65 (c5_told l D cI cZ d (clB (upB S b (sv (S.1 b) (n - 1) v)) b (nI (cu))) th (vf (S.1 b) (n - 1)) hap) (by decide) (pzV hK rfl hB0.rc hB0) rfl hl.1 rfl (Nat.le_of_ble_eq_true rfl) dX5_setAt_100 ⟨Nat.zero_le _, Nat.zero_le _⟩ rfl hS (fun q h => h) (fun H locs hB0 hz hk hS => ?_)
            exact w_i (PB := (fun H => MdAt D cI cZ d (clB (upB S b (sv (S.1 b) (n - 1) v)) b (nI cu)) (nI 0) H)) rfl hB0 hS hx hb hr hlocks dX5_setAt_103
      · skip
        have e9 : sp_setAt S (nI (cu)) v = (2, 0, S) := by simp [sp_setAt, hbk, hC, hk2]
        rw [e9]
        refine m_start (by decide) (Nat.le_of_ble_eq_true rfl) ?_
        intro p e s m below meth c hx hb hr hG hown hlocks hml hB ls hl
        have hl : lv_has ls 6 [(0, .ref (d 0)), (1, .int (nI (cu))), (2, .int (v))] := hl
        obtain ⟨hB0, hK⟩ := hB
        have hS : va_S (Ao d 9) s.heap s.heap [] := va_S.rf
        obtain ⟨K, V, sz, cb, ck, ca, it, ou, hP, hMB, hMC, hMO⟩ := id hB0
        have hP : va_P D vwCl [(d 0, .inr (5, [.ref (d 1), .ref (d 2), .ref (d 3), .int (nI (S.2.1)), .int (th), .ref (d 4), .ref (d 5), .ref (d 6), .ref (d 7), .ref (d 8), .int (nI (S.2.2.2.length))])), (d 1, .inl (cI, (804, .inl K))), (d 2, .inl (cI, (804, .inl V))), (d 3, .inl (cI, (4, .inl sz))), (d 4, .inl (cI, (3, .inl cb))), (d 5, .inl (cI, (3, .inl ck))), (d 6, .inl (cI, (3, .inl ca))), (d 7, .inl (cZ, (3, .inl it))), (d 8, .inl (cI, (6000, .inl ou)))] s.heap := hP
        have hD : va_D (Ao d 9) [(d 0, .inr (5, [.ref (d 1), .ref (d 2), .ref (d 3), .int (nI (S.2.1)), .int (th), .ref (d 4), .ref (d 5), .ref (d 6), .ref (d 7), .ref (d 8), .int (nI (S.2.2.2.length))])), (d 1, .inl (cI, (804, .inl K))), (d 2, .inl (cI, (804, .inl V))), (d 3, .inl (cI, (4, .inl sz))), (d 4, .inl (cI, (3, .inl cb))), (d 5, .inl (cI, (3, .inl ck))), (d 6, .inl (cI, (3, .inl ca))), (d 7, .inl (cZ, (3, .inl it))), (d 8, .inl (cI, (6000, .inl ou)))] := hap.D9
        obtain ⟨hcb, hck, hca, hit⟩ := MdQ_w (hMC cu (by omega)) b k n t hC
        refine lv_iload_n hx hb dX5_setAt_0 rfl (lv_at hl 1 rfl) ?_
        refine k1_S hx hb hml hown hG cs_X5_92 (by have h := c5_isCursor l D (nI (cu)); rw [rch_in (by omega) (by decide)] at h; exact h) (by decide) (pzS (hK.sub (tys' := []) [] rfl) trivial) rfl hl.1 rfl (Nat.le_of_ble_eq_true rfl) dX5_setAt_1 ⟨Nat.zero_le _, Nat.zero_le _⟩ rfl ?_
        refine x_ifb_ne (tgt := 13) hx hb dX5_setAt_4 (by decide) (fun zc1 => ?_) (fun zc1 => False.elim (by first | exact absurd zc1 (by decide) | omega | (simp_all; done)))
        refine lv_aload_n hx hb dX5_setAt_13 rfl (lv_at hl 0 rfl) ?_
        refine lv_iload_n hx hb dX5_setAt_14 rfl (lv_at hl 1 rfl) ?_
        refine k1_V hx hb hml hown hG cs_X5_95 (c5_isOpen_t l D cI cZ d S th cu b k n t (by omega) hC (by omega)) (by decide) (pzV hK rfl hB0.rc hB0) rfl hl.1 rfl (Nat.le_of_ble_eq_true rfl) dX5_setAt_15 ⟨Nat.zero_le _, Nat.zero_le _⟩ rfl ?_
        refine x_ifb_eq (tgt := 37) hx hb dX5_setAt_18 (by decide) (fun zc2 => False.elim (by first | exact absurd zc2 (by decide) | omega | (simp_all; done))) (fun zc2 => ?_)
        refine lv_aload_n hx hb dX5_setAt_21 rfl (lv_at hl 0 rfl) ?_
        refine gf_X5_26 hx hb hG hown hK hP 0 rfl rfl dX5_setAt_22 ?_
        refine lv_iload_n hx hb dX5_setAt_25 rfl (lv_at hl 1 rfl) ?_
        refine x_iald hx hb hK hP 5 0 rfl rfl (by omega) (by decide) dX5_setAt_26 ?_
        rw [hck]
        refine lv_iconst (v := nI 2) hx hb dX5_setAt_27 (by decide) ?_
        refine x_cmp_eq (tgt := 37) hx hb dX5_setAt_28 (by decide) (by omega) (by omega) (fun zc3 => False.elim (by first | omega | contradiction | exact absurd zc3 (m1_ne _ (by omega)) | exact absurd zc3 (by decide) | exact absurd (Eq.symm zc3) (m1_ne _ (by omega)) | (simp_all; done))) (fun zc3 => ?_)
        refine lv_aload_n hx hb dX5_setAt_31 rfl (lv_at hl 0 rfl) ?_
        refine lv_iconst (v := nI 2) hx hb dX5_setAt_32 (by decide) ?_
        refine k2_V hx hb hml hown hG cs_X5_58 (c5_refuse l D cI cZ d S th 2 hap) (by decide) (pzV hK rfl hB0.rc hB0) rfl hl.1 rfl (Nat.le_of_ble_eq_true rfl) dX5_setAt_33 ⟨Nat.zero_le _, Nat.zero_le _⟩ rfl hS (fun q h => h) (fun H locs hB0 hz hk hS => ?_)
        exact w_i (PB := (fun H => MdAt D cI cZ d S (nI 2) H)) rfl hB0 hS hx hb hr hlocks dX5_setAt_36
  · skip
    have e9 : sp_setAt S x v = (1, 0, S) := by simp [sp_setAt, hbk]
    rw [e9]
    refine m_start (by decide) (Nat.le_of_ble_eq_true rfl) ?_
    intro p e s m below meth c hx hb hr hG hown hlocks hml hB ls hl
    have hl : lv_has ls 6 [(0, .ref (d 0)), (1, .int (x)), (2, .int (v))] := hl
    obtain ⟨hB0, hK⟩ := hB
    have hS : va_S (Ao d 9) s.heap s.heap [] := va_S.rf
    refine lv_iload_n hx hb dX5_setAt_0 rfl (lv_at hl 1 rfl) ?_
    refine k1_S hx hb hml hown hG cs_X5_92 (by have h := c5_isCursor l D x; rw [hno] at h; exact h) (by decide) (pzS (hK.sub (tys' := []) [] rfl) trivial) rfl hl.1 rfl (Nat.le_of_ble_eq_true rfl) dX5_setAt_1 ⟨Nat.zero_le _, Nat.zero_le _⟩ rfl ?_
    refine x_ifb_ne (tgt := 13) hx hb dX5_setAt_4 (by decide) (fun zc1 => False.elim (by first | exact absurd zc1 (by decide) | omega | (simp_all; done))) (fun zc1 => ?_)
    refine lv_aload_n hx hb dX5_setAt_7 rfl (lv_at hl 0 rfl) ?_
    refine lv_iconst (v := nI 1) hx hb dX5_setAt_8 (by decide) ?_
    refine k2_V hx hb hml hown hG cs_X5_58 (c5_refuse l D cI cZ d S th 1 hap) (by decide) (pzV hK rfl hB0.rc hB0) rfl hl.1 rfl (Nat.le_of_ble_eq_true rfl) dX5_setAt_9 ⟨Nat.zero_le _, Nat.zero_le _⟩ rfl hS (fun q h => h) (fun H locs hB0 hz hk hS => ?_)
    exact w_i (PB := (fun H => MdAt D cI cZ d S (nI 1) H)) rfl hB0 hS hx hb hr hlocks dX5_setAt_12
set_option maxHeartbeats 4000000 in
set_option maxRecDepth 100000 in
theorem m_outputAt (l : Launch) (D : va_G) (cI cZ : ClassId) (d : Nat → Nat) (S : St) (th : Int32) (x : Int32) (hI : Inv S) (hap : Ap d 9) : Met l yX5_outputAt (ws_ yX5_outputAt cX5_outputAt 2 (some .int)) (rmN 4) (va_Pc [.ref (d 0), .int x] (pz D [(cI, .int), (cZ, .boolean)] (fun H => MdAt D cI cZ d S th H))) (Wq (some (.int (sp_outputAt S x).2.1)) (fun H => MdAt D cI cZ d (sp_outputAt S x).2.2 (nI (sp_outputAt S x).1) H) (Ao d 9)) 0 0 (Ao d 9) := by
  have hbd2 : S.2.1 ≤ 40 := hI.2.2.2.1
  have hCC : ∀ cu, cu < 3 → ∀ y, S.2.2.1 cu = some y → y.1 < 4 := fun cu hcu y hy => by have h := hI.2.2.2.2.1 cu hcu; rw [hy] at h; exact h.1
  have hOl := hI.2.2.2.2.2
  rcases bkn_cases S.2.2.2.length (by omega) x with ⟨j, hj, rfl, hbk⟩ | ⟨hbk, hno⟩
  · skip
    have e9 : sp_outputAt S (nI (j)) = (0, S.2.2.2[j]?.getD 0, S) := by unfold sp_outputAt; rw [hbk]
    rw [e9]
    refine m_start (by decide) (Nat.le_of_ble_eq_true rfl) ?_
    intro p e s m below meth c hx hb hr hG hown hlocks hml hB ls hl
    have hl : lv_has ls 2 [(0, .ref (d 0)), (1, .int (nI (j)))] := hl
    obtain ⟨hB0, hK⟩ := hB
    have hS : va_S (Ao d 9) s.heap s.heap [] := va_S.rf
    obtain ⟨K, V, sz, cb, ck, ca, it, ou, hP, hMB, hMC, hMO⟩ := id hB0
    have hP : va_P D vwCl [(d 0, .inr (5, [.ref (d 1), .ref (d 2), .ref (d 3), .int (nI (S.2.1)), .int (th), .ref (d 4), .ref (d 5), .ref (d 6), .ref (d 7), .ref (d 8), .int (nI (S.2.2.2.length))])), (d 1, .inl (cI, (804, .inl K))), (d 2, .inl (cI, (804, .inl V))), (d 3, .inl (cI, (4, .inl sz))), (d 4, .inl (cI, (3, .inl cb))), (d 5, .inl (cI, (3, .inl ck))), (d 6, .inl (cI, (3, .inl ca))), (d 7, .inl (cZ, (3, .inl it))), (d 8, .inl (cI, (6000, .inl ou)))] s.heap := hP
    have hD : va_D (Ao d 9) [(d 0, .inr (5, [.ref (d 1), .ref (d 2), .ref (d 3), .int (nI (S.2.1)), .int (th), .ref (d 4), .ref (d 5), .ref (d 6), .ref (d 7), .ref (d 8), .int (nI (S.2.2.2.length))])), (d 1, .inl (cI, (804, .inl K))), (d 2, .inl (cI, (804, .inl V))), (d 3, .inl (cI, (4, .inl sz))), (d 4, .inl (cI, (3, .inl cb))), (d 5, .inl (cI, (3, .inl ck))), (d 6, .inl (cI, (3, .inl ca))), (d 7, .inl (cZ, (3, .inl it))), (d 8, .inl (cI, (6000, .inl ou)))] := hap.D9
    refine lv_iload_n hx hb dX5_outputAt_0 rfl (lv_at hl 1 rfl) ?_
    refine lv_iconst (v := nI 0) hx hb dX5_outputAt_1 (by decide) ?_
    refine lv_aload_n hx hb dX5_outputAt_2 rfl (lv_at hl 0 rfl) ?_
    refine gf_X5_109 hx hb hG hown hK hP 0 rfl rfl dX5_outputAt_3 ?_
    refine lv_iconst (v := nI 1) hx hb dX5_outputAt_6 (by decide) ?_
    refine x_isub (v := (nI (S.2.2.2.length)) - (nI (1))) hx hb dX5_outputAt_7 rfl ?_
    refine k1_S hx hb hml hown hG cs_X5_42 (by have h := c5_in l D (nI (j)) (nI (0)) ((nI (S.2.2.2.length)) - (nI (1))); rw [show (nI 0 : Int32) = 0 from rfl, inb_rch (n := S.2.2.2.length) (by omega) _ _ (by rw [pk_sub_toInt (by omega) (by omega)]; rfl), rch_in hj (by omega)] at h; exact h) (by decide) (pzS (hK.sub (tys' := []) [] rfl) trivial) rfl hl.1 rfl (Nat.le_of_ble_eq_true rfl) dX5_outputAt_8 ⟨Nat.zero_le _, Nat.zero_le _⟩ rfl ?_
    refine x_ifb_eq (tgt := 27) hx hb dX5_outputAt_11 (by decide) (fun zc1 => False.elim (by first | exact absurd zc1 (by decide) | omega | (simp_all; done))) (fun zc1 => ?_)
    refine lv_aload_n hx hb dX5_outputAt_14 rfl (lv_at hl 0 rfl) ?_
    refine lv_aload_n hx hb dX5_outputAt_15 rfl (lv_at hl 0 rfl) ?_
    refine gf_X5_36 hx hb hG hown hK hP 0 rfl rfl dX5_outputAt_16 ?_
    refine lv_iload_n hx hb dX5_outputAt_19 rfl (lv_at hl 1 rfl) ?_
    refine x_iald hx hb hK hP 8 0 rfl rfl (by omega) (by decide) dX5_outputAt_20 ?_
    rw [hMO.2 (j) (by omega)]
    refine k2_V hx hb hml hown hG cs_X5_65 (c5_told l D cI cZ d S th (S.2.2.2[j]?.getD 0) hap) (by decide) (pzV hK rfl hB0.rc hB0) rfl hl.1 rfl (Nat.le_of_ble_eq_true rfl) dX5_outputAt_21 ⟨Nat.zero_le _, Nat.zero_le _⟩ rfl hS (fun q h => h) (fun H locs hB0 hz hk hS => ?_)
    refine lv_goto (tgt := 32) hx hb dX5_outputAt_24 (by decide) ?_
    exact w_i (PB := (fun H => MdAt D cI cZ d S (nI 0) H)) rfl hB0 hS hx hb hr hlocks dX5_outputAt_32
  · skip
    have e9 : sp_outputAt S x = (1, 0, S) := by unfold sp_outputAt; rw [hbk]
    rw [e9]
    refine m_start (by decide) (Nat.le_of_ble_eq_true rfl) ?_
    intro p e s m below meth c hx hb hr hG hown hlocks hml hB ls hl
    have hl : lv_has ls 2 [(0, .ref (d 0)), (1, .int (x))] := hl
    obtain ⟨hB0, hK⟩ := hB
    have hS : va_S (Ao d 9) s.heap s.heap [] := va_S.rf
    obtain ⟨K, V, sz, cb, ck, ca, it, ou, hP, hMB, hMC, hMO⟩ := id hB0
    have hP : va_P D vwCl [(d 0, .inr (5, [.ref (d 1), .ref (d 2), .ref (d 3), .int (nI (S.2.1)), .int (th), .ref (d 4), .ref (d 5), .ref (d 6), .ref (d 7), .ref (d 8), .int (nI (S.2.2.2.length))])), (d 1, .inl (cI, (804, .inl K))), (d 2, .inl (cI, (804, .inl V))), (d 3, .inl (cI, (4, .inl sz))), (d 4, .inl (cI, (3, .inl cb))), (d 5, .inl (cI, (3, .inl ck))), (d 6, .inl (cI, (3, .inl ca))), (d 7, .inl (cZ, (3, .inl it))), (d 8, .inl (cI, (6000, .inl ou)))] s.heap := hP
    have hD : va_D (Ao d 9) [(d 0, .inr (5, [.ref (d 1), .ref (d 2), .ref (d 3), .int (nI (S.2.1)), .int (th), .ref (d 4), .ref (d 5), .ref (d 6), .ref (d 7), .ref (d 8), .int (nI (S.2.2.2.length))])), (d 1, .inl (cI, (804, .inl K))), (d 2, .inl (cI, (804, .inl V))), (d 3, .inl (cI, (4, .inl sz))), (d 4, .inl (cI, (3, .inl cb))), (d 5, .inl (cI, (3, .inl ck))), (d 6, .inl (cI, (3, .inl ca))), (d 7, .inl (cZ, (3, .inl it))), (d 8, .inl (cI, (6000, .inl ou)))] := hap.D9
    refine lv_iload_n hx hb dX5_outputAt_0 rfl (lv_at hl 1 rfl) ?_
    refine lv_iconst (v := nI 0) hx hb dX5_outputAt_1 (by decide) ?_
    refine lv_aload_n hx hb dX5_outputAt_2 rfl (lv_at hl 0 rfl) ?_
    refine gf_X5_109 hx hb hG hown hK hP 0 rfl rfl dX5_outputAt_3 ?_
    refine lv_iconst (v := nI 1) hx hb dX5_outputAt_6 (by decide) ?_
    refine x_isub (v := (nI (S.2.2.2.length)) - (nI (1))) hx hb dX5_outputAt_7 rfl ?_
    refine k1_S hx hb hml hown hG cs_X5_42 (by have h := c5_in l D x (nI (0)) ((nI (S.2.2.2.length)) - (nI (1))); rw [show (nI 0 : Int32) = 0 from rfl, inb_rch (n := S.2.2.2.length) (by omega) _ _ (by rw [pk_sub_toInt (by omega) (by omega)]; rfl), hno] at h; exact h) (by decide) (pzS (hK.sub (tys' := []) [] rfl) trivial) rfl hl.1 rfl (Nat.le_of_ble_eq_true rfl) dX5_outputAt_8 ⟨Nat.zero_le _, Nat.zero_le _⟩ rfl ?_
    refine x_ifb_eq (tgt := 27) hx hb dX5_outputAt_11 (by decide) (fun zc1 => ?_) (fun zc1 => False.elim (by first | exact absurd zc1 (by decide) | omega | (simp_all; done)))
    refine lv_aload_n hx hb dX5_outputAt_27 rfl (lv_at hl 0 rfl) ?_
    refine lv_iconst (v := nI 1) hx hb dX5_outputAt_28 (by decide) ?_
    refine k2_V hx hb hml hown hG cs_X5_58 (c5_refuse l D cI cZ d S th 1 hap) (by decide) (pzV hK rfl hB0.rc hB0) rfl hl.1 rfl (Nat.le_of_ble_eq_true rfl) dX5_outputAt_29 ⟨Nat.zero_le _, Nat.zero_le _⟩ rfl hS (fun q h => h) (fun H locs hB0 hz hk hS => ?_)
    exact w_i (PB := (fun H => MdAt D cI cZ d S (nI 1) H)) rfl hB0 hS hx hb hr hlocks dX5_outputAt_32
set_option maxHeartbeats 4000000 in
set_option maxRecDepth 100000 in
theorem m_isAddRefused (l : Launch) (D : va_G) (cI cZ : ClassId) (d : Nat → Nat) (S : St) (th : Int32) (x z : Int32) (hI : Inv S) (hap : Ap d 9) : Met l yX5_isAddRefused (ws_ yX5_isAddRefused cX5_isAddRefused 3 (some .boolean)) (rmN 4) (va_Pc [.ref (d 0), .int x, .int z] (pz D [(cI, .int), (cZ, .boolean)] (fun H => MdAt D cI cZ d S th H))) (Wq (some (.int (bI (sp_isAddRefused S x z).2.1))) (fun H => MdAt D cI cZ d (sp_isAddRefused S x z).2.2 (nI (sp_isAddRefused S x z).1) H) (Ao d 9)) 0 0 (Ao d 9) := by
  have hbd2 : S.2.1 ≤ 40 := hI.2.2.2.1
  have hCC : ∀ cu, cu < 3 → ∀ y, S.2.2.1 cu = some y → y.1 < 4 := fun cu hcu y hy => by have h := hI.2.2.2.2.1 cu hcu; rw [hy] at h; exact h.1
  rcases bkn_cases 4 (by decide) x with ⟨b, hb4, rfl, hbk⟩ | ⟨hbk, hno⟩
  · rcases bkn_cases 3 (by decide) z with ⟨k, hk3, rfl, hbz⟩ | ⟨hbz, hnoz⟩
    · skip
      have e9 : sp_isAddRefused S (nI (b)) (nI (k)) = (0, true, S) := by simp [sp_isAddRefused, hbk, hbz]
      rw [e9]
      refine m_start (by decide) (Nat.le_of_ble_eq_true rfl) ?_
      intro p e s m below meth c hx hb hr hG hown hlocks hml hB ls hl
      have hl : lv_has ls 3 [(0, .ref (d 0)), (1, .int (nI (b))), (2, .int (nI (k)))] := hl
      obtain ⟨hB0, hK⟩ := hB
      have hS : va_S (Ao d 9) s.heap s.heap [] := va_S.rf
      refine lv_iload_n hx hb dX5_isAddRefused_0 rfl (lv_at hl 1 rfl) ?_
      refine k1_S hx hb hml hown hG cs_X5_68 (by have h := c5_isBook l D (nI (b)); rw [rch_in (by omega) (by decide)] at h; exact h) (by decide) (pzS (hK.sub (tys' := []) [] rfl) trivial) rfl hl.1 rfl (Nat.le_of_ble_eq_true rfl) dX5_isAddRefused_1 ⟨Nat.zero_le _, Nat.zero_le _⟩ rfl ?_
      refine x_ifb_ne (tgt := 13) hx hb dX5_isAddRefused_4 (by decide) (fun zc1 => ?_) (fun zc1 => False.elim (by first | exact absurd zc1 (by decide) | omega | (simp_all; done)))
      refine lv_iload_n hx hb dX5_isAddRefused_13 rfl (lv_at hl 2 rfl) ?_
      refine lv_iconst (v := nI 0) hx hb dX5_isAddRefused_14 (by decide) ?_
      refine lv_iconst (v := nI 2) hx hb dX5_isAddRefused_15 (by decide) ?_
      refine k1_S hx hb hml hown hG cs_X5_42 (by have h := c5_in l D (nI (k)) (nI (0)) (nI (2)); rw [show inb (nI k) (nI 0) (nI 2) = true from by rw [show (nI 0 : Int32) = 0 from rfl, inb_rch (n := 3) (by decide) _ (nI 2) (by decide)]; exact rch_in hk3 (by decide)] at h; exact h) (by decide) (pzS (hK.sub (tys' := []) [] rfl) trivial) rfl hl.1 rfl (Nat.le_of_ble_eq_true rfl) dX5_isAddRefused_16 ⟨Nat.zero_le _, Nat.zero_le _⟩ rfl ?_
      refine x_ifb_eq (tgt := 30) hx hb dX5_isAddRefused_19 (by decide) (fun zc2 => False.elim (by first | exact absurd zc2 (by decide) | omega | (simp_all; done))) (fun zc2 => ?_)
      refine lv_aload_n hx hb dX5_isAddRefused_22 rfl (lv_at hl 0 rfl) ?_
      refine lv_iconst (v := nI 1) hx hb dX5_isAddRefused_23 (by decide) ?_
      refine k2_V hx hb hml hown hG cs_X5_82 (c5_says l D cI cZ d S th true hap) (by decide) (pzV hK rfl hB0.rc hB0) rfl hl.1 rfl (Nat.le_of_ble_eq_true rfl) dX5_isAddRefused_24 ⟨Nat.zero_le _, Nat.zero_le _⟩ rfl hS (fun q h => h) (fun H locs hB0 hz hk hS => ?_)
      refine lv_goto (tgt := 35) hx hb dX5_isAddRefused_27 (by decide) ?_
      exact w_z (PB := (fun H => MdAt D cI cZ d S (nI 0) H)) rfl hB0 hS hx hb hr hlocks dX5_isAddRefused_35
    · skip
      have e9 : sp_isAddRefused S (nI (b)) z = (2, false, S) := by simp [sp_isAddRefused, hbk, hbz]
      rw [e9]
      refine m_start (by decide) (Nat.le_of_ble_eq_true rfl) ?_
      intro p e s m below meth c hx hb hr hG hown hlocks hml hB ls hl
      have hl : lv_has ls 3 [(0, .ref (d 0)), (1, .int (nI (b))), (2, .int (z))] := hl
      obtain ⟨hB0, hK⟩ := hB
      have hS : va_S (Ao d 9) s.heap s.heap [] := va_S.rf
      refine lv_iload_n hx hb dX5_isAddRefused_0 rfl (lv_at hl 1 rfl) ?_
      refine k1_S hx hb hml hown hG cs_X5_68 (by have h := c5_isBook l D (nI (b)); rw [rch_in (by omega) (by decide)] at h; exact h) (by decide) (pzS (hK.sub (tys' := []) [] rfl) trivial) rfl hl.1 rfl (Nat.le_of_ble_eq_true rfl) dX5_isAddRefused_1 ⟨Nat.zero_le _, Nat.zero_le _⟩ rfl ?_
      refine x_ifb_ne (tgt := 13) hx hb dX5_isAddRefused_4 (by decide) (fun zc1 => ?_) (fun zc1 => False.elim (by first | exact absurd zc1 (by decide) | omega | (simp_all; done)))
      refine lv_iload_n hx hb dX5_isAddRefused_13 rfl (lv_at hl 2 rfl) ?_
      refine lv_iconst (v := nI 0) hx hb dX5_isAddRefused_14 (by decide) ?_
      refine lv_iconst (v := nI 2) hx hb dX5_isAddRefused_15 (by decide) ?_
      refine k1_S hx hb hml hown hG cs_X5_42 (by have h := c5_in l D z (nI (0)) (nI (2)); rw [show inb z (nI 0) (nI 2) = false from by rw [show (nI 0 : Int32) = 0 from rfl, inb_rch (n := 3) (by decide) _ (nI 2) (by decide)]; exact hnoz] at h; exact h) (by decide) (pzS (hK.sub (tys' := []) [] rfl) trivial) rfl hl.1 rfl (Nat.le_of_ble_eq_true rfl) dX5_isAddRefused_16 ⟨Nat.zero_le _, Nat.zero_le _⟩ rfl ?_
      refine x_ifb_eq (tgt := 30) hx hb dX5_isAddRefused_19 (by decide) (fun zc2 => ?_) (fun zc2 => False.elim (by first | exact absurd zc2 (by decide) | omega | (simp_all; done)))
      refine lv_aload_n hx hb dX5_isAddRefused_30 rfl (lv_at hl 0 rfl) ?_
      refine lv_iconst (v := nI 2) hx hb dX5_isAddRefused_31 (by decide) ?_
      refine k2_V hx hb hml hown hG cs_X5_72 (c5_denies l D cI cZ d S th 2 hap) (by decide) (pzV hK rfl hB0.rc hB0) rfl hl.1 rfl (Nat.le_of_ble_eq_true rfl) dX5_isAddRefused_32 ⟨Nat.zero_le _, Nat.zero_le _⟩ rfl hS (fun q h => h) (fun H locs hB0 hz hk hS => ?_)
      exact w_z (PB := (fun H => MdAt D cI cZ d S (nI 2) H)) rfl hB0 hS hx hb hr hlocks dX5_isAddRefused_35
  · skip
    have e9 : sp_isAddRefused S x z = (1, false, S) := by simp [sp_isAddRefused, hbk]
    rw [e9]
    refine m_start (by decide) (Nat.le_of_ble_eq_true rfl) ?_
    intro p e s m below meth c hx hb hr hG hown hlocks hml hB ls hl
    have hl : lv_has ls 3 [(0, .ref (d 0)), (1, .int (x)), (2, .int (z))] := hl
    obtain ⟨hB0, hK⟩ := hB
    have hS : va_S (Ao d 9) s.heap s.heap [] := va_S.rf
    refine lv_iload_n hx hb dX5_isAddRefused_0 rfl (lv_at hl 1 rfl) ?_
    refine k1_S hx hb hml hown hG cs_X5_68 (by have h := c5_isBook l D x; rw [hno] at h; exact h) (by decide) (pzS (hK.sub (tys' := []) [] rfl) trivial) rfl hl.1 rfl (Nat.le_of_ble_eq_true rfl) dX5_isAddRefused_1 ⟨Nat.zero_le _, Nat.zero_le _⟩ rfl ?_
    refine x_ifb_ne (tgt := 13) hx hb dX5_isAddRefused_4 (by decide) (fun zc1 => False.elim (by first | exact absurd zc1 (by decide) | omega | (simp_all; done))) (fun zc1 => ?_)
    refine lv_aload_n hx hb dX5_isAddRefused_7 rfl (lv_at hl 0 rfl) ?_
    refine lv_iconst (v := nI 1) hx hb dX5_isAddRefused_8 (by decide) ?_
    refine k2_V hx hb hml hown hG cs_X5_72 (c5_denies l D cI cZ d S th 1 hap) (by decide) (pzV hK rfl hB0.rc hB0) rfl hl.1 rfl (Nat.le_of_ble_eq_true rfl) dX5_isAddRefused_9 ⟨Nat.zero_le _, Nat.zero_le _⟩ rfl hS (fun q h => h) (fun H locs hB0 hz hk hS => ?_)
    exact w_z (PB := (fun H => MdAt D cI cZ d S (nI 1) H)) rfl hB0 hS hx hb hr hlocks dX5_isAddRefused_12
set_option maxHeartbeats 4000000 in
set_option maxRecDepth 100000 in
theorem m_isNothingRefused (l : Launch) (D : va_G) (cI cZ : ClassId) (d : Nat → Nat) (S : St) (th : Int32) (x z : Int32) (hI : Inv S) (hap : Ap d 9) : Met l yX5_isNothingRefused (ws_ yX5_isNothingRefused cX5_isNothingRefused 3 (some .boolean)) (rmN 4) (va_Pc [.ref (d 0), .int x, .int z] (pz D [(cI, .int), (cZ, .boolean)] (fun H => MdAt D cI cZ d S th H))) (Wq (some (.int (bI (sp_isNothingRefused S x z).2.1))) (fun H => MdAt D cI cZ d (sp_isNothingRefused S x z).2.2 (nI (sp_isNothingRefused S x z).1) H) (Ao d 9)) 0 0 (Ao d 9) := by
  have hbd2 : S.2.1 ≤ 40 := hI.2.2.2.1
  have hCC : ∀ cu, cu < 3 → ∀ y, S.2.2.1 cu = some y → y.1 < 4 := fun cu hcu y hy => by have h := hI.2.2.2.2.1 cu hcu; rw [hy] at h; exact h.1
  rcases bkn_cases 4 (by decide) x with ⟨b, hb4, rfl, hbk⟩ | ⟨hbk, hno⟩
  · by_cases h2 : 2 ≤ b
    · skip
      have e9 : sp_isNothingRefused S (nI (b)) z = (2, false, S) := by simp [sp_isNothingRefused, hbk, h2]
      rw [e9]
      refine m_start (by decide) (Nat.le_of_ble_eq_true rfl) ?_
      intro p e s m below meth c hx hb hr hG hown hlocks hml hB ls hl
      have hl : lv_has ls 3 [(0, .ref (d 0)), (1, .int (nI (b))), (2, .int (z))] := hl
      obtain ⟨hB0, hK⟩ := hB
      have hS : va_S (Ao d 9) s.heap s.heap [] := va_S.rf
      refine lv_iload_n hx hb dX5_isNothingRefused_0 rfl (lv_at hl 1 rfl) ?_
      refine k1_S hx hb hml hown hG cs_X5_68 (by have h := c5_isBook l D (nI (b)); rw [rch_in (by omega) (by decide)] at h; exact h) (by decide) (pzS (hK.sub (tys' := []) [] rfl) trivial) rfl hl.1 rfl (Nat.le_of_ble_eq_true rfl) dX5_isNothingRefused_1 ⟨Nat.zero_le _, Nat.zero_le _⟩ rfl ?_
      refine x_ifb_ne (tgt := 13) hx hb dX5_isNothingRefused_4 (by decide) (fun zc1 => ?_) (fun zc1 => False.elim (by first | exact absurd zc1 (by decide) | omega | (simp_all; done)))
      refine lv_iload_n hx hb dX5_isNothingRefused_13 rfl (lv_at hl 1 rfl) ?_
      refine k1_S hx hb hml hown hG cs_X5_86 (by have h := c5_isPlain l D (nI (b)); rw [show rch 2 (nI b) = false from rch_hi (nI_le (by omega) (by omega))] at h; exact h) (by decide) (pzS (hK.sub (tys' := []) [] rfl) trivial) rfl hl.1 rfl (Nat.le_of_ble_eq_true rfl) dX5_isNothingRefused_14 ⟨Nat.zero_le _, Nat.zero_le _⟩ rfl ?_
      refine x_ifb_eq (tgt := 28) hx hb dX5_isNothingRefused_17 (by decide) (fun zc2 => ?_) (fun zc2 => False.elim (by first | exact absurd zc2 (by decide) | omega | (simp_all; done)))
      refine lv_aload_n hx hb dX5_isNothingRefused_28 rfl (lv_at hl 0 rfl) ?_
      refine lv_iconst (v := nI 2) hx hb dX5_isNothingRefused_29 (by decide) ?_
      refine k2_V hx hb hml hown hG cs_X5_72 (c5_denies l D cI cZ d S th 2 hap) (by decide) (pzV hK rfl hB0.rc hB0) rfl hl.1 rfl (Nat.le_of_ble_eq_true rfl) dX5_isNothingRefused_30 ⟨Nat.zero_le _, Nat.zero_le _⟩ rfl hS (fun q h => h) (fun H locs hB0 hz hk hS => ?_)
      exact w_z (PB := (fun H => MdAt D cI cZ d S (nI 2) H)) rfl hB0 hS hx hb hr hlocks dX5_isNothingRefused_33
    · skip
      have e9 : sp_isNothingRefused S (nI (b)) z = (0, true, S) := by simp [sp_isNothingRefused, hbk, h2]
      rw [e9]
      refine m_start (by decide) (Nat.le_of_ble_eq_true rfl) ?_
      intro p e s m below meth c hx hb hr hG hown hlocks hml hB ls hl
      have hl : lv_has ls 3 [(0, .ref (d 0)), (1, .int (nI (b))), (2, .int (z))] := hl
      obtain ⟨hB0, hK⟩ := hB
      have hS : va_S (Ao d 9) s.heap s.heap [] := va_S.rf
      refine lv_iload_n hx hb dX5_isNothingRefused_0 rfl (lv_at hl 1 rfl) ?_
      refine k1_S hx hb hml hown hG cs_X5_68 (by have h := c5_isBook l D (nI (b)); rw [rch_in (by omega) (by decide)] at h; exact h) (by decide) (pzS (hK.sub (tys' := []) [] rfl) trivial) rfl hl.1 rfl (Nat.le_of_ble_eq_true rfl) dX5_isNothingRefused_1 ⟨Nat.zero_le _, Nat.zero_le _⟩ rfl ?_
      refine x_ifb_ne (tgt := 13) hx hb dX5_isNothingRefused_4 (by decide) (fun zc1 => ?_) (fun zc1 => False.elim (by first | exact absurd zc1 (by decide) | omega | (simp_all; done)))
      refine lv_iload_n hx hb dX5_isNothingRefused_13 rfl (lv_at hl 1 rfl) ?_
      refine k1_S hx hb hml hown hG cs_X5_86 (by have h := c5_isPlain l D (nI (b)); rw [rch_in (by omega) (by decide)] at h; exact h) (by decide) (pzS (hK.sub (tys' := []) [] rfl) trivial) rfl hl.1 rfl (Nat.le_of_ble_eq_true rfl) dX5_isNothingRefused_14 ⟨Nat.zero_le _, Nat.zero_le _⟩ rfl ?_
      refine x_ifb_eq (tgt := 28) hx hb dX5_isNothingRefused_17 (by decide) (fun zc2 => False.elim (by first | exact absurd zc2 (by decide) | omega | (simp_all; done))) (fun zc2 => ?_)
      refine lv_aload_n hx hb dX5_isNothingRefused_20 rfl (lv_at hl 0 rfl) ?_
      refine lv_iconst (v := nI 1) hx hb dX5_isNothingRefused_21 (by decide) ?_
      refine k2_V hx hb hml hown hG cs_X5_82 (c5_says l D cI cZ d S th true hap) (by decide) (pzV hK rfl hB0.rc hB0) rfl hl.1 rfl (Nat.le_of_ble_eq_true rfl) dX5_isNothingRefused_22 ⟨Nat.zero_le _, Nat.zero_le _⟩ rfl hS (fun q h => h) (fun H locs hB0 hz hk hS => ?_)
      refine lv_goto (tgt := 33) hx hb dX5_isNothingRefused_25 (by decide) ?_
      exact w_z (PB := (fun H => MdAt D cI cZ d S (nI 0) H)) rfl hB0 hS hx hb hr hlocks dX5_isNothingRefused_33
  · skip
    have e9 : sp_isNothingRefused S x z = (1, false, S) := by simp [sp_isNothingRefused, hbk]
    rw [e9]
    refine m_start (by decide) (Nat.le_of_ble_eq_true rfl) ?_
    intro p e s m below meth c hx hb hr hG hown hlocks hml hB ls hl
    have hl : lv_has ls 3 [(0, .ref (d 0)), (1, .int (x)), (2, .int (z))] := hl
    obtain ⟨hB0, hK⟩ := hB
    have hS : va_S (Ao d 9) s.heap s.heap [] := va_S.rf
    refine lv_iload_n hx hb dX5_isNothingRefused_0 rfl (lv_at hl 1 rfl) ?_
    refine k1_S hx hb hml hown hG cs_X5_68 (by have h := c5_isBook l D x; rw [hno] at h; exact h) (by decide) (pzS (hK.sub (tys' := []) [] rfl) trivial) rfl hl.1 rfl (Nat.le_of_ble_eq_true rfl) dX5_isNothingRefused_1 ⟨Nat.zero_le _, Nat.zero_le _⟩ rfl ?_
    refine x_ifb_ne (tgt := 13) hx hb dX5_isNothingRefused_4 (by decide) (fun zc1 => False.elim (by first | exact absurd zc1 (by decide) | omega | (simp_all; done))) (fun zc1 => ?_)
    refine lv_aload_n hx hb dX5_isNothingRefused_7 rfl (lv_at hl 0 rfl) ?_
    refine lv_iconst (v := nI 1) hx hb dX5_isNothingRefused_8 (by decide) ?_
    refine k2_V hx hb hml hown hG cs_X5_72 (c5_denies l D cI cZ d S th 1 hap) (by decide) (pzV hK rfl hB0.rc hB0) rfl hl.1 rfl (Nat.le_of_ble_eq_true rfl) dX5_isNothingRefused_9 ⟨Nat.zero_le _, Nat.zero_le _⟩ rfl hS (fun q h => h) (fun H locs hB0 hz hk hS => ?_)
    exact w_z (PB := (fun H => MdAt D cI cZ d S (nI 1) H)) rfl hB0 hS hx hb hr hlocks dX5_isNothingRefused_12
