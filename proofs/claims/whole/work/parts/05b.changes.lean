theorem m1_ne (i : Nat) (hi : i < 2 ^ 31) : nI i ≠ -1 := fun h => by
  have e := congrArg Int32.toInt h
  rw [nI_toInt hi] at e
  have : (-1 : Int32).toInt = -1 := by decide
  omega
theorem c_indexOfKey_at (l : Launch) (D : va_G) (cI : ClassId) (b : Nat → Nat) (R : Bk) (now : Nat) (key : Int32) {i : Nat} (hi : fx R key = some i) : Met l yX0_indexOfKey (ws_ yX0_indexOfKey cX0_indexOfKey 3 (some .int)) (rmN 0) (va_Pc [.ref (b 0), .int (key)] (pz D [(cI, .int)] (fun H => ArAt D cI b R now H))) (Pq (some (.int (nI i)))) 0 0 (fun _ => False) := by
  have h := c_indexOfKey l D cI b R now key
  rw [hi] at h
  exact h
theorem c_find_at (l : Launch) (D : va_G) (cI : ClassId) (a : Nat → Nat) (lg : Bool) (bd : Nat) (L : Bk) (key : Int32) {i : Nat} (hi : fx L key = some i) : Met l yX1_find (ws_ yX1_find cX1_find 3 (some .int)) (rmN 0) (va_Pc [.ref (a 0), .int (key)] (pz D [(cI, .int)] (fun H => BkAt D cI a lg bd L H))) (Pq (some (.int (nI i)))) 0 0 (fun _ => False) := by
  have h := c_find l D cI a lg bd L key
  rw [hi] at h
  exact h
theorem c_find_no (l : Launch) (D : va_G) (cI : ClassId) (a : Nat → Nat) (lg : Bool) (bd : Nat) (L : Bk) (key : Int32) (hi : fx L key = none) : Met l yX1_find (ws_ yX1_find cX1_find 3 (some .int)) (rmN 0) (va_Pc [.ref (a 0), .int (key)] (pz D [(cI, .int)] (fun H => BkAt D cI a lg bd L H))) (Pq (some (.int (-1)))) 0 0 (fun _ => False) := by
  have h := c_find l D cI a lg bd L key
  rw [hi] at h
  exact h
/-- a row on which the places from j on are taken by the next ones, as far as i -/
def Sh (k k' : Nat → Int32) (j i : Nat) : Prop := (∀ q, q < j → k' q = k q) ∧ (∀ q, j ≤ q → q + 1 < i → k' q = k (q + 1)) ∧ ∀ q, i ≤ q + 1 → k' q = k q
theorem Sh.z {k : Nat → Int32} {j : Nat} : Sh k k j (j + 1) := ⟨fun _ _ => rfl, fun q h1 h2 => by omega, fun _ _ => rfl⟩
theorem Sh.step {k k' : Nat → Int32} {j i : Nat} (h : Sh k k' j i) (hi : j + 1 ≤ i) : Sh k (upd k' (i - 1) (k' i)) j (i + 1) := by
  obtain ⟨h1, h2, h3⟩ := h
  refine ⟨fun q hq => ?_, fun q hq1 hq2 => ?_, fun q hq => ?_⟩
  · rw [upd_at, if_neg (by omega)]; exact h1 q hq
  · rw [upd_at]
    by_cases e : q = i - 1
    · rw [if_pos e, h3 i (by omega), show i = q + 1 by omega]
    · rw [if_neg e]; exact h2 q hq1 (by omega)
  · rw [upd_at, if_neg (by omega)]; exact h3 q (by omega)
theorem Sh.era {L : Bk} {k v k' v' : Nat → Int32} {j : Nat} (hR : Rp L k v) (hj : j < L.length) (h1 : Sh k k' j L.length) (h2 : Sh v v' j L.length) : Rp (L.eraseIdx j) k' v' :=
  hR.era hj (fun q hq => ⟨h1.1 q hq, h2.1 q hq⟩) (fun q hq1 hq2 => ⟨h1.2.1 q hq1 hq2, h2.2.1 q hq1 hq2⟩)
set_option maxHeartbeats 4000000 in
set_option maxRecDepth 100000 in
/-- a key comes into the record -/
theorem c_cameIn (l : Launch) (D : va_G) (cI : ClassId) (b : Nat → Nat) (R : Bk) (now : Nat) (key : Int32) (hl2 : R.length < 200) (hn : now + 1 < 2 ^ 31) (hap : Ap b 3) : Met l yX0_cameIn (ws_ yX0_cameIn cX0_cameIn 2 none) (rmN 0) (va_Pc [.ref (b 0), .int (key)] (pz D [(cI, .int)] (fun H => ArAt D cI b R now H))) (Wq none (fun H => ArAt D cI b (R ++ [(key, nI now)]) (now + 1) H) (Ao b 3)) 0 0 (Ao b 3) := by
  refine m_start (by decide) (Nat.le_of_ble_eq_true rfl) ?_
  intro p e s m below meth c hx hb hr hG hown hlocks hml hB ls hl
  have hl : lv_has ls 2 [(0, .ref (b 0)), (1, .int (key))] := hl
  obtain ⟨⟨k, v, hP, hRp⟩, hK⟩ := hB
  have hlen := hRp.1
  have hD : va_D (Ao b 3) [(b 0, .inr (0, [.ref (b 1), .ref (b 2), .int (nI (R.length)), .int (nI (now))])), (b 1, .inl (cI, (200, .inl k))), (b 2, .inl (cI, (200, .inl v)))] := hap.D3
  have hS : va_S (Ao b 3) s.heap s.heap [] := va_S.rf
  refine lv_aload_n hx hb dX0_cameIn_0 rfl (lv_at hl 0 rfl) ?_
  refine gf_X0_18 hx hb hG hown hK hP 0 rfl rfl dX0_cameIn_1 ?_
  refine lv_sipush (v := nI 200) hx hb dX0_cameIn_4 (by decide) ?_
  refine x_cmp_lt (tgt := 11) hx hb dX0_cameIn_7 (by decide) (by omega) (by omega) (fun c1 => ?_) (fun c1 => ?_)
  · refine lv_aload_n hx hb dX0_cameIn_11 rfl (lv_at hl 0 rfl) ?_
    refine gf_X0_9 hx hb hG hown hK hP 0 rfl rfl dX0_cameIn_12 ?_
    refine lv_aload_n hx hb dX0_cameIn_15 rfl (lv_at hl 0 rfl) ?_
    refine gf_X0_18 hx hb hG hown hK hP 0 rfl rfl dX0_cameIn_16 ?_
    refine lv_iload_n hx hb dX0_cameIn_19 rfl (lv_at hl 1 rfl) ?_
    refine x_iast hx hb hK hP hD hS 1 0 rfl rfl (by omega) (by decide) dX0_cameIn_20 (fun H locs hP hD hS => ?_)
    have hP : va_P D vwCl [(b 0, .inr (0, [.ref (b 1), .ref (b 2), .int (nI (R.length)), .int (nI (now))])), (b 1, .inl (cI, (200, .inl (upd k (R.length) (key))))), (b 2, .inl (cI, (200, .inl v)))] H := hP
    have hD : va_D (Ao b 3) [(b 0, .inr (0, [.ref (b 1), .ref (b 2), .int (nI (R.length)), .int (nI (now))])), (b 1, .inl (cI, (200, .inl (upd k (R.length) (key))))), (b 2, .inl (cI, (200, .inl v)))] := hD
    refine lv_aload_n hx hb dX0_cameIn_21 rfl (lv_at hl 0 rfl) ?_
    refine gf_X0_15 hx hb hG hown hK hP 0 rfl rfl dX0_cameIn_22 ?_
    refine lv_aload_n hx hb dX0_cameIn_25 rfl (lv_at hl 0 rfl) ?_
    refine gf_X0_18 hx hb hG hown hK hP 0 rfl rfl dX0_cameIn_26 ?_
    refine lv_aload_n hx hb dX0_cameIn_29 rfl (lv_at hl 0 rfl) ?_
    refine gf_X0_22 hx hb hG hown hK hP 0 rfl rfl dX0_cameIn_30 ?_
    refine x_iast hx hb hK hP hD hS 2 0 rfl rfl (by omega) (by decide) dX0_cameIn_33 (fun H locs hP hD hS => ?_)
    have hP : va_P D vwCl [(b 0, .inr (0, [.ref (b 1), .ref (b 2), .int (nI (R.length)), .int (nI (now))])), (b 1, .inl (cI, (200, .inl (upd k (R.length) (key))))), (b 2, .inl (cI, (200, .inl (upd v (R.length) (nI (now))))))] H := hP
    have hD : va_D (Ao b 3) [(b 0, .inr (0, [.ref (b 1), .ref (b 2), .int (nI (R.length)), .int (nI (now))])), (b 1, .inl (cI, (200, .inl (upd k (R.length) (key))))), (b 2, .inl (cI, (200, .inl (upd v (R.length) (nI (now))))))] := hD
    refine lv_aload_n hx hb dX0_cameIn_34 rfl (lv_at hl 0 rfl) ?_
    refine lv_dup hx hb dX0_cameIn_35 rfl ?_
    refine gf_X0_18 hx hb hG hown hK hP 0 rfl rfl dX0_cameIn_36 ?_
    refine lv_iconst (v := nI 1) hx hb dX0_cameIn_39 (by decide) ?_
    refine x_iadd (v := nI (R.length + 1)) hx hb dX0_cameIn_40 (nI_add _ _) ?_
    refine pf_X0_18 hx hb hG hown hK hP hD hS 0 rfl (v := .int (nI (R.length + 1))) rfl rfl (Nat.le_of_ble_eq_true rfl) dX0_cameIn_41 (fun H locs hP hD hS => ?_)
    have hP : va_P D vwCl [(b 0, .inr (0, [.ref (b 1), .ref (b 2), .int (nI (R.length + 1)), .int (nI (now))])), (b 1, .inl (cI, (200, .inl (upd k (R.length) (key))))), (b 2, .inl (cI, (200, .inl (upd v (R.length) (nI (now))))))] H := hP
    have hD : va_D (Ao b 3) [(b 0, .inr (0, [.ref (b 1), .ref (b 2), .int (nI (R.length + 1)), .int (nI (now))])), (b 1, .inl (cI, (200, .inl (upd k (R.length) (key))))), (b 2, .inl (cI, (200, .inl (upd v (R.length) (nI (now))))))] := hD
    refine lv_aload_n hx hb dX0_cameIn_44 rfl (lv_at hl 0 rfl) ?_
    refine lv_dup hx hb dX0_cameIn_45 rfl ?_
    refine gf_X0_22 hx hb hG hown hK hP 0 rfl rfl dX0_cameIn_46 ?_
    refine lv_iconst (v := nI 1) hx hb dX0_cameIn_49 (by decide) ?_
    refine x_iadd (v := nI (now + 1)) hx hb dX0_cameIn_50 (nI_add _ _) ?_
    refine pf_X0_22 hx hb hG hown hK hP hD hS 0 rfl (v := .int (nI (now + 1))) rfl rfl (Nat.le_of_ble_eq_true rfl) dX0_cameIn_51 (fun H locs hP hD hS => ?_)
    have hP : va_P D vwCl [(b 0, .inr (0, [.ref (b 1), .ref (b 2), .int (nI (R.length + 1)), .int (nI (now + 1))])), (b 1, .inl (cI, (200, .inl (upd k (R.length) (key))))), (b 2, .inl (cI, (200, .inl (upd v (R.length) (nI (now))))))] H := hP
    have hD : va_D (Ao b 3) [(b 0, .inr (0, [.ref (b 1), .ref (b 2), .int (nI (R.length + 1)), .int (nI (now + 1))])), (b 1, .inl (cI, (200, .inl (upd k (R.length) (key))))), (b 2, .inl (cI, (200, .inl (upd v (R.length) (nI (now))))))] := hD
    have e : (R ++ [(key, nI now)]).length = R.length + 1 := by simp
    exact w_v (PB := fun H => ArAt D cI b (R ++ [(key, nI now)]) (now + 1) H) ⟨_, _, by rw [e]; exact hP, hRp.push (by omega) key (nI now)⟩ hS hx hb hr hlocks dX0_cameIn_54
  · omega
set_option maxHeartbeats 4000000 in
set_option maxRecDepth 100000 in
/-- a key goes out of the record -/
theorem c_wentOut (l : Launch) (D : va_G) (cI : ClassId) (b : Nat → Nat) (R : Bk) (now : Nat) (key : Int32) (i : Nat) (hi : fx R key = some i) (hap : Ap b 3) : Met l yX0_wentOut (ws_ yX0_wentOut cX0_wentOut 3 none) (rmN 1) (va_Pc [.ref (b 0), .int (key)] (pz D [(cI, .int)] (fun H => ArAt D cI b R now H))) (Wq none (fun H => ArAt D cI b (swr R i) now H) (Ao b 3)) 0 0 (Ao b 3) := by
  refine m_start (by decide) (Nat.le_of_ble_eq_true rfl) ?_
  intro p e s m below meth c hx hb hr hG hown hlocks hml hB ls hl
  have hl : lv_has ls 3 [(0, .ref (b 0)), (1, .int (key))] := hl
  obtain ⟨hB0, hK⟩ := hB
  obtain ⟨k, v, hP, hRp⟩ := id hB0
  have hlen := hRp.1
  have hiR := (fx_some hi).1
  have hD : va_D (Ao b 3) [(b 0, .inr (0, [.ref (b 1), .ref (b 2), .int (nI (R.length)), .int (nI (now))])), (b 1, .inl (cI, (200, .inl k))), (b 2, .inl (cI, (200, .inl v)))] := hap.D3
  have hS : va_S (Ao b 3) s.heap s.heap [] := va_S.rf
  refine lv_aload_n hx hb dX0_wentOut_0 rfl (lv_at hl 0 rfl) ?_
  refine lv_iload_n hx hb dX0_wentOut_1 rfl (lv_at hl 1 rfl) ?_
  refine k1_V hx hb hml hown hG cs_X0_25 (c_indexOfKey_at l D cI b R now key hi) (by decide) (pzV hK rfl hB0.rc hB0) rfl hl.1 rfl (Nat.le_of_ble_eq_true rfl) dX0_wentOut_2 ⟨Nat.zero_le _, Nat.zero_le _⟩ rfl ?_
  refine lv_istore_n (lv' := [(2, .int (nI (i))), (0, .ref (b 0)), (1, .int (key))]) hx hb dX0_wentOut_5 rfl hl (by decide) rfl (fun ls hl => ?_)
  refine lv_iload_n hx hb dX0_wentOut_6 rfl (lv_at hl 0 rfl) ?_
  refine lv_iconst (v := (-1)) hx hb dX0_wentOut_7 (by decide) ?_
  refine lv_icmp_ne (tgt := 12) hx hb dX0_wentOut_8 (by decide) (fun c1 => ?_) (fun c1 => ?_)
  · refine lv_aload_n hx hb dX0_wentOut_12 rfl (lv_at hl 1 rfl) ?_
    refine lv_dup hx hb dX0_wentOut_13 rfl ?_
    refine gf_X0_18 hx hb hG hown hK hP 0 rfl rfl dX0_wentOut_14 ?_
    refine lv_iconst (v := nI 1) hx hb dX0_wentOut_17 (by decide) ?_
    refine x_isub (v := nI (R.length - 1)) hx hb dX0_wentOut_18 (pk_sub (by omega)) ?_
    refine pf_X0_18 hx hb hG hown hK hP hD hS 0 rfl (v := .int (nI (R.length - 1))) rfl rfl (Nat.le_of_ble_eq_true rfl) dX0_wentOut_19 (fun H locs hP hD hS => ?_)
    have hP : va_P D vwCl [(b 0, .inr (0, [.ref (b 1), .ref (b 2), .int (nI (R.length - 1)), .int (nI (now))])), (b 1, .inl (cI, (200, .inl k))), (b 2, .inl (cI, (200, .inl v)))] H := hP
    have hD : va_D (Ao b 3) [(b 0, .inr (0, [.ref (b 1), .ref (b 2), .int (nI (R.length - 1)), .int (nI (now))])), (b 1, .inl (cI, (200, .inl k))), (b 2, .inl (cI, (200, .inl v)))] := hD
    refine lv_aload_n hx hb dX0_wentOut_22 rfl (lv_at hl 1 rfl) ?_
    refine gf_X0_9 hx hb hG hown hK hP 0 rfl rfl dX0_wentOut_23 ?_
    refine lv_iload_n hx hb dX0_wentOut_26 rfl (lv_at hl 0 rfl) ?_
    refine lv_aload_n hx hb dX0_wentOut_27 rfl (lv_at hl 1 rfl) ?_
    refine gf_X0_9 hx hb hG hown hK hP 0 rfl rfl dX0_wentOut_28 ?_
    refine lv_aload_n hx hb dX0_wentOut_31 rfl (lv_at hl 1 rfl) ?_
    refine gf_X0_18 hx hb hG hown hK hP 0 rfl rfl dX0_wentOut_32 ?_
    refine x_iald hx hb hK hP 1 0 rfl rfl (by omega) (by decide) dX0_wentOut_35 ?_
    refine x_iast hx hb hK hP hD hS 1 0 rfl rfl (by omega) (by decide) dX0_wentOut_36 (fun H locs hP hD hS => ?_)
    have hP : va_P D vwCl [(b 0, .inr (0, [.ref (b 1), .ref (b 2), .int (nI (R.length - 1)), .int (nI (now))])), (b 1, .inl (cI, (200, .inl (upd k (i) (k (R.length - 1)))))), (b 2, .inl (cI, (200, .inl v)))] H := hP
    have hD : va_D (Ao b 3) [(b 0, .inr (0, [.ref (b 1), .ref (b 2), .int (nI (R.length - 1)), .int (nI (now))])), (b 1, .inl (cI, (200, .inl (upd k (i) (k (R.length - 1)))))), (b 2, .inl (cI, (200, .inl v)))] := hD
    refine lv_aload_n hx hb dX0_wentOut_37 rfl (lv_at hl 1 rfl) ?_
    refine gf_X0_15 hx hb hG hown hK hP 0 rfl rfl dX0_wentOut_38 ?_
    refine lv_iload_n hx hb dX0_wentOut_41 rfl (lv_at hl 0 rfl) ?_
    refine lv_aload_n hx hb dX0_wentOut_42 rfl (lv_at hl 1 rfl) ?_
    refine gf_X0_15 hx hb hG hown hK hP 0 rfl rfl dX0_wentOut_43 ?_
    refine lv_aload_n hx hb dX0_wentOut_46 rfl (lv_at hl 1 rfl) ?_
    refine gf_X0_18 hx hb hG hown hK hP 0 rfl rfl dX0_wentOut_47 ?_
    refine x_iald hx hb hK hP 2 0 rfl rfl (by omega) (by decide) dX0_wentOut_50 ?_
    refine x_iast hx hb hK hP hD hS 2 0 rfl rfl (by omega) (by decide) dX0_wentOut_51 (fun H locs hP hD hS => ?_)
    have hP : va_P D vwCl [(b 0, .inr (0, [.ref (b 1), .ref (b 2), .int (nI (R.length - 1)), .int (nI (now))])), (b 1, .inl (cI, (200, .inl (upd k (i) (k (R.length - 1)))))), (b 2, .inl (cI, (200, .inl (upd v (i) (v (R.length - 1))))))] H := hP
    have hD : va_D (Ao b 3) [(b 0, .inr (0, [.ref (b 1), .ref (b 2), .int (nI (R.length - 1)), .int (nI (now))])), (b 1, .inl (cI, (200, .inl (upd k (i) (k (R.length - 1)))))), (b 2, .inl (cI, (200, .inl (upd v (i) (v (R.length - 1))))))] := hD
    exact w_v (PB := fun H => ArAt D cI b (swr R i) now H) ⟨_, _, by rw [swr_len]; exact hP, hRp.swp hiR⟩ hS hx hb hr hlocks dX0_wentOut_52
  · exact absurd (by first | exact c1 | exact Decidable.of_not_not c1) (m1_ne i (by omega))
set_option maxHeartbeats 4000000 in
set_option maxRecDepth 100000 in
/-- all go out of the record -/
theorem c_allWentOut (l : Launch) (D : va_G) (cI : ClassId) (b : Nat → Nat) (R : Bk) (now : Nat) (hap : Ap b 3) : Met l yX0_allWentOut (ws_ yX0_allWentOut cX0_allWentOut 1 none) (rmN 0) (va_Pc [.ref (b 0)] (pz D [(cI, .int)] (fun H => ArAt D cI b R now H))) (Wq none (fun H => ArAt D cI b [] now H) (Ao b 3)) 0 0 (Ao b 3) := by
  refine m_start (by decide) (Nat.le_of_ble_eq_true rfl) ?_
  intro p e s m below meth c hx hb hr hG hown hlocks hml hB ls hl
  have hl : lv_has ls 1 [(0, .ref (b 0))] := hl
  obtain ⟨⟨k, v, hP, hRp⟩, hK⟩ := hB
  have hlen := hRp.1
  have hD : va_D (Ao b 3) [(b 0, .inr (0, [.ref (b 1), .ref (b 2), .int (nI (R.length)), .int (nI (now))])), (b 1, .inl (cI, (200, .inl k))), (b 2, .inl (cI, (200, .inl v)))] := hap.D3
  have hS : va_S (Ao b 3) s.heap s.heap [] := va_S.rf
  refine lv_aload_n hx hb dX0_allWentOut_0 rfl (lv_at hl 0 rfl) ?_
  refine lv_iconst (v := nI 0) hx hb dX0_allWentOut_1 (by decide) ?_
  refine pf_X0_18 hx hb hG hown hK hP hD hS 0 rfl (v := .int (nI (0))) rfl rfl (Nat.le_of_ble_eq_true rfl) dX0_allWentOut_2 (fun H locs hP hD hS => ?_)
  have hP : va_P D vwCl [(b 0, .inr (0, [.ref (b 1), .ref (b 2), .int (nI (0)), .int (nI (now))])), (b 1, .inl (cI, (200, .inl k))), (b 2, .inl (cI, (200, .inl v)))] H := hP
  have hD : va_D (Ao b 3) [(b 0, .inr (0, [.ref (b 1), .ref (b 2), .int (nI (0)), .int (nI (now))])), (b 1, .inl (cI, (200, .inl k))), (b 2, .inl (cI, (200, .inl v)))] := hD
  exact w_v (PB := fun H => ArAt D cI b [] now H) ⟨_, _, hP, Rp.nil⟩ hS hx hb hr hlocks dX0_allWentOut_5
set_option maxHeartbeats 4000000 in
set_option maxRecDepth 100000 in
/-- another value at a place -/
theorem c_give (l : Launch) (D : va_G) (cI : ClassId) (a : Nat → Nat) (lg : Bool) (bd : Nat) (L : Bk) (j : Nat) (x : Int32) (hj : j < L.length) (hap : Ap a 3) : Met l yX1_give (ws_ yX1_give cX1_give 3 none) (rmN 1) (va_Pc [.ref (a 0), .int (nI (j)), .int (x)] (pz D [(cI, .int)] (fun H => BkAt D cI a lg bd L H))) (Wq none (fun H => BkAt D cI a lg bd (sv L j x) H) (Ao a 3)) 0 0 (Ao a 3) := by
  refine m_start (by decide) (Nat.le_of_ble_eq_true rfl) ?_
  intro p e s m below meth c hx hb hr hG hown hlocks hml hB ls hl
  have hl : lv_has ls 3 [(0, .ref (a 0)), (1, .int (nI (j))), (2, .int (x))] := hl
  obtain ⟨⟨k, v, hP, hRp⟩, hK⟩ := hB
  have hlen := hRp.1
  have hD : va_D (Ao a 3) [(a 0, .inr (1, [.ref (a 1), .ref (a 2), .ref (a 3), .int (bI (lg)), .int (nI (bd)), .int (nI (L.length))])), (a 1, .inl (cI, (200, .inl k))), (a 2, .inl (cI, (200, .inl v)))] := hap.D3
  have hS : va_S (Ao a 3) s.heap s.heap [] := va_S.rf
  refine lv_aload_n hx hb dX1_give_0 rfl (lv_at hl 0 rfl) ?_
  refine lv_iload_n hx hb dX1_give_1 rfl (lv_at hl 1 rfl) ?_
  refine k1_V hx hb hml hown hG cs_X1_36 (c_reaches l D a lg bd L.length (nI (j))) (by decide) (pzV (hK.sub (tys' := []) [] rfl) rfl ⟨_, hP.sub (ws' := [_]) [0] rfl⟩ (hP.sub (ws' := [_]) [0] rfl)) rfl hl.1 rfl (Nat.le_of_ble_eq_true rfl) dX1_give_2 ⟨Nat.zero_le _, Nat.zero_le _⟩ rfl ?_
  refine x_ifb_eq (tgt := 15) hx hb dX1_give_5 (by decide) (fun c1 => ?_) (fun c1 => ?_)
  · exact absurd (rch_in hj (by omega)) (by rw [c1]; decide)
  · refine lv_aload_n hx hb dX1_give_8 rfl (lv_at hl 0 rfl) ?_
    refine gf_X1_15 hx hb hG hown hK hP 0 rfl rfl dX1_give_9 ?_
    refine lv_iload_n hx hb dX1_give_12 rfl (lv_at hl 1 rfl) ?_
    refine lv_iload_n hx hb dX1_give_13 rfl (lv_at hl 2 rfl) ?_
    refine x_iast hx hb hK hP hD hS 2 0 rfl rfl (by omega) (by decide) dX1_give_14 (fun H locs hP hD hS => ?_)
    have hP : va_P D vwCl [(a 0, .inr (1, [.ref (a 1), .ref (a 2), .ref (a 3), .int (bI (lg)), .int (nI (bd)), .int (nI (L.length))])), (a 1, .inl (cI, (200, .inl k))), (a 2, .inl (cI, (200, .inl (upd v (j) (x)))))] H := hP
    have hD : va_D (Ao a 3) [(a 0, .inr (1, [.ref (a 1), .ref (a 2), .ref (a 3), .int (bI (lg)), .int (nI (bd)), .int (nI (L.length))])), (a 1, .inl (cI, (200, .inl k))), (a 2, .inl (cI, (200, .inl (upd v (j) (x)))))] := hD
    exact w_v (PB := fun H => BkAt D cI a lg bd (sv L j x) H) ⟨_, _, by rw [sv_len]; exact hP, hRp.sv hj x⟩ hS hx hb hr hlocks dX1_give_15
set_option maxHeartbeats 4000000 in
set_option maxRecDepth 100000 in
/-- a pair leaves a book -/
theorem c_leave (l : Launch) (D : va_G) (cI : ClassId) (a : Nat → Nat) (lg : Bool) (bd : Nat) (L : Bk) (N j : Nat) (hND : ND L) (hj : j < L.length) (hap : Ap a 6) : Met l yX1_leave (ws_ yX1_leave cX1_leave 3 none) (rmN 2) (va_Pc [.ref (a 0), .int (nI (j))] (pz D [(cI, .int)] (fun H => BookAt D cI a lg bd L N H))) (Wq none (fun H => BookAt D cI a lg bd (L.eraseIdx j) N H) (Ao a 6)) 0 0 (Ao a 6) := by
  refine m_start (by decide) (Nat.le_of_ble_eq_true rfl) ?_
  intro p e s m below meth c hx hb hr hG hown hlocks hml hB ls hl
  have hl : lv_has ls 3 [(0, .ref (a 0)), (1, .int (nI (j)))] := hl
  obtain ⟨⟨hB0, R, now, hA0, hT⟩, hK⟩ := hB
  obtain ⟨k, v, hP1, hRp⟩ := id hB0
  have hlen := hRp.1
  have hS : va_S (Ao a 6) s.heap s.heap [] := va_S.rf
  obtain ⟨hNR, τ, hfd, -, -⟩ := hT.found hND
  obtain ⟨i0, hi0, -⟩ := hfd j hj
  refine lv_aload_n hx hb dX1_leave_0 rfl (lv_at hl 0 rfl) ?_
  refine lv_iload_n hx hb dX1_leave_1 rfl (lv_at hl 1 rfl) ?_
  refine k1_V hx hb hml hown hG cs_X1_36 (c_reaches l D a lg bd L.length (nI (j))) (by decide) (pzV (hK.sub (tys' := []) [] rfl) rfl hB0.rc hB0.obj) rfl hl.1 rfl (Nat.le_of_ble_eq_true rfl) dX1_leave_2 ⟨Nat.zero_le _, Nat.zero_le _⟩ rfl ?_
  refine x_ifb_ne (tgt := 9) hx hb dX1_leave_5 (by decide) (fun c1 => ?_) (fun c1 => ?_)
  · refine lv_aload_n hx hb dX1_leave_9 rfl (lv_at hl 0 rfl) ?_
    refine gf_X1_21 hx hb hG hown hK hP1 0 rfl rfl dX1_leave_10 ?_
    refine lv_aload_n hx hb dX1_leave_13 rfl (lv_at hl 0 rfl) ?_
    refine gf_X1_9 hx hb hG hown hK hP1 0 rfl rfl dX1_leave_14 ?_
    refine lv_iload_n hx hb dX1_leave_17 rfl (lv_at hl 1 rfl) ?_
    refine x_iald hx hb hK hP1 1 0 rfl rfl (by omega) (by decide) dX1_leave_18 ?_
    rw [(hRp.2 (j) (by omega)).1]
    refine k2_V hx hb hml hown hG cs_X1_58 (c_wentOut l D cI (rec_ a) R now (kf L j) i0 hi0 hap.rc3) (by decide) (pzV hK rfl hA0.rc hA0) rfl hl.1 rfl (Nat.le_of_ble_eq_true rfl) dX1_leave_19 ⟨Nat.zero_le _, Nat.zero_le _⟩ rfl hS (fun q h => h.rc3) (fun H locs hA1 hz hk hS => ?_)
    obtain ⟨rk, rt, hP2, hRq⟩ := hA1
    have hP1 := hP1.kept (H1 := H) (fun i q hq => by match i, hq with | 0, hq => cases hq; exact hk _ (hB0.lt (i := 0) (by decide)) (hap.off (i := 0) (by decide)) | 1, hq => cases hq; exact hk _ (hB0.lt (i := 1) (by decide)) (hap.off (i := 1) (by decide)) | 2, hq => cases hq; exact hk _ (hB0.lt (i := 2) (by decide)) (hap.off (i := 2) (by decide)) | i + 3, hq => simp at hq)
    have hP : va_P D vwCl [(a 0, .inr (1, [.ref (a 1), .ref (a 2), .ref (a 3), .int (bI (lg)), .int (nI (bd)), .int (nI (L.length))])), (a 1, .inl (cI, (200, .inl k))), (a 2, .inl (cI, (200, .inl v))), (a 3, .inr (0, [.ref (a 4), .ref (a 5), .int (nI ((swr R i0).length)), .int (nI (now))])), (a 4, .inl (cI, (200, .inl rk))), (a 5, .inl (cI, (200, .inl rt)))] H := hP1.app hP2
    have hD : va_D (Ao a 6) [(a 0, .inr (1, [.ref (a 1), .ref (a 2), .ref (a 3), .int (bI (lg)), .int (nI (bd)), .int (nI (L.length))])), (a 1, .inl (cI, (200, .inl k))), (a 2, .inl (cI, (200, .inl v))), (a 3, .inr (0, [.ref (a 4), .ref (a 5), .int (nI ((swr R i0).length)), .int (nI (now))])), (a 4, .inl (cI, (200, .inl rk))), (a 5, .inl (cI, (200, .inl rt)))] := hap.D6
    refine lv_iload_n hx hb dX1_leave_22 rfl (lv_at hl 1 rfl) ?_
    refine lv_iconst (v := nI 1) hx hb dX1_leave_23 (by decide) ?_
    refine x_iadd (v := nI (j + 1)) hx hb dX1_leave_24 (nI_add _ _) ?_
    refine lv_istore_n (lv' := [(2, .int (nI (j + 1))), (0, .ref (a 0)), (1, .int (nI (j)))]) hx hb dX1_leave_25 rfl hl (by decide) rfl (fun ls hl => ?_)
    have h0k : Sh k k j (j + 1) := Sh.z
    have h0v : Sh v v j (j + 1) := Sh.z
    suffices KK : ∀ (n i : Nat) (k' v' : Nat → Int32), L.length < i + n → j + 1 ≤ i → i ≤ L.length → Sh k k' j i → Sh v v' j i → ∀ (H : Heap) (locs : List Loc), va_P D vwCl [(a 0, .inr (1, [.ref (a 1), .ref (a 2), .ref (a 3), .int (bI (lg)), .int (nI (bd)), .int (nI (L.length))])), (a 1, .inl (cI, (200, .inl k'))), (a 2, .inl (cI, (200, .inl v'))), (a 3, .inr (0, [.ref (a 4), .ref (a 5), .int (nI ((swr R i0).length)), .int (nI (now))])), (a 4, .inl (cI, (200, .inl rk))), (a 5, .inl (cI, (200, .inl rt)))] H → va_D (Ao a 6) [(a 0, .inr (1, [.ref (a 1), .ref (a 2), .ref (a 3), .int (bI (lg)), .int (nI (bd)), .int (nI (L.length))])), (a 1, .inl (cI, (200, .inl k'))), (a 2, .inl (cI, (200, .inl v'))), (a 3, .inr (0, [.ref (a 4), .ref (a 5), .int (nI ((swr R i0).length)), .int (nI (now))])), (a 4, .inl (cI, (200, .inl rk))), (a 5, .inl (cI, (200, .inl rt)))] → va_S (Ao a 6) s.heap H locs → ∀ ls : Array Slot, lv_has ls 3 [(2, .int (nI (i))), (0, .ref (a 0)), (1, .int (nI (j)))] → W p l e (rmN 2) s m [.ref (a 0), .int (nI (j))].toArray below meth c H locs 0 0 (MQ below (Wq none (fun H => BookAt D cI a lg bd (L.eraseIdx j) N H) (Ao a 6)) [.ref (a 0), .int (nI (j))].toArray s 0 0 (Ao a 6)) (F0 m 26 ls []) from KK (L.length + 1) (j + 1) k v (by omega) (by omega) (by omega) h0k h0v H locs hP hD hS ls (lv_sub hl [0, 1, 2] rfl)
    clear hP hD hS hl hP1 hP2 h0k h0v hz hk
    intro n
    induction n with
    | zero => intro i k' v' h1 h2 h3; omega
    | succ n ih =>
      intro i k' v' h1 h2 h3 hsk hsv H locs hP hD hS ls hl
      refine lv_iload_n hx hb dX1_leave_26 rfl (lv_at hl 0 rfl) ?_
      refine lv_aload_n hx hb dX1_leave_27 rfl (lv_at hl 1 rfl) ?_
      refine gf_X1_33 hx hb hG hown hK hP 0 rfl rfl dX1_leave_28 ?_
      refine x_cmp_ge (tgt := 68) hx hb dX1_leave_31 (by decide) (by omega) (by omega) (fun c2 => ?_) (fun c2 => ?_)
      · refine lv_aload_n hx hb dX1_leave_68 rfl (lv_at hl 1 rfl) ?_
        refine lv_dup hx hb dX1_leave_69 rfl ?_
        refine gf_X1_33 hx hb hG hown hK hP 0 rfl rfl dX1_leave_70 ?_
        refine lv_iconst (v := nI 1) hx hb dX1_leave_73 (by decide) ?_
        refine x_isub (v := nI (L.length - 1)) hx hb dX1_leave_74 (pk_sub (by omega)) ?_
        refine pf_X1_33 hx hb hG hown hK hP hD hS 0 rfl (v := .int (nI (L.length - 1))) rfl rfl (Nat.le_of_ble_eq_true rfl) dX1_leave_75 (fun H locs hP hD hS => ?_)
        have hP : va_P D vwCl [(a 0, .inr (1, [.ref (a 1), .ref (a 2), .ref (a 3), .int (bI (lg)), .int (nI (bd)), .int (nI (L.length - 1))])), (a 1, .inl (cI, (200, .inl k'))), (a 2, .inl (cI, (200, .inl v'))), (a 3, .inr (0, [.ref (a 4), .ref (a 5), .int (nI ((swr R i0).length)), .int (nI (now))])), (a 4, .inl (cI, (200, .inl rk))), (a 5, .inl (cI, (200, .inl rt)))] H := hP
        have hD : va_D (Ao a 6) [(a 0, .inr (1, [.ref (a 1), .ref (a 2), .ref (a 3), .int (bI (lg)), .int (nI (bd)), .int (nI (L.length - 1))])), (a 1, .inl (cI, (200, .inl k'))), (a 2, .inl (cI, (200, .inl v'))), (a 3, .inr (0, [.ref (a 4), .ref (a 5), .int (nI ((swr R i0).length)), .int (nI (now))])), (a 4, .inl (cI, (200, .inl rk))), (a 5, .inl (cI, (200, .inl rt)))] := hD
        have ei : i = L.length := by omega
        subst ei
        exact w_v (PB := fun H => BookAt D cI a lg bd (L.eraseIdx j) N H) ⟨⟨k', v', by rw [era_len hj]; exact hP.sub [0, 1, 2] rfl, Sh.era hRp hj hsk hsv⟩, swr R i0, now, ⟨rk, rt, hP.sub [3, 4, 5] rfl, hRq⟩, hT.era hND hj hi0⟩ hS hx hb hr hlocks dX1_leave_78
      · refine lv_aload_n hx hb dX1_leave_34 rfl (lv_at hl 1 rfl) ?_
        refine gf_X1_9 hx hb hG hown hK hP 0 rfl rfl dX1_leave_35 ?_
        refine lv_iload_n hx hb dX1_leave_38 rfl (lv_at hl 0 rfl) ?_
        refine lv_iconst (v := nI 1) hx hb dX1_leave_39 (by decide) ?_
        refine x_isub (v := nI (i - 1)) hx hb dX1_leave_40 (pk_sub (by omega)) ?_
        refine lv_aload_n hx hb dX1_leave_41 rfl (lv_at hl 1 rfl) ?_
        refine gf_X1_9 hx hb hG hown hK hP 0 rfl rfl dX1_leave_42 ?_
        refine lv_iload_n hx hb dX1_leave_45 rfl (lv_at hl 0 rfl) ?_
        refine x_iald hx hb hK hP 1 0 rfl rfl (by omega) (by decide) dX1_leave_46 ?_
        refine x_iast hx hb hK hP hD hS 1 0 rfl rfl (by omega) (by decide) dX1_leave_47 (fun H locs hP hD hS => ?_)
        have hP : va_P D vwCl [(a 0, .inr (1, [.ref (a 1), .ref (a 2), .ref (a 3), .int (bI (lg)), .int (nI (bd)), .int (nI (L.length))])), (a 1, .inl (cI, (200, .inl (upd k' (i - 1) (k' (i)))))), (a 2, .inl (cI, (200, .inl v'))), (a 3, .inr (0, [.ref (a 4), .ref (a 5), .int (nI ((swr R i0).length)), .int (nI (now))])), (a 4, .inl (cI, (200, .inl rk))), (a 5, .inl (cI, (200, .inl rt)))] H := hP
        have hD : va_D (Ao a 6) [(a 0, .inr (1, [.ref (a 1), .ref (a 2), .ref (a 3), .int (bI (lg)), .int (nI (bd)), .int (nI (L.length))])), (a 1, .inl (cI, (200, .inl (upd k' (i - 1) (k' (i)))))), (a 2, .inl (cI, (200, .inl v'))), (a 3, .inr (0, [.ref (a 4), .ref (a 5), .int (nI ((swr R i0).length)), .int (nI (now))])), (a 4, .inl (cI, (200, .inl rk))), (a 5, .inl (cI, (200, .inl rt)))] := hD
        refine lv_aload_n hx hb dX1_leave_48 rfl (lv_at hl 1 rfl) ?_
        refine gf_X1_15 hx hb hG hown hK hP 0 rfl rfl dX1_leave_49 ?_
        refine lv_iload_n hx hb dX1_leave_52 rfl (lv_at hl 0 rfl) ?_
        refine lv_iconst (v := nI 1) hx hb dX1_leave_53 (by decide) ?_
        refine x_isub (v := nI (i - 1)) hx hb dX1_leave_54 (pk_sub (by omega)) ?_
        refine lv_aload_n hx hb dX1_leave_55 rfl (lv_at hl 1 rfl) ?_
        refine gf_X1_15 hx hb hG hown hK hP 0 rfl rfl dX1_leave_56 ?_
        refine lv_iload_n hx hb dX1_leave_59 rfl (lv_at hl 0 rfl) ?_
        refine x_iald hx hb hK hP 2 0 rfl rfl (by omega) (by decide) dX1_leave_60 ?_
        refine x_iast hx hb hK hP hD hS 2 0 rfl rfl (by omega) (by decide) dX1_leave_61 (fun H locs hP hD hS => ?_)
        have hP : va_P D vwCl [(a 0, .inr (1, [.ref (a 1), .ref (a 2), .ref (a 3), .int (bI (lg)), .int (nI (bd)), .int (nI (L.length))])), (a 1, .inl (cI, (200, .inl (upd k' (i - 1) (k' (i)))))), (a 2, .inl (cI, (200, .inl (upd v' (i - 1) (v' (i)))))), (a 3, .inr (0, [.ref (a 4), .ref (a 5), .int (nI ((swr R i0).length)), .int (nI (now))])), (a 4, .inl (cI, (200, .inl rk))), (a 5, .inl (cI, (200, .inl rt)))] H := hP
        have hD : va_D (Ao a 6) [(a 0, .inr (1, [.ref (a 1), .ref (a 2), .ref (a 3), .int (bI (lg)), .int (nI (bd)), .int (nI (L.length))])), (a 1, .inl (cI, (200, .inl (upd k' (i - 1) (k' (i)))))), (a 2, .inl (cI, (200, .inl (upd v' (i - 1) (v' (i)))))), (a 3, .inr (0, [.ref (a 4), .ref (a 5), .int (nI ((swr R i0).length)), .int (nI (now))])), (a 4, .inl (cI, (200, .inl rk))), (a 5, .inl (cI, (200, .inl rt)))] := hD
        refine x_iinc (k := 0) (lv' := [(2, .int (nI (i + 1))), (0, .ref (a 0)), (1, .int (nI (j)))]) hx hb dX1_leave_62 hl rfl (by decide) rfl (fun ls hl => ?_)
        refine lv_goto (tgt := 26) hx hb dX1_leave_65 (by decide) ?_
        exact ih (i + 1) _ _ (by omega) (by omega) (by omega) (hsk.step h2) (hsv.step h2) H locs hP hD hS ls (lv_sub hl [0, 1, 2] rfl)
  · exact absurd (rch_in hj (by omega)) (by rw [c1]; decide)
/-- a new pair comes: behind its bound the first pair of a book that lets go is gone -/
def ent (lg : Bool) (bd : Nat) (L : Bk) (x y : Int32) : Bk := if lg = true ∧ bd < L.length + 1 then (L ++ [(x, y)]).eraseIdx 0 else L ++ [(x, y)]
/-- a pair is put -/
def stq (lg : Bool) (bd : Nat) (L : Bk) (x y : Int32) : Bk := match fx L x with | none => ent lg bd L x y | some i => sv L i y
theorem stq_no {lg : Bool} {bd : Nat} {L : Bk} {x y : Int32} (h : fx L x = none) : stq lg bd L x y = ent lg bd L x y := by unfold stq; rw [h]
theorem stq_at {lg : Bool} {bd : Nat} {L : Bk} {x y : Int32} {i : Nat} (h : fx L x = some i) : stq lg bd L x y = sv L i y := by unfold stq; rw [h]
set_option maxHeartbeats 4000000 in
set_option maxRecDepth 100000 in
/-- a key that is not there comes -/
theorem c_enter (l : Launch) (D : va_G) (cI : ClassId) (a : Nat → Nat) (lg : Bool) (bd : Nat) (L : Bk) (N : Nat) (x y : Int32) (hND : ND L) (hno : fx L x = none) (hl2 : L.length < 200) (hbd : bd ≤ 200) (hN : N + 1 < 2 ^ 31) (hap : Ap a 6) : Met l yX1_enter (ws_ yX1_enter cX1_enter 3 none) (rmN 3) (va_Pc [.ref (a 0), .int (x), .int (y)] (pz D [(cI, .int)] (fun H => BookAt D cI a lg bd L N H))) (Wq none (fun H => BookAt D cI a lg bd (ent lg bd L x y) (N + 1) H) (Ao a 6)) 0 0 (Ao a 6) := by
  refine m_start (by decide) (Nat.le_of_ble_eq_true rfl) ?_
  intro p e s m below meth c hx hb hr hG hown hlocks hml hB ls hl
  have hl : lv_has ls 3 [(0, .ref (a 0)), (1, .int (x)), (2, .int (y))] := hl
  obtain ⟨⟨hB0, R, now, hA0, hT⟩, hK⟩ := hB
  obtain ⟨k, v, hP1, hRp⟩ := id hB0
  have hlen := hRp.1
  obtain ⟨rk, rt, hP2, hRq⟩ := hA0
  have hRl := hT.len
  have hnow := hT.1
  have hS : va_S (Ao a 6) s.heap s.heap [] := va_S.rf
  have hP : va_P D vwCl [(a 0, .inr (1, [.ref (a 1), .ref (a 2), .ref (a 3), .int (bI (lg)), .int (nI (bd)), .int (nI (L.length))])), (a 1, .inl (cI, (200, .inl k))), (a 2, .inl (cI, (200, .inl v))), (a 3, .inr (0, [.ref (a 4), .ref (a 5), .int (nI (R.length)), .int (nI (now))])), (a 4, .inl (cI, (200, .inl rk))), (a 5, .inl (cI, (200, .inl rt)))] s.heap := hP1.app hP2
  have hD : va_D (Ao a 6) [(a 0, .inr (1, [.ref (a 1), .ref (a 2), .ref (a 3), .int (bI (lg)), .int (nI (bd)), .int (nI (L.length))])), (a 1, .inl (cI, (200, .inl k))), (a 2, .inl (cI, (200, .inl v))), (a 3, .inr (0, [.ref (a 4), .ref (a 5), .int (nI (R.length)), .int (nI (now))])), (a 4, .inl (cI, (200, .inl rk))), (a 5, .inl (cI, (200, .inl rt)))] := hap.D6
  refine lv_aload_n hx hb dX1_enter_0 rfl (lv_at hl 0 rfl) ?_
  refine gf_X1_33 hx hb hG hown hK hP 0 rfl rfl dX1_enter_1 ?_
  refine lv_sipush (v := nI 200) hx hb dX1_enter_4 (by decide) ?_
  refine x_cmp_lt (tgt := 11) hx hb dX1_enter_7 (by decide) (by omega) (by omega) (fun c1 => ?_) (fun c1 => ?_)
  · refine lv_aload_n hx hb dX1_enter_11 rfl (lv_at hl 0 rfl) ?_
    refine gf_X1_9 hx hb hG hown hK hP 0 rfl rfl dX1_enter_12 ?_
    refine lv_aload_n hx hb dX1_enter_15 rfl (lv_at hl 0 rfl) ?_
    refine gf_X1_33 hx hb hG hown hK hP 0 rfl rfl dX1_enter_16 ?_
    refine lv_iload_n hx hb dX1_enter_19 rfl (lv_at hl 1 rfl) ?_
    refine x_iast hx hb hK hP hD hS 1 0 rfl rfl (by omega) (by decide) dX1_enter_20 (fun H locs hP hD hS => ?_)
    have hP : va_P D vwCl [(a 0, .inr (1, [.ref (a 1), .ref (a 2), .ref (a 3), .int (bI (lg)), .int (nI (bd)), .int (nI (L.length))])), (a 1, .inl (cI, (200, .inl (upd k (L.length) (x))))), (a 2, .inl (cI, (200, .inl v))), (a 3, .inr (0, [.ref (a 4), .ref (a 5), .int (nI (R.length)), .int (nI (now))])), (a 4, .inl (cI, (200, .inl rk))), (a 5, .inl (cI, (200, .inl rt)))] H := hP
    have hD : va_D (Ao a 6) [(a 0, .inr (1, [.ref (a 1), .ref (a 2), .ref (a 3), .int (bI (lg)), .int (nI (bd)), .int (nI (L.length))])), (a 1, .inl (cI, (200, .inl (upd k (L.length) (x))))), (a 2, .inl (cI, (200, .inl v))), (a 3, .inr (0, [.ref (a 4), .ref (a 5), .int (nI (R.length)), .int (nI (now))])), (a 4, .inl (cI, (200, .inl rk))), (a 5, .inl (cI, (200, .inl rt)))] := hD
    refine lv_aload_n hx hb dX1_enter_21 rfl (lv_at hl 0 rfl) ?_
    refine gf_X1_15 hx hb hG hown hK hP 0 rfl rfl dX1_enter_22 ?_
    refine lv_aload_n hx hb dX1_enter_25 rfl (lv_at hl 0 rfl) ?_
    refine gf_X1_33 hx hb hG hown hK hP 0 rfl rfl dX1_enter_26 ?_
    refine lv_iload_n hx hb dX1_enter_29 rfl (lv_at hl 2 rfl) ?_
    refine x_iast hx hb hK hP hD hS 2 0 rfl rfl (by omega) (by decide) dX1_enter_30 (fun H locs hP hD hS => ?_)
    have hP : va_P D vwCl [(a 0, .inr (1, [.ref (a 1), .ref (a 2), .ref (a 3), .int (bI (lg)), .int (nI (bd)), .int (nI (L.length))])), (a 1, .inl (cI, (200, .inl (upd k (L.length) (x))))), (a 2, .inl (cI, (200, .inl (upd v (L.length) (y))))), (a 3, .inr (0, [.ref (a 4), .ref (a 5), .int (nI (R.length)), .int (nI (now))])), (a 4, .inl (cI, (200, .inl rk))), (a 5, .inl (cI, (200, .inl rt)))] H := hP
    have hD : va_D (Ao a 6) [(a 0, .inr (1, [.ref (a 1), .ref (a 2), .ref (a 3), .int (bI (lg)), .int (nI (bd)), .int (nI (L.length))])), (a 1, .inl (cI, (200, .inl (upd k (L.length) (x))))), (a 2, .inl (cI, (200, .inl (upd v (L.length) (y))))), (a 3, .inr (0, [.ref (a 4), .ref (a 5), .int (nI (R.length)), .int (nI (now))])), (a 4, .inl (cI, (200, .inl rk))), (a 5, .inl (cI, (200, .inl rt)))] := hD
    refine lv_aload_n hx hb dX1_enter_31 rfl (lv_at hl 0 rfl) ?_
    refine lv_dup hx hb dX1_enter_32 rfl ?_
    refine gf_X1_33 hx hb hG hown hK hP 0 rfl rfl dX1_enter_33 ?_
    refine lv_iconst (v := nI 1) hx hb dX1_enter_36 (by decide) ?_
    refine x_iadd (v := nI (L.length + 1)) hx hb dX1_enter_37 (nI_add _ _) ?_
    refine pf_X1_33 hx hb hG hown hK hP hD hS 0 rfl (v := .int (nI (L.length + 1))) rfl rfl (Nat.le_of_ble_eq_true rfl) dX1_enter_38 (fun H locs hP hD hS => ?_)
    have hP : va_P D vwCl [(a 0, .inr (1, [.ref (a 1), .ref (a 2), .ref (a 3), .int (bI (lg)), .int (nI (bd)), .int (nI (L.length + 1))])), (a 1, .inl (cI, (200, .inl (upd k (L.length) (x))))), (a 2, .inl (cI, (200, .inl (upd v (L.length) (y))))), (a 3, .inr (0, [.ref (a 4), .ref (a 5), .int (nI (R.length)), .int (nI (now))])), (a 4, .inl (cI, (200, .inl rk))), (a 5, .inl (cI, (200, .inl rt)))] H := hP
    have hD : va_D (Ao a 6) [(a 0, .inr (1, [.ref (a 1), .ref (a 2), .ref (a 3), .int (bI (lg)), .int (nI (bd)), .int (nI (L.length + 1))])), (a 1, .inl (cI, (200, .inl (upd k (L.length) (x))))), (a 2, .inl (cI, (200, .inl (upd v (L.length) (y))))), (a 3, .inr (0, [.ref (a 4), .ref (a 5), .int (nI (R.length)), .int (nI (now))])), (a 4, .inl (cI, (200, .inl rk))), (a 5, .inl (cI, (200, .inl rt)))] := hD
    refine lv_aload_n hx hb dX1_enter_41 rfl (lv_at hl 0 rfl) ?_
    refine gf_X1_21 hx hb hG hown hK hP 0 rfl rfl dX1_enter_42 ?_
    refine lv_iload_n hx hb dX1_enter_45 rfl (lv_at hl 1 rfl) ?_
    have e1 : (L ++ [(x, y)]).length = L.length + 1 := by simp
    have hA0 : ArAt D cI (rec_ a) R now H := ⟨rk, rt, hP.sub [3, 4, 5] rfl, hRq⟩
    have hB1 : BkAt D cI a lg bd (L ++ [(x, y)]) H := ⟨_, _, by rw [e1]; exact hP.sub [0, 1, 2] rfl, hRp.push hl2 x y⟩
    refine k2_V hx hb hml hown hG cs_X1_40 (c_cameIn l D cI (rec_ a) R now x (by omega) (by omega) hap.rc3) (by decide) (pzV hK rfl hA0.rc hA0) rfl hl.1 rfl (Nat.le_of_ble_eq_true rfl) dX1_enter_46 ⟨Nat.zero_le _, Nat.zero_le _⟩ rfl hS (fun q h => h.rc3) (fun H2 locs hA1 hz hk hS => ?_)
    have hB2 : BkAt D cI a lg bd (L ++ [(x, y)]) H2 := hB1.kept (fun i hi => hk _ (hB1.lt hi) (hap.off hi))
    have hBk : BookAt D cI a lg bd (L ++ [(x, y)]) (N + 1) H2 := ⟨hB2, _, _, hA1, hT.push (by omega) x y⟩
    clear hP hD
    refine lv_aload_n hx hb dX1_enter_49 rfl (lv_at hl 0 rfl) ?_
    refine gf_X1_29 hx hb hG hown hK hB2.obj 0 rfl rfl dX1_enter_50 ?_
    refine x_ifb_eq (tgt := 72) hx hb dX1_enter_53 (by decide) (fun c2 => ?_) (fun c2 => ?_)
    · exact w_v (PB := fun H => BookAt D cI a lg bd (ent lg bd L x y) (N + 1) H) (by unfold ent; rw [if_neg (fun h => absurd h.1 (by rw [c2]; decide))]; exact hBk) hS hx hb hr hlocks dX1_enter_72
    · refine lv_aload_n hx hb dX1_enter_56 rfl (lv_at hl 0 rfl) ?_
      refine gf_X1_33 hx hb hG hown hK hB2.obj 0 rfl rfl dX1_enter_57 ?_
      refine lv_aload_n hx hb dX1_enter_60 rfl (lv_at hl 0 rfl) ?_
      refine gf_X1_25 hx hb hG hown hK hB2.obj 0 rfl rfl dX1_enter_61 ?_
      refine x_cmp_le (tgt := 72) hx hb dX1_enter_64 (by decide) (by omega) (by omega) (fun c3 => ?_) (fun c3 => ?_)
      · exact w_v (PB := fun H => BookAt D cI a lg bd (ent lg bd L x y) (N + 1) H) (by unfold ent; rw [if_neg (fun h => absurd h.2 (by omega))]; exact hBk) hS hx hb hr hlocks dX1_enter_72
      · refine lv_aload_n hx hb dX1_enter_67 rfl (lv_at hl 0 rfl) ?_
        refine lv_iconst (v := nI 0) hx hb dX1_enter_68 (by decide) ?_
        refine k2_V hx hb hml hown hG cs_X1_44 (c_leave l D cI a lg bd (L ++ [(x, y)]) (N + 1) 0 (ND_app hND hno) (by omega) hap) (by decide) (pzV hK rfl hB2.rc hBk) rfl hl.1 rfl (Nat.le_of_ble_eq_true rfl) dX1_enter_69 ⟨Nat.zero_le _, Nat.zero_le _⟩ rfl hS (fun q h => h) (fun H3 locs hB3 hz hk hS => ?_)
        exact w_v (PB := fun H => BookAt D cI a lg bd (ent lg bd L x y) (N + 1) H) (by unfold ent; rw [if_pos ⟨c2, by omega⟩]; exact hB3) hS hx hb hr hlocks dX1_enter_72
  · omega
set_option maxHeartbeats 4000000 in
set_option maxRecDepth 100000 in
/-- a pair is put -/
theorem c_store_no (l : Launch) (D : va_G) (cI : ClassId) (a : Nat → Nat) (lg : Bool) (bd : Nat) (L : Bk) (N : Nat) (x y : Int32)  (hno : fx L x = none) (hl2 : L.length < 200) (hND : ND L) (hbd : bd ≤ 200) (hN : N + 1 < 2 ^ 31) (hap : Ap a 6) : Met l yX1_store (ws_ yX1_store cX1_store 4 (some .boolean)) (rmN 4) (va_Pc [.ref (a 0), .int (x), .int (y)] (pz D [(cI, .int)] (fun H => BookAt D cI a lg bd L N H))) (Wq (some (.int (bI false))) (fun H => BookAt D cI a lg bd (stq lg bd L x y) (N + 1) H) (Ao a 6)) 0 0 (Ao a 6) := by
  refine m_start (by decide) (Nat.le_of_ble_eq_true rfl) ?_
  intro p e s m below meth c hx hb hr hG hown hlocks hml hB ls hl
  have hl : lv_has ls 4 [(0, .ref (a 0)), (1, .int (x)), (2, .int (y))] := hl
  obtain ⟨hBk, hK⟩ := hB
  have hlen := hBk.1.len
  have hS : va_S (Ao a 6) s.heap s.heap [] := va_S.rf
  refine lv_aload_n hx hb dX1_store_0 rfl (lv_at hl 0 rfl) ?_
  refine lv_iload_n hx hb dX1_store_1 rfl (lv_at hl 1 rfl) ?_
  refine k1_V hx hb hml hown hG cs_X1_47 (c_find_no l D cI a lg bd L x hno) (by decide) (pzV hK rfl hBk.1.rc hBk.1) rfl hl.1 rfl (Nat.le_of_ble_eq_true rfl) dX1_store_2 ⟨Nat.zero_le _, Nat.zero_le _⟩ rfl ?_
  refine lv_istore_n (lv' := [(3, .int ((-1))), (0, .ref (a 0)), (1, .int (x)), (2, .int (y))]) hx hb dX1_store_5 rfl hl (by decide) rfl (fun ls hl => ?_)
  refine lv_iload_n hx hb dX1_store_6 rfl (lv_at hl 0 rfl) ?_
  refine lv_iconst (v := (-1)) hx hb dX1_store_7 (by decide) ?_
  refine lv_icmp_ne (tgt := 19) hx hb dX1_store_8 (by decide) (fun c1 => ?_) (fun c1 => ?_)
  · exact absurd rfl c1
  · refine lv_aload_n hx hb dX1_store_11 rfl (lv_at hl 1 rfl) ?_
    refine lv_iload_n hx hb dX1_store_12 rfl (lv_at hl 2 rfl) ?_
    refine lv_iload_n hx hb dX1_store_13 rfl (lv_at hl 3 rfl) ?_
    refine k2_V hx hb hml hown hG cs_X1_51 (c_enter l D cI a lg bd L N x y hND hno hl2 hbd hN hap) (by decide) (pzV hK rfl hBk.1.rc hBk) rfl hl.1 rfl (Nat.le_of_ble_eq_true rfl) dX1_store_14 ⟨Nat.zero_le _, Nat.zero_le _⟩ rfl hS (fun q h => h) (fun H2 locs hB2 hz hk hS => ?_)
    refine lv_iconst (v := nI 0) hx hb dX1_store_17 (by decide) ?_
    exact w_z (PB := fun H => BookAt D cI a lg bd (stq lg bd L x y) (N + 1) H) rfl (by rw [stq_no hno]; exact hB2) hS hx hb hr hlocks dX1_store_18
set_option maxHeartbeats 4000000 in
set_option maxRecDepth 100000 in
/-- a pair is put -/
theorem c_store_at (l : Launch) (D : va_G) (cI : ClassId) (a : Nat → Nat) (lg : Bool) (bd : Nat) (L : Bk) (N : Nat) (x y : Int32)  (i : Nat) (hi : fx L x = some i) (hND : ND L) (hbd : bd ≤ 200) (hN : N + 1 < 2 ^ 31) (hap : Ap a 6) : Met l yX1_store (ws_ yX1_store cX1_store 4 (some .boolean)) (rmN 4) (va_Pc [.ref (a 0), .int (x), .int (y)] (pz D [(cI, .int)] (fun H => BookAt D cI a lg bd L N H))) (Wq (some (.int (bI true))) (fun H => BookAt D cI a lg bd (stq lg bd L x y) (N + 1) H) (Ao a 6)) 0 0 (Ao a 6) := by
  refine m_start (by decide) (Nat.le_of_ble_eq_true rfl) ?_
  intro p e s m below meth c hx hb hr hG hown hlocks hml hB ls hl
  have hl : lv_has ls 4 [(0, .ref (a 0)), (1, .int (x)), (2, .int (y))] := hl
  obtain ⟨hBk, hK⟩ := hB
  have hlen := hBk.1.len
  have hS : va_S (Ao a 6) s.heap s.heap [] := va_S.rf
  have hiL := (fx_some hi).1
  refine lv_aload_n hx hb dX1_store_0 rfl (lv_at hl 0 rfl) ?_
  refine lv_iload_n hx hb dX1_store_1 rfl (lv_at hl 1 rfl) ?_
  refine k1_V hx hb hml hown hG cs_X1_47 (c_find_at l D cI a lg bd L x hi) (by decide) (pzV hK rfl hBk.1.rc hBk.1) rfl hl.1 rfl (Nat.le_of_ble_eq_true rfl) dX1_store_2 ⟨Nat.zero_le _, Nat.zero_le _⟩ rfl ?_
  refine lv_istore_n (lv' := [(3, .int (nI (i))), (0, .ref (a 0)), (1, .int (x)), (2, .int (y))]) hx hb dX1_store_5 rfl hl (by decide) rfl (fun ls hl => ?_)
  refine lv_iload_n hx hb dX1_store_6 rfl (lv_at hl 0 rfl) ?_
  refine lv_iconst (v := (-1)) hx hb dX1_store_7 (by decide) ?_
  refine lv_icmp_ne (tgt := 19) hx hb dX1_store_8 (by decide) (fun c1 => ?_) (fun c1 => ?_)
  · refine lv_aload_n hx hb dX1_store_19 rfl (lv_at hl 1 rfl) ?_
    refine lv_iload_n hx hb dX1_store_20 rfl (lv_at hl 0 rfl) ?_
    refine lv_iload_n hx hb dX1_store_21 rfl (lv_at hl 3 rfl) ?_
    refine k2_V hx hb hml hown hG cs_X1_55 (c_give l D cI a lg bd L i y hiL (hap.sub (by decide))) (by decide) (pzV hK rfl hBk.1.rc hBk.1) rfl hl.1 rfl (Nat.le_of_ble_eq_true rfl) dX1_store_22 ⟨Nat.zero_le _, Nat.zero_le _⟩ rfl hS (fun q h => h.mono (by decide)) (fun H2 locs hB2 hz hk hS => ?_)
    obtain ⟨R, now, hA0, hT⟩ := hBk.2
    have hB2 : BookAt D cI a lg bd (sv L i y) (N + 1) H2 := ⟨hB2, R, now, hA0.kept (fun i hi => hk _ (hA0.lt hi) (hap.off' hi)), (hT.keys (sv_keys L i y)).mono (by omega)⟩
    refine lv_iconst (v := nI 1) hx hb dX1_store_25 (by decide) ?_
    exact w_z (PB := fun H => BookAt D cI a lg bd (stq lg bd L x y) (N + 1) H) rfl (by rw [stq_at hi]; exact hB2) hS hx hb hr hlocks dX1_store_26
  · exact absurd (by first | exact c1 | exact Decidable.of_not_not c1) (m1_ne i (by omega))
set_option maxHeartbeats 4000000 in
set_option maxRecDepth 100000 in
/-- a book is emptied -/
theorem c_empty (l : Launch) (D : va_G) (cI : ClassId) (a : Nat → Nat) (lg : Bool) (bd : Nat) (L : Bk) (N : Nat) (hap : Ap a 6) : Met l yX1_empty (ws_ yX1_empty cX1_empty 1 none) (rmN 1) (va_Pc [.ref (a 0)] (pz D [(cI, .int)] (fun H => BookAt D cI a lg bd L N H))) (Wq none (fun H => BookAt D cI a lg bd [] N H) (Ao a 6)) 0 0 (Ao a 6) := by
  refine m_start (by decide) (Nat.le_of_ble_eq_true rfl) ?_
  intro p e s m below meth c hx hb hr hG hown hlocks hml hB ls hl
  have hl : lv_has ls 1 [(0, .ref (a 0))] := hl
  obtain ⟨⟨hB0, R, now, hA0, hT⟩, hK⟩ := hB
  obtain ⟨k, v, hP1, hRp⟩ := id hB0
  have hlen := hRp.1
  have hS : va_S (Ao a 6) s.heap s.heap [] := va_S.rf
  refine lv_aload_n hx hb dX1_empty_0 rfl (lv_at hl 0 rfl) ?_
  refine gf_X1_21 hx hb hG hown hK hB0.obj 0 rfl rfl dX1_empty_1 ?_
  refine k2_V hx hb hml hown hG cs_X1_61 (c_allWentOut l D cI (rec_ a) R now hap.rc3) (by decide) (pzV hK rfl hA0.rc hA0) rfl hl.1 rfl (Nat.le_of_ble_eq_true rfl) dX1_empty_4 ⟨Nat.zero_le _, Nat.zero_le _⟩ rfl hS (fun q h => h.rc3) (fun H locs hA1 hz hk hS => ?_)
  obtain ⟨rk, rt, hP2, hRq⟩ := hA1
  have hB1 : BkAt D cI a lg bd L H := hB0.kept (fun i hi => hk _ (hB0.lt hi) (hap.off hi))
  obtain ⟨k, v, hP1, hRp⟩ := hB1
  have hP : va_P D vwCl [(a 0, .inr (1, [.ref (a 1), .ref (a 2), .ref (a 3), .int (bI (lg)), .int (nI (bd)), .int (nI (L.length))])), (a 1, .inl (cI, (200, .inl k))), (a 2, .inl (cI, (200, .inl v))), (a 3, .inr (0, [.ref (a 4), .ref (a 5), .int (nI (0)), .int (nI (now))])), (a 4, .inl (cI, (200, .inl rk))), (a 5, .inl (cI, (200, .inl rt)))] H := hP1.app hP2
  have hD : va_D (Ao a 6) [(a 0, .inr (1, [.ref (a 1), .ref (a 2), .ref (a 3), .int (bI (lg)), .int (nI (bd)), .int (nI (L.length))])), (a 1, .inl (cI, (200, .inl k))), (a 2, .inl (cI, (200, .inl v))), (a 3, .inr (0, [.ref (a 4), .ref (a 5), .int (nI (0)), .int (nI (now))])), (a 4, .inl (cI, (200, .inl rk))), (a 5, .inl (cI, (200, .inl rt)))] := hap.D6
  refine lv_aload_n hx hb dX1_empty_7 rfl (lv_at hl 0 rfl) ?_
  refine lv_iconst (v := nI 0) hx hb dX1_empty_8 (by decide) ?_
  refine pf_X1_33 hx hb hG hown hK hP hD hS 0 rfl (v := .int (nI (0))) rfl rfl (Nat.le_of_ble_eq_true rfl) dX1_empty_9 (fun H locs hP hD hS => ?_)
  have hP : va_P D vwCl [(a 0, .inr (1, [.ref (a 1), .ref (a 2), .ref (a 3), .int (bI (lg)), .int (nI (bd)), .int (nI (0))])), (a 1, .inl (cI, (200, .inl k))), (a 2, .inl (cI, (200, .inl v))), (a 3, .inr (0, [.ref (a 4), .ref (a 5), .int (nI (0)), .int (nI (now))])), (a 4, .inl (cI, (200, .inl rk))), (a 5, .inl (cI, (200, .inl rt)))] H := hP
  have hD : va_D (Ao a 6) [(a 0, .inr (1, [.ref (a 1), .ref (a 2), .ref (a 3), .int (bI (lg)), .int (nI (bd)), .int (nI (0))])), (a 1, .inl (cI, (200, .inl k))), (a 2, .inl (cI, (200, .inl v))), (a 3, .inr (0, [.ref (a 4), .ref (a 5), .int (nI (0)), .int (nI (now))])), (a 4, .inl (cI, (200, .inl rk))), (a 5, .inl (cI, (200, .inl rt)))] := hD
  exact w_v (PB := fun H => BookAt D cI a lg bd [] N H) ⟨⟨_, _, hP.sub [0, 1, 2] rfl, Rp.nil⟩, [], now, ⟨rk, rt, hP.sub [3, 4, 5] rfl, Rp.nil⟩, Tq.nil hT.1⟩ hS hx hb hr hlocks dX1_empty_12
