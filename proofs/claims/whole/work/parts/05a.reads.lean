/-- whether x is one of the places below n -/
def rch (n : Nat) (x : Int32) : Bool := decide (0 ≤ x ∧ x < nI n)
theorem rch_lo {n : Nat} {x : Int32} (h : x < 0) : rch n x = false := by
  unfold rch
  rw [i_lt] at h
  simp only [decide_eq_false_iff_not, not_and]
  intro h2
  rw [i_le] at h2
  exact absurd h2 (by omega)
theorem rch_hi {n : Nat} {x : Int32} (h : nI n ≤ x) : rch n x = false := by
  unfold rch
  simp only [decide_eq_false_iff_not, not_and]
  intro _ h3
  rw [i_lt] at h3
  rw [i_le] at h
  omega
theorem rch_ok {n : Nat} {x : Int32} (h : ¬ x < 0) (h2 : ¬ nI n ≤ x) : rch n x = true := by
  unfold rch
  rw [i_lt] at h
  rw [i_le] at h2
  simp only [decide_eq_true_eq]
  rw [i_le, i_lt]
  exact ⟨by omega, by omega⟩
theorem rch_in {n j : Nat} (hj : j < n) (hn : n < 2 ^ 31) : rch n (nI j) = true := by
  unfold rch
  simp only [decide_eq_true_eq]
  exact ⟨nI_pos' (by omega), nI_lt hj hn⟩
theorem rch_of {n : Nat} (hn : n < 2 ^ 31) {x : Int32} (h : rch n x = true) : ∃ j, j < n ∧ x = nI j := by
  unfold rch at h
  simp only [decide_eq_true_eq] at h
  refine vp_in_of (vp_in_iff.mpr ?_) hn
  have h1 := h.1
  have h2 := h.2
  rw [i_le] at h1
  rw [i_lt, nI_toInt hn] at h2
  exact ⟨h1, h2⟩
set_option maxHeartbeats 4000000 in
set_option maxRecDepth 100000 in
/-- the place of a key; -1 -/
theorem c_indexOfKey (l : Launch) (D : va_G) (cI : ClassId) (b : Nat → Nat) (R : Bk) (now : Nat) (key : Int32) : Met l yX0_indexOfKey (ws_ yX0_indexOfKey cX0_indexOfKey 3 (some .int)) (rmN 0) (va_Pc [.ref (b 0), .int (key)] (pz D [(cI, .int)] (fun H => ArAt D cI b R now H))) (Pq (some (.int (oI (fx R key))))) 0 0 (fun _ => False) := by
  refine m_start (by decide) (Nat.le_of_ble_eq_true rfl) ?_
  intro p e s m below meth c hx hb hr hG hown hlocks hml hB ls hl
  have hl : lv_has ls 3 [(0, .ref (b 0)), (1, .int (key))] := hl
  obtain ⟨⟨k, v, hP, hRp⟩, hK⟩ := hB
  have hlen := hRp.1
  refine lv_iconst (v := nI 0) hx hb dX0_indexOfKey_0 (by decide) ?_
  refine lv_istore_n (lv' := [(2, .int (nI (0))), (0, .ref (b 0)), (1, .int (key))]) hx hb dX0_indexOfKey_1 rfl hl (by decide) rfl (fun ls hl => ?_)
  suffices KK : ∀ (n i : Nat), R.length < i + n → i ≤ R.length → (∀ j, j < i → kf R j ≠ key) → ∀ ls : Array Slot, lv_has ls 3 [(2, .int (nI (i))), (0, .ref (b 0)), (1, .int (key))] → W p l e (rmN 0) s m [.ref (b 0), .int (key)].toArray below meth c s.heap [] 0 0 (MQ below (Pq (some (.int (oI (fx R key))))) [.ref (b 0), .int (key)].toArray s 0 0 (fun _ => False)) (F0 m 2 ls []) from KK (R.length + 1) 0 (by omega) (by omega) (fun j h => by omega) ls hl
  intro n
  induction n with
  | zero => intro i h1 h2; omega
  | succ n ih =>
    intro i h1 h2 hno ls hl
    refine lv_iload_n hx hb dX0_indexOfKey_2 rfl (lv_at hl 0 rfl) ?_
    refine lv_aload_n hx hb dX0_indexOfKey_3 rfl (lv_at hl 1 rfl) ?_
    refine gf_X0_18 hx hb hG hown hK hP 0 rfl rfl dX0_indexOfKey_4 ?_
    refine x_cmp_ge (tgt := 28) hx hb dX0_indexOfKey_7 (by decide) (by omega) (by omega) (fun c1 => ?_) (fun c1 => ?_)
    · refine lv_iconst (v := (-1)) hx hb dX0_indexOfKey_28 (by decide) ?_
      exact e_i (by rw [fx_no (fun j hj => hno j (by omega))]; rfl) hx hb hr hlocks dX0_indexOfKey_29
    · refine lv_aload_n hx hb dX0_indexOfKey_10 rfl (lv_at hl 1 rfl) ?_
      refine gf_X0_9 hx hb hG hown hK hP 0 rfl rfl dX0_indexOfKey_11 ?_
      refine lv_iload_n hx hb dX0_indexOfKey_14 rfl (lv_at hl 0 rfl) ?_
      refine x_iald hx hb hK hP 1 0 rfl rfl (by omega) (by decide) dX0_indexOfKey_15 ?_
      rw [(hRp.2 (i) (by omega)).1]
      refine lv_iload_n hx hb dX0_indexOfKey_16 rfl (lv_at hl 2 rfl) ?_
      refine lv_icmp_ne (tgt := 22) hx hb dX0_indexOfKey_17 (by decide) (fun c2 => ?_) (fun c2 => ?_)
      · refine x_iinc (k := 0) (lv' := [(2, .int (nI (i + 1))), (0, .ref (b 0)), (1, .int (key))]) hx hb dX0_indexOfKey_22 hl rfl (by decide) rfl (fun ls hl => ?_)
        refine lv_goto (tgt := 2) hx hb dX0_indexOfKey_25 (by decide) ?_
        exact ih (i + 1) (by omega) (by omega) (fun j hj => by rcases Nat.lt_or_ge j i with q | q; exact hno j q; rw [show j = i by omega]; exact c2) ls (lv_sub hl [0, 1, 2] rfl)
      · refine lv_iload_n hx hb dX0_indexOfKey_20 rfl (lv_at hl 0 rfl) ?_
        exact e_i (by rw [fx_is (i := i) (by omega) (by first | exact c2 | exact Decidable.of_not_not c2) hno]; rfl) hx hb hr hlocks dX0_indexOfKey_21
set_option maxHeartbeats 4000000 in
set_option maxRecDepth 100000 in
/-- the place of a key; -1 -/
theorem c_find (l : Launch) (D : va_G) (cI : ClassId) (a : Nat → Nat) (lg : Bool) (bd : Nat) (L : Bk) (key : Int32) : Met l yX1_find (ws_ yX1_find cX1_find 3 (some .int)) (rmN 0) (va_Pc [.ref (a 0), .int (key)] (pz D [(cI, .int)] (fun H => BkAt D cI a lg bd L H))) (Pq (some (.int (oI (fx L key))))) 0 0 (fun _ => False) := by
  refine m_start (by decide) (Nat.le_of_ble_eq_true rfl) ?_
  intro p e s m below meth c hx hb hr hG hown hlocks hml hB ls hl
  have hl : lv_has ls 3 [(0, .ref (a 0)), (1, .int (key))] := hl
  obtain ⟨⟨k, v, hP, hRp⟩, hK⟩ := hB
  have hlen := hRp.1
  refine lv_iconst (v := nI 0) hx hb dX1_find_0 (by decide) ?_
  refine lv_istore_n (lv' := [(2, .int (nI (0))), (0, .ref (a 0)), (1, .int (key))]) hx hb dX1_find_1 rfl hl (by decide) rfl (fun ls hl => ?_)
  suffices KK : ∀ (n i : Nat), L.length < i + n → i ≤ L.length → (∀ j, j < i → kf L j ≠ key) → ∀ ls : Array Slot, lv_has ls 3 [(2, .int (nI (i))), (0, .ref (a 0)), (1, .int (key))] → W p l e (rmN 0) s m [.ref (a 0), .int (key)].toArray below meth c s.heap [] 0 0 (MQ below (Pq (some (.int (oI (fx L key))))) [.ref (a 0), .int (key)].toArray s 0 0 (fun _ => False)) (F0 m 2 ls []) from KK (L.length + 1) 0 (by omega) (by omega) (fun j h => by omega) ls hl
  intro n
  induction n with
  | zero => intro i h1 h2; omega
  | succ n ih =>
    intro i h1 h2 hno ls hl
    refine lv_iload_n hx hb dX1_find_2 rfl (lv_at hl 0 rfl) ?_
    refine lv_aload_n hx hb dX1_find_3 rfl (lv_at hl 1 rfl) ?_
    refine gf_X1_33 hx hb hG hown hK hP 0 rfl rfl dX1_find_4 ?_
    refine x_cmp_ge (tgt := 28) hx hb dX1_find_7 (by decide) (by omega) (by omega) (fun c1 => ?_) (fun c1 => ?_)
    · refine lv_iconst (v := (-1)) hx hb dX1_find_28 (by decide) ?_
      exact e_i (by rw [fx_no (fun j hj => hno j (by omega))]; rfl) hx hb hr hlocks dX1_find_29
    · refine lv_aload_n hx hb dX1_find_10 rfl (lv_at hl 1 rfl) ?_
      refine gf_X1_9 hx hb hG hown hK hP 0 rfl rfl dX1_find_11 ?_
      refine lv_iload_n hx hb dX1_find_14 rfl (lv_at hl 0 rfl) ?_
      refine x_iald hx hb hK hP 1 0 rfl rfl (by omega) (by decide) dX1_find_15 ?_
      rw [(hRp.2 (i) (by omega)).1]
      refine lv_iload_n hx hb dX1_find_16 rfl (lv_at hl 2 rfl) ?_
      refine lv_icmp_ne (tgt := 22) hx hb dX1_find_17 (by decide) (fun c2 => ?_) (fun c2 => ?_)
      · refine x_iinc (k := 0) (lv' := [(2, .int (nI (i + 1))), (0, .ref (a 0)), (1, .int (key))]) hx hb dX1_find_22 hl rfl (by decide) rfl (fun ls hl => ?_)
        refine lv_goto (tgt := 2) hx hb dX1_find_25 (by decide) ?_
        exact ih (i + 1) (by omega) (by omega) (fun j hj => by rcases Nat.lt_or_ge j i with q | q; exact hno j q; rw [show j = i by omega]; exact c2) ls (lv_sub hl [0, 1, 2] rfl)
      · refine lv_iload_n hx hb dX1_find_20 rfl (lv_at hl 0 rfl) ?_
        exact e_i (by rw [fx_is (i := i) (by omega) (by first | exact c2 | exact Decidable.of_not_not c2) hno]; rfl) hx hb hr hlocks dX1_find_21
set_option maxHeartbeats 4000000 in
set_option maxRecDepth 100000 in
/-- whether there is such a place -/
theorem c_reaches (l : Launch) (D : va_G) (a : Nat → Nat) (lg : Bool) (bd : Nat) (n : Nat) (x : Int32) : Met l yX1_reaches (ws_ yX1_reaches cX1_reaches 2 (some .boolean)) (rmN 0) (va_Pc [.ref (a 0), .int (x)] (pz D [] (fun H => va_P D vwCl [(a 0, .inr (1, [.ref (a 1), .ref (a 2), .ref (a 3), .int (bI (lg)), .int (nI (bd)), .int (nI (n))]))] H))) (Pq (some (.int (bI (rch n x))))) 0 0 (fun _ => False) := by
  refine m_start (by decide) (Nat.le_of_ble_eq_true rfl) ?_
  intro p e s m below meth c hx hb hr hG hown hlocks hml hB ls hl
  have hl : lv_has ls 2 [(0, .ref (a 0)), (1, .int (x))] := hl
  obtain ⟨hP, hK⟩ := hB
  refine lv_iload_n hx hb dX1_reaches_0 rfl (lv_at hl 1 rfl) ?_
  refine lv_if_lt (tgt := 16) hx hb dX1_reaches_1 (by decide) (fun c1 => ?_) (fun c1 => ?_)
  · refine lv_iconst (v := nI 0) hx hb dX1_reaches_16 (by decide) ?_
    exact e_z (by rw [rch_lo c1]; rfl) hx hb hr hlocks dX1_reaches_17
  · refine lv_iload_n hx hb dX1_reaches_4 rfl (lv_at hl 1 rfl) ?_
    refine lv_aload_n hx hb dX1_reaches_5 rfl (lv_at hl 0 rfl) ?_
    refine gf_X1_33 hx hb hG hown hK hP 0 rfl rfl dX1_reaches_6 ?_
    refine lv_icmp_ge (tgt := 16) hx hb dX1_reaches_9 (by decide) (fun c2 => ?_) (fun c2 => ?_)
    · refine lv_iconst (v := nI 0) hx hb dX1_reaches_16 (by decide) ?_
      exact e_z (by rw [rch_hi c2]; rfl) hx hb hr hlocks dX1_reaches_17
    · refine lv_iconst (v := nI 1) hx hb dX1_reaches_12 (by decide) ?_
      refine lv_goto (tgt := 17) hx hb dX1_reaches_13 (by decide) ?_
      exact e_z (by rw [rch_ok c1 c2]; rfl) hx hb hr hlocks dX1_reaches_17
set_option maxHeartbeats 4000000 in
set_option maxRecDepth 100000 in
theorem c_keyOn (l : Launch) (D : va_G) (cI : ClassId) (a : Nat → Nat) (lg : Bool) (bd : Nat) (L : Bk) (j : Nat) (hj : j < L.length) : Met l yX1_keyOn (ws_ yX1_keyOn cX1_keyOn 2 (some .int)) (rmN 1) (va_Pc [.ref (a 0), .int (nI (j))] (pz D [(cI, .int)] (fun H => BkAt D cI a lg bd L H))) (Pq (some (.int (kf L j)))) 0 0 (fun _ => False) := by
  refine m_start (by decide) (Nat.le_of_ble_eq_true rfl) ?_
  intro p e s m below meth c hx hb hr hG hown hlocks hml hB ls hl
  have hl : lv_has ls 2 [(0, .ref (a 0)), (1, .int (nI (j)))] := hl
  obtain ⟨⟨k, v, hP, hRp⟩, hK⟩ := hB
  have hlen := hRp.1
  refine lv_aload_n hx hb dX1_keyOn_0 rfl (lv_at hl 0 rfl) ?_
  refine lv_iload_n hx hb dX1_keyOn_1 rfl (lv_at hl 1 rfl) ?_
  refine k1_V hx hb hml hown hG cs_X1_36 (c_reaches l D a lg bd L.length (nI (j))) (by decide) (pzV (hK.sub (tys' := []) [] rfl) rfl ⟨_, hP.sub (ws' := [_]) [0] rfl⟩ (hP.sub (ws' := [_]) [0] rfl)) rfl hl.1 rfl (Nat.le_of_ble_eq_true rfl) dX1_keyOn_2 ⟨Nat.zero_le _, Nat.zero_le _⟩ rfl ?_
  refine x_ifb_eq (tgt := 17) hx hb dX1_keyOn_5 (by decide) (fun c1 => ?_) (fun c1 => ?_)
  · exact absurd (rch_in hj (by omega)) (by rw [c1]; decide)
  · refine lv_aload_n hx hb dX1_keyOn_8 rfl (lv_at hl 0 rfl) ?_
    refine gf_X1_9 hx hb hG hown hK hP 0 rfl rfl dX1_keyOn_9 ?_
    refine lv_iload_n hx hb dX1_keyOn_12 rfl (lv_at hl 1 rfl) ?_
    refine x_iald hx hb hK hP 1 0 rfl rfl (by omega) (by decide) dX1_keyOn_13 ?_
    rw [(hRp.2 (j) (by omega)).1]
    refine lv_goto (tgt := 18) hx hb dX1_keyOn_14 (by decide) ?_
    exact e_i rfl hx hb hr hlocks dX1_keyOn_18
set_option maxHeartbeats 4000000 in
set_option maxRecDepth 100000 in
theorem c_valueOn (l : Launch) (D : va_G) (cI : ClassId) (a : Nat → Nat) (lg : Bool) (bd : Nat) (L : Bk) (j : Nat) (hj : j < L.length) : Met l yX1_valueOn (ws_ yX1_valueOn cX1_valueOn 2 (some .int)) (rmN 1) (va_Pc [.ref (a 0), .int (nI (j))] (pz D [(cI, .int)] (fun H => BkAt D cI a lg bd L H))) (Pq (some (.int (vf L j)))) 0 0 (fun _ => False) := by
  refine m_start (by decide) (Nat.le_of_ble_eq_true rfl) ?_
  intro p e s m below meth c hx hb hr hG hown hlocks hml hB ls hl
  have hl : lv_has ls 2 [(0, .ref (a 0)), (1, .int (nI (j)))] := hl
  obtain ⟨⟨k, v, hP, hRp⟩, hK⟩ := hB
  have hlen := hRp.1
  refine lv_aload_n hx hb dX1_valueOn_0 rfl (lv_at hl 0 rfl) ?_
  refine lv_iload_n hx hb dX1_valueOn_1 rfl (lv_at hl 1 rfl) ?_
  refine k1_V hx hb hml hown hG cs_X1_36 (c_reaches l D a lg bd L.length (nI (j))) (by decide) (pzV (hK.sub (tys' := []) [] rfl) rfl ⟨_, hP.sub (ws' := [_]) [0] rfl⟩ (hP.sub (ws' := [_]) [0] rfl)) rfl hl.1 rfl (Nat.le_of_ble_eq_true rfl) dX1_valueOn_2 ⟨Nat.zero_le _, Nat.zero_le _⟩ rfl ?_
  refine x_ifb_eq (tgt := 17) hx hb dX1_valueOn_5 (by decide) (fun c1 => ?_) (fun c1 => ?_)
  · exact absurd (rch_in hj (by omega)) (by rw [c1]; decide)
  · refine lv_aload_n hx hb dX1_valueOn_8 rfl (lv_at hl 0 rfl) ?_
    refine gf_X1_15 hx hb hG hown hK hP 0 rfl rfl dX1_valueOn_9 ?_
    refine lv_iload_n hx hb dX1_valueOn_12 rfl (lv_at hl 1 rfl) ?_
    refine x_iald hx hb hK hP 2 0 rfl rfl (by omega) (by decide) dX1_valueOn_13 ?_
    rw [(hRp.2 (j) (by omega)).2]
    refine lv_goto (tgt := 18) hx hb dX1_valueOn_14 (by decide) ?_
    exact e_i rfl hx hb hr hlocks dX1_valueOn_18
def hasV (L : Bk) (x : Int32) : Bool := L.any (fun q => decide (q.2 = x))
theorem hasV_no {L : Bk} {x : Int32} (h : ∀ j, j < L.length → vf L j ≠ x) : hasV L x = false := by
  unfold hasV
  rw [List.any_eq_false]
  intro q hq
  obtain ⟨j, hj, -, e2⟩ := mem_kv hq
  have := h j hj
  rw [e2] at this
  simpa using this
theorem hasV_yes {L : Bk} {x : Int32} {i : Nat} (hi : i < L.length) (h : vf L i = x) : hasV L x = true := by
  unfold hasV
  rw [List.any_eq_true]
  exact ⟨_, kv_mem hi, by simpa using h⟩
def hsL (L : Bk) : Nat → Int32
  | 0 => 0
  | n + 1 => hsL L n + (kf L n ^^^ vf L n)
set_option maxHeartbeats 4000000 in
set_option maxRecDepth 100000 in
theorem c_holdsValue (l : Launch) (D : va_G) (cI : ClassId) (a : Nat → Nat) (lg : Bool) (bd : Nat) (L : Bk) (x : Int32) : Met l yX1_holdsValue (ws_ yX1_holdsValue cX1_holdsValue 3 (some .boolean)) (rmN 0) (va_Pc [.ref (a 0), .int (x)] (pz D [(cI, .int)] (fun H => BkAt D cI a lg bd L H))) (Pq (some (.int (bI (hasV L x))))) 0 0 (fun _ => False) := by
  refine m_start (by decide) (Nat.le_of_ble_eq_true rfl) ?_
  intro p e s m below meth c hx hb hr hG hown hlocks hml hB ls hl
  have hl : lv_has ls 3 [(0, .ref (a 0)), (1, .int (x))] := hl
  obtain ⟨⟨k, v, hP, hRp⟩, hK⟩ := hB
  have hlen := hRp.1
  refine lv_iconst (v := nI 0) hx hb dX1_holdsValue_0 (by decide) ?_
  refine lv_istore_n (lv' := [(2, .int (nI (0))), (0, .ref (a 0)), (1, .int (x))]) hx hb dX1_holdsValue_1 rfl hl (by decide) rfl (fun ls hl => ?_)
  suffices KK : ∀ (n i : Nat), L.length < i + n → i ≤ L.length → (∀ j, j < i → vf L j ≠ x) → ∀ ls : Array Slot, lv_has ls 3 [(2, .int (nI (i))), (0, .ref (a 0)), (1, .int (x))] → W p l e (rmN 0) s m [.ref (a 0), .int (x)].toArray below meth c s.heap [] 0 0 (MQ below (Pq (some (.int (bI (hasV L x))))) [.ref (a 0), .int (x)].toArray s 0 0 (fun _ => False)) (F0 m 2 ls []) from KK (L.length + 1) 0 (by omega) (by omega) (fun j h => by omega) ls hl
  intro n
  induction n with
  | zero => intro i h1 h2; omega
  | succ n ih =>
    intro i h1 h2 hno ls hl
    refine lv_iload_n hx hb dX1_holdsValue_2 rfl (lv_at hl 0 rfl) ?_
    refine lv_aload_n hx hb dX1_holdsValue_3 rfl (lv_at hl 1 rfl) ?_
    refine gf_X1_33 hx hb hG hown hK hP 0 rfl rfl dX1_holdsValue_4 ?_
    refine x_cmp_ge (tgt := 28) hx hb dX1_holdsValue_7 (by decide) (by omega) (by omega) (fun c1 => ?_) (fun c1 => ?_)
    · refine lv_iconst (v := nI 0) hx hb dX1_holdsValue_28 (by decide) ?_
      exact e_z (by rw [hasV_no (fun j hj => hno j (by omega))]; rfl) hx hb hr hlocks dX1_holdsValue_29
    · refine lv_aload_n hx hb dX1_holdsValue_10 rfl (lv_at hl 1 rfl) ?_
      refine gf_X1_15 hx hb hG hown hK hP 0 rfl rfl dX1_holdsValue_11 ?_
      refine lv_iload_n hx hb dX1_holdsValue_14 rfl (lv_at hl 0 rfl) ?_
      refine x_iald hx hb hK hP 2 0 rfl rfl (by omega) (by decide) dX1_holdsValue_15 ?_
      rw [(hRp.2 (i) (by omega)).2]
      refine lv_iload_n hx hb dX1_holdsValue_16 rfl (lv_at hl 2 rfl) ?_
      refine lv_icmp_ne (tgt := 22) hx hb dX1_holdsValue_17 (by decide) (fun c2 => ?_) (fun c2 => ?_)
      · refine x_iinc (k := 0) (lv' := [(2, .int (nI (i + 1))), (0, .ref (a 0)), (1, .int (x))]) hx hb dX1_holdsValue_22 hl rfl (by decide) rfl (fun ls hl => ?_)
        refine lv_goto (tgt := 2) hx hb dX1_holdsValue_25 (by decide) ?_
        exact ih (i + 1) (by omega) (by omega) (fun j hj => by rcases Nat.lt_or_ge j i with q | q; exact hno j q; rw [show j = i by omega]; exact c2) ls (lv_sub hl [0, 1, 2] rfl)
      · refine lv_iconst (v := nI 1) hx hb dX1_holdsValue_20 (by decide) ?_
        exact e_z (by rw [hasV_yes (i := i) (by omega) (by first | exact c2 | exact Decidable.of_not_not c2)]; rfl) hx hb hr hlocks dX1_holdsValue_21
set_option maxHeartbeats 4000000 in
set_option maxRecDepth 100000 in
theorem c_mixed (l : Launch) (D : va_G) (cI : ClassId) (a : Nat → Nat) (lg : Bool) (bd : Nat) (L : Bk) : Met l yX1_mixed (ws_ yX1_mixed cX1_mixed 3 (some .int)) (rmN 0) (va_Pc [.ref (a 0)] (pz D [(cI, .int)] (fun H => BkAt D cI a lg bd L H))) (Pq (some (.int (hsL L L.length)))) 0 0 (fun _ => False) := by
  refine m_start (by decide) (Nat.le_of_ble_eq_true rfl) ?_
  intro p e s m below meth c hx hb hr hG hown hlocks hml hB ls hl
  have hl : lv_has ls 3 [(0, .ref (a 0))] := hl
  obtain ⟨⟨k, v, hP, hRp⟩, hK⟩ := hB
  have hlen := hRp.1
  refine lv_iconst (v := nI 0) hx hb dX1_mixed_0 (by decide) ?_
  refine lv_istore_n (lv' := [(1, .int (nI (0))), (0, .ref (a 0))]) hx hb dX1_mixed_1 rfl hl (by decide) rfl (fun ls hl => ?_)
  refine lv_iconst (v := nI 0) hx hb dX1_mixed_2 (by decide) ?_
  refine lv_istore_n (lv' := [(2, .int (nI (0))), (1, .int (nI (0))), (0, .ref (a 0))]) hx hb dX1_mixed_3 rfl hl (by decide) rfl (fun ls hl => ?_)
  suffices KK : ∀ (n i : Nat), L.length < i + n → i ≤ L.length → ∀ ls : Array Slot, lv_has ls 3 [(2, .int (nI (i))), (1, .int (hsL L i)), (0, .ref (a 0))] → W p l e (rmN 0) s m [.ref (a 0)].toArray below meth c s.heap [] 0 0 (MQ below (Pq (some (.int (hsL L L.length)))) [.ref (a 0)].toArray s 0 0 (fun _ => False)) (F0 m 4 ls []) from KK (L.length + 1) 0 (by omega) (by omega) ls hl
  intro n
  induction n with
  | zero => intro i h1 h2; omega
  | succ n ih =>
    intro i h1 h2 ls hl
    refine lv_iload_n hx hb dX1_mixed_4 rfl (lv_at hl 0 rfl) ?_
    refine lv_aload_n hx hb dX1_mixed_5 rfl (lv_at hl 2 rfl) ?_
    refine gf_X1_33 hx hb hG hown hK hP 0 rfl rfl dX1_mixed_6 ?_
    refine x_cmp_ge (tgt := 34) hx hb dX1_mixed_9 (by decide) (by omega) (by omega) (fun c1 => ?_) (fun c1 => ?_)
    · refine lv_iload_n hx hb dX1_mixed_34 rfl (lv_at hl 1 rfl) ?_
      exact e_i (by rw [show i = L.length by omega]) hx hb hr hlocks dX1_mixed_35
    · refine lv_iload_n hx hb dX1_mixed_12 rfl (lv_at hl 1 rfl) ?_
      refine lv_aload_n hx hb dX1_mixed_13 rfl (lv_at hl 2 rfl) ?_
      refine gf_X1_9 hx hb hG hown hK hP 0 rfl rfl dX1_mixed_14 ?_
      refine lv_iload_n hx hb dX1_mixed_17 rfl (lv_at hl 0 rfl) ?_
      refine x_iald hx hb hK hP 1 0 rfl rfl (by omega) (by decide) dX1_mixed_18 ?_
      rw [(hRp.2 (i) (by omega)).1]
      refine lv_aload_n hx hb dX1_mixed_19 rfl (lv_at hl 2 rfl) ?_
      refine gf_X1_15 hx hb hG hown hK hP 0 rfl rfl dX1_mixed_20 ?_
      refine lv_iload_n hx hb dX1_mixed_23 rfl (lv_at hl 0 rfl) ?_
      refine x_iald hx hb hK hP 2 0 rfl rfl (by omega) (by decide) dX1_mixed_24 ?_
      rw [(hRp.2 (i) (by omega)).2]
      refine x_ixor (v := (kf L (i)) ^^^ (vf L (i))) hx hb dX1_mixed_25 rfl ?_
      refine x_iadd (v := (hsL L i) + ((kf L (i)) ^^^ (vf L (i)))) hx hb dX1_mixed_26 rfl ?_
      refine lv_istore_n (lv' := [(1, .int ((hsL L i) + ((kf L (i)) ^^^ (vf L (i))))), (2, .int (nI (i))), (0, .ref (a 0))]) hx hb dX1_mixed_27 rfl hl (by decide) rfl (fun ls hl => ?_)
      refine x_iinc (k := 1) (lv' := [(2, .int (nI (i + 1))), (1, .int ((hsL L i) + ((kf L (i)) ^^^ (vf L (i))))), (0, .ref (a 0))]) hx hb dX1_mixed_28 hl rfl (by decide) rfl (fun ls hl => ?_)
      refine lv_goto (tgt := 4) hx hb dX1_mixed_31 (by decide) ?_
      exact ih (i + 1) (by omega) (by omega) ls (lv_sub hl [0, 1, 2] rfl)
