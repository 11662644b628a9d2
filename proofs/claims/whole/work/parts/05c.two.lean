/-- the pairs of M are put into L, n of them -/
def stF (lg : Bool) (bd : Nat) (L M : Bk) : Nat → Bk
  | 0 => L
  | n + 1 => stq lg bd (stF lg bd L M n) (kf M n) (vf M n)
/-- how many of the first n keys of L are not in M -/
def cms (L M : Bk) : Nat → Nat
  | 0 => 0
  | n + 1 => cms L M n + (if fx M (kf L n) = none then 1 else 0)
theorem cms_le (L M : Bk) : ∀ n, cms L M n ≤ n
  | 0 => Nat.le_refl 0
  | n + 1 => by
    have := cms_le L M n
    rw [cms]
    split <;> omega
/-- the pair at n of L is in M -/
def hasP (L M : Bk) (n : Nat) : Bool := match fx M (kf L n) with | none => false | some j => decide (vf M j = vf L n)
theorem hasP_no {L M : Bk} {n : Nat} (h : fx M (kf L n) = none) : hasP L M n = false := by unfold hasP; rw [h]
theorem hasP_at {L M : Bk} {n j : Nat} (h : fx M (kf L n) = some j) : hasP L M n = decide (vf M j = vf L n) := by unfold hasP; rw [h]
def allB (f : Nat → Bool) : Nat → Bool
  | 0 => true
  | n + 1 => allB f n && f n
theorem allB_no {f : Nat → Bool} {i : Nat} (h : f i = false) : ∀ {n : Nat}, i < n → allB f n = false
  | 0, hi => absurd hi (Nat.not_lt_zero i)
  | n + 1, hi => by
    rw [allB]
    rcases Nat.lt_or_ge i n with q | q
    · rw [allB_no h q]; rfl
    · rw [show n = i by omega, h, Bool.and_false]
/-- equal, whatever the order; equal in the same order -/
def eqB (L M : Bk) : Bool := decide (L.length = M.length) && allB (hasP L M) L.length
def rowP (L M : Bk) (n : Nat) : Bool := decide (kf L n = kf M n) && decide (vf L n = vf M n)
def alB (L M : Bk) : Bool := decide (L.length = M.length) && allB (rowP L M) L.length
set_option maxHeartbeats 4000000 in
set_option maxRecDepth 100000 in
theorem c_countMissingIn (l : Launch) (D : va_G) (cI : ClassId) (a a2 : Nat → Nat) (lg : Bool) (bd : Nat) (L : Bk) (lg2 : Bool) (bd2 : Nat) (M : Bk) : Met l yX1_countMissingIn (ws_ yX1_countMissingIn cX1_countMissingIn 4 (some .int)) (rmN 1) (va_Pc [.ref (a 0), .ref (a2 0)] (pz D [(cI, .int)] (fun H => BkAt D cI a lg bd L H ∧ BkAt D cI a2 lg2 bd2 M H))) (Pq (some (.int (nI (cms L M L.length))))) 0 0 (fun _ => False) := by
  refine m_start (by decide) (Nat.le_of_ble_eq_true rfl) ?_
  intro p e s m below meth c hx hb hr hG hown hlocks hml hB ls hl
  have hl : lv_has ls 4 [(0, .ref (a 0)), (1, .ref (a2 0))] := hl
  obtain ⟨⟨hB1, hB2⟩, hK⟩ := hB
  obtain ⟨k, v, hP, hRp⟩ := id hB1
  have hlen := hRp.1
  have hlen2 := hB2.len
  refine lv_iconst (v := nI 0) hx hb dX1_countMissingIn_0 (by decide) ?_
  refine lv_istore_n (lv' := [(2, .int (nI (0))), (0, .ref (a 0)), (1, .ref (a2 0))]) hx hb dX1_countMissingIn_1 rfl hl (by decide) rfl (fun ls hl => ?_)
  refine lv_iconst (v := nI 0) hx hb dX1_countMissingIn_2 (by decide) ?_
  refine lv_istore_n (lv' := [(3, .int (nI (0))), (2, .int (nI (0))), (0, .ref (a 0)), (1, .ref (a2 0))]) hx hb dX1_countMissingIn_3 rfl hl (by decide) rfl (fun ls hl => ?_)
  suffices KK : ∀ (n i : Nat), L.length < i + n → i ≤ L.length → ∀ ls : Array Slot, lv_has ls 4 [(3, .int (nI (i))), (2, .int (nI (cms L M i))), (0, .ref (a 0)), (1, .ref (a2 0))] → W p l e (rmN 1) s m [.ref (a 0), .ref (a2 0)].toArray below meth c s.heap [] 0 0 (MQ below (Pq (some (.int (nI (cms L M L.length))))) [.ref (a 0), .ref (a2 0)].toArray s 0 0 (fun _ => False)) (F0 m 4 ls []) from KK (L.length + 1) 0 (by omega) (by omega) ls hl
  intro n
  induction n with
  | zero => intro i h1 h2; omega
  | succ n ih =>
    intro i h1 h2 ls hl
    refine lv_iload_n hx hb dX1_countMissingIn_4 rfl (lv_at hl 0 rfl) ?_
    refine lv_aload_n hx hb dX1_countMissingIn_5 rfl (lv_at hl 2 rfl) ?_
    refine gf_X1_33 hx hb hG hown hK hP 0 rfl rfl dX1_countMissingIn_6 ?_
    refine x_cmp_ge (tgt := 35) hx hb dX1_countMissingIn_9 (by decide) (by omega) (by omega) (fun c1 => ?_) (fun c1 => ?_)
    · refine lv_iload_n hx hb dX1_countMissingIn_35 rfl (lv_at hl 1 rfl) ?_
      exact e_i (by rw [show i = L.length by omega]) hx hb hr hlocks dX1_countMissingIn_36
    · cases hf : fx M (kf L i) with
      | none =>
        refine lv_aload_n hx hb dX1_countMissingIn_12 rfl (lv_at hl 3 rfl) ?_
        refine lv_aload_n hx hb dX1_countMissingIn_13 rfl (lv_at hl 2 rfl) ?_
        refine gf_X1_9 hx hb hG hown hK hP 0 rfl rfl dX1_countMissingIn_14 ?_
        refine lv_iload_n hx hb dX1_countMissingIn_17 rfl (lv_at hl 0 rfl) ?_
        refine x_iald hx hb hK hP 1 0 rfl rfl (by omega) (by decide) dX1_countMissingIn_18 ?_
        rw [(hRp.2 (i) (by omega)).1]
        refine k1_V hx hb hml hown hG cs_X1_47 (c_find_no l D cI a2 lg2 bd2 M (kf L (i)) hf) (by decide) (pzV hK rfl hB2.rc hB2) rfl hl.1 rfl (Nat.le_of_ble_eq_true rfl) dX1_countMissingIn_19 ⟨Nat.zero_le _, Nat.zero_le _⟩ rfl ?_
        refine lv_iconst (v := (-1)) hx hb dX1_countMissingIn_22 (by decide) ?_
        refine lv_icmp_ne (tgt := 29) hx hb dX1_countMissingIn_23 (by decide) (fun c2 => ?_) (fun c2 => ?_)
        · exact absurd rfl c2
        · refine x_iinc (k := 1) (lv' := [(2, .int (nI ((cms L M i) + 1))), (3, .int (nI (i))), (0, .ref (a 0)), (1, .ref (a2 0))]) hx hb dX1_countMissingIn_26 hl rfl (by decide) rfl (fun ls hl => ?_)
          refine x_iinc (k := 1) (lv' := [(3, .int (nI (i + 1))), (2, .int (nI ((cms L M i) + 1))), (0, .ref (a 0)), (1, .ref (a2 0))]) hx hb dX1_countMissingIn_29 hl rfl (by decide) rfl (fun ls hl => ?_)
          refine lv_goto (tgt := 4) hx hb dX1_countMissingIn_32 (by decide) ?_
          have e1 : cms L M (i + 1) = cms L M i + 1 := by rw [cms, hf]; rfl
          exact ih (i + 1) (by omega) (by omega) ls (by rw [e1]; exact (lv_sub hl [0, 1, 2, 3] rfl))
      | some j =>
        have hj := (fx_some hf).1
        refine lv_aload_n hx hb dX1_countMissingIn_12 rfl (lv_at hl 3 rfl) ?_
        refine lv_aload_n hx hb dX1_countMissingIn_13 rfl (lv_at hl 2 rfl) ?_
        refine gf_X1_9 hx hb hG hown hK hP 0 rfl rfl dX1_countMissingIn_14 ?_
        refine lv_iload_n hx hb dX1_countMissingIn_17 rfl (lv_at hl 0 rfl) ?_
        refine x_iald hx hb hK hP 1 0 rfl rfl (by omega) (by decide) dX1_countMissingIn_18 ?_
        rw [(hRp.2 (i) (by omega)).1]
        refine k1_V hx hb hml hown hG cs_X1_47 (c_find_at l D cI a2 lg2 bd2 M (kf L (i)) hf) (by decide) (pzV hK rfl hB2.rc hB2) rfl hl.1 rfl (Nat.le_of_ble_eq_true rfl) dX1_countMissingIn_19 ⟨Nat.zero_le _, Nat.zero_le _⟩ rfl ?_
        refine lv_iconst (v := (-1)) hx hb dX1_countMissingIn_22 (by decide) ?_
        refine lv_icmp_ne (tgt := 29) hx hb dX1_countMissingIn_23 (by decide) (fun c2 => ?_) (fun c2 => ?_)
        · refine x_iinc (k := 0) (lv' := [(3, .int (nI (i + 1))), (2, .int (nI (cms L M i))), (0, .ref (a 0)), (1, .ref (a2 0))]) hx hb dX1_countMissingIn_29 hl rfl (by decide) rfl (fun ls hl => ?_)
          refine lv_goto (tgt := 4) hx hb dX1_countMissingIn_32 (by decide) ?_
          have e1 : cms L M (i + 1) = cms L M i := by rw [cms, hf]; rfl
          exact ih (i + 1) (by omega) (by omega) ls (by rw [e1]; exact (lv_sub hl [0, 1, 2, 3] rfl))
        · exact absurd (by first | exact c2 | exact Decidable.of_not_not c2) (m1_ne j (by omega))
set_option maxHeartbeats 4000000 in
set_option maxRecDepth 100000 in
theorem c_hasPairsOf (l : Launch) (D : va_G) (cI : ClassId) (a a2 : Nat → Nat) (lg : Bool) (bd : Nat) (L : Bk) (lg2 : Bool) (bd2 : Nat) (M : Bk) : Met l yX1_hasPairsOf (ws_ yX1_hasPairsOf cX1_hasPairsOf 4 (some .boolean)) (rmN 2) (va_Pc [.ref (a 0), .ref (a2 0)] (pz D [(cI, .int)] (fun H => BkAt D cI a lg bd L H ∧ BkAt D cI a2 lg2 bd2 M H))) (Pq (some (.int (bI (eqB L M))))) 0 0 (fun _ => False) := by
  refine m_start (by decide) (Nat.le_of_ble_eq_true rfl) ?_
  intro p e s m below meth c hx hb hr hG hown hlocks hml hB ls hl
  have hl : lv_has ls 4 [(0, .ref (a 0)), (1, .ref (a2 0))] := hl
  obtain ⟨⟨hB1, hB2⟩, hK⟩ := hB
  obtain ⟨k, v, hP, hRp⟩ := id hB1
  have hlen := hRp.1
  have hlen2 := hB2.len
  refine lv_aload_n hx hb dX1_hasPairsOf_0 rfl (lv_at hl 0 rfl) ?_
  refine gf_X1_33 hx hb hG hown hK hP 0 rfl rfl dX1_hasPairsOf_1 ?_
  refine lv_aload_n hx hb dX1_hasPairsOf_4 rfl (lv_at hl 1 rfl) ?_
  refine gf_X1_33 hx hb hG hown hK hB2.obj 0 rfl rfl dX1_hasPairsOf_5 ?_
  refine x_cmp_eq (tgt := 13) hx hb dX1_hasPairsOf_8 (by decide) (by omega) (by omega) (fun c0 => ?_) (fun c0 => ?_)
  · refine lv_iconst (v := nI 0) hx hb dX1_hasPairsOf_13 (by decide) ?_
    refine lv_istore_n (lv' := [(2, .int (nI (0))), (0, .ref (a 0)), (1, .ref (a2 0))]) hx hb dX1_hasPairsOf_14 rfl hl (by decide) rfl (fun ls hl => ?_)
    suffices KK : ∀ (n i : Nat), L.length < i + n → i ≤ L.length → allB (hasP L M) i = true → ∀ ls : Array Slot, lv_has ls 4 [(2, .int (nI (i))), (0, .ref (a 0)), (1, .ref (a2 0))] → W p l e (rmN 2) s m [.ref (a 0), .ref (a2 0)].toArray below meth c s.heap [] 0 0 (MQ below (Pq (some (.int (bI (eqB L M))))) [.ref (a 0), .ref (a2 0)].toArray s 0 0 (fun _ => False)) (F0 m 15 ls []) from KK (L.length + 1) 0 (by omega) (by omega) rfl ls hl
    intro n
    induction n with
    | zero => intro i h1 h2; omega
    | succ n ih =>
      intro i h1 h2 h3 ls hl
      refine lv_iload_n hx hb dX1_hasPairsOf_15 rfl (lv_at hl 0 rfl) ?_
      refine lv_aload_n hx hb dX1_hasPairsOf_16 rfl (lv_at hl 1 rfl) ?_
      refine gf_X1_33 hx hb hG hown hK hP 0 rfl rfl dX1_hasPairsOf_17 ?_
      refine x_cmp_ge (tgt := 61) hx hb dX1_hasPairsOf_20 (by decide) (by omega) (by omega) (fun c1 => ?_) (fun c1 => ?_)
      · refine lv_iconst (v := nI 1) hx hb dX1_hasPairsOf_61 (by decide) ?_
        exact e_z (by have ei : i = L.length := (by omega); unfold eqB; rw [decide_eq_true c0, ← ei, h3]; rfl) hx hb hr hlocks dX1_hasPairsOf_62
      · cases hf : fx M (kf L i) with
        | none =>
          refine lv_aload_n hx hb dX1_hasPairsOf_23 rfl (lv_at hl 2 rfl) ?_
          refine lv_aload_n hx hb dX1_hasPairsOf_24 rfl (lv_at hl 1 rfl) ?_
          refine gf_X1_9 hx hb hG hown hK hP 0 rfl rfl dX1_hasPairsOf_25 ?_
          refine lv_iload_n hx hb dX1_hasPairsOf_28 rfl (lv_at hl 0 rfl) ?_
          refine x_iald hx hb hK hP 1 0 rfl rfl (by omega) (by decide) dX1_hasPairsOf_29 ?_
          rw [(hRp.2 (i) (by omega)).1]
          refine k1_V hx hb hml hown hG cs_X1_47 (c_find_no l D cI a2 lg2 bd2 M (kf L (i)) hf) (by decide) (pzV hK rfl hB2.rc hB2) rfl hl.1 rfl (Nat.le_of_ble_eq_true rfl) dX1_hasPairsOf_30 ⟨Nat.zero_le _, Nat.zero_le _⟩ rfl ?_
          refine lv_istore_n (lv' := [(3, .int ((-1))), (2, .int (nI (i))), (0, .ref (a 0)), (1, .ref (a2 0))]) hx hb dX1_hasPairsOf_33 rfl hl (by decide) rfl (fun ls hl => ?_)
          refine lv_iload_n hx hb dX1_hasPairsOf_34 rfl (lv_at hl 0 rfl) ?_
          refine lv_iconst (v := (-1)) hx hb dX1_hasPairsOf_35 (by decide) ?_
          refine lv_icmp_eq (tgt := 53) hx hb dX1_hasPairsOf_36 (by decide) (fun c2 => ?_) (fun c2 => ?_)
          · refine lv_iconst (v := nI 0) hx hb dX1_hasPairsOf_53 (by decide) ?_
            exact e_z (by unfold eqB; rw [allB_no (hasP_no hf) (by omega), Bool.and_false]; rfl) hx hb hr hlocks dX1_hasPairsOf_54
          · exact absurd rfl c2
        | some j =>
          have hj := (fx_some hf).1
          refine lv_aload_n hx hb dX1_hasPairsOf_23 rfl (lv_at hl 2 rfl) ?_
          refine lv_aload_n hx hb dX1_hasPairsOf_24 rfl (lv_at hl 1 rfl) ?_
          refine gf_X1_9 hx hb hG hown hK hP 0 rfl rfl dX1_hasPairsOf_25 ?_
          refine lv_iload_n hx hb dX1_hasPairsOf_28 rfl (lv_at hl 0 rfl) ?_
          refine x_iald hx hb hK hP 1 0 rfl rfl (by omega) (by decide) dX1_hasPairsOf_29 ?_
          rw [(hRp.2 (i) (by omega)).1]
          refine k1_V hx hb hml hown hG cs_X1_47 (c_find_at l D cI a2 lg2 bd2 M (kf L (i)) hf) (by decide) (pzV hK rfl hB2.rc hB2) rfl hl.1 rfl (Nat.le_of_ble_eq_true rfl) dX1_hasPairsOf_30 ⟨Nat.zero_le _, Nat.zero_le _⟩ rfl ?_
          refine lv_istore_n (lv' := [(3, .int (nI (j))), (2, .int (nI (i))), (0, .ref (a 0)), (1, .ref (a2 0))]) hx hb dX1_hasPairsOf_33 rfl hl (by decide) rfl (fun ls hl => ?_)
          refine lv_iload_n hx hb dX1_hasPairsOf_34 rfl (lv_at hl 0 rfl) ?_
          refine lv_iconst (v := (-1)) hx hb dX1_hasPairsOf_35 (by decide) ?_
          refine lv_icmp_eq (tgt := 53) hx hb dX1_hasPairsOf_36 (by decide) (fun c2 => ?_) (fun c2 => ?_)
          · exact absurd c2 (m1_ne j (by omega))
          · refine lv_aload_n hx hb dX1_hasPairsOf_39 rfl (lv_at hl 3 rfl) ?_
            refine lv_iload_n hx hb dX1_hasPairsOf_40 rfl (lv_at hl 0 rfl) ?_
            refine k1_V hx hb hml hown hG cs_X1_67 (c_valueOn l D cI a2 lg2 bd2 M (j) hj) (by decide) (pzV hK rfl hB2.rc hB2) rfl hl.1 rfl (Nat.le_of_ble_eq_true rfl) dX1_hasPairsOf_41 ⟨Nat.zero_le _, Nat.zero_le _⟩ rfl ?_
            refine lv_aload_n hx hb dX1_hasPairsOf_44 rfl (lv_at hl 2 rfl) ?_
            refine gf_X1_15 hx hb hG hown hK hP 0 rfl rfl dX1_hasPairsOf_45 ?_
            refine lv_iload_n hx hb dX1_hasPairsOf_48 rfl (lv_at hl 1 rfl) ?_
            refine x_iald hx hb hK hP 2 0 rfl rfl (by omega) (by decide) dX1_hasPairsOf_49 ?_
            rw [(hRp.2 (i) (by omega)).2]
            refine lv_icmp_eq (tgt := 55) hx hb dX1_hasPairsOf_50 (by decide) (fun c3 => ?_) (fun c3 => ?_)
            · refine x_iinc (k := 1) (lv' := [(2, .int (nI (i + 1))), (3, .int (nI (j))), (0, .ref (a 0)), (1, .ref (a2 0))]) hx hb dX1_hasPairsOf_55 hl rfl (by decide) rfl (fun ls hl => ?_)
              refine lv_goto (tgt := 15) hx hb dX1_hasPairsOf_58 (by decide) ?_
              exact ih (i + 1) (by omega) (by omega) (by rw [allB, h3, hasP_at hf, decide_eq_true c3]; rfl) ls (lv_sub hl [0, 2, 3] rfl)
            · refine lv_iconst (v := nI 0) hx hb dX1_hasPairsOf_53 (by decide) ?_
              exact e_z (by unfold eqB; rw [allB_no (f := hasP L M) (i := i) (by rw [hasP_at hf, decide_eq_false c3]) (by omega), Bool.and_false]; rfl) hx hb hr hlocks dX1_hasPairsOf_54
  · refine lv_iconst (v := nI 0) hx hb dX1_hasPairsOf_11 (by decide) ?_
    exact e_z (by unfold eqB; rw [decide_eq_false c0]; rfl) hx hb hr hlocks dX1_hasPairsOf_12
set_option maxHeartbeats 4000000 in
set_option maxRecDepth 100000 in
theorem c_hasRowOf (l : Launch) (D : va_G) (cI : ClassId) (a a2 : Nat → Nat) (lg : Bool) (bd : Nat) (L : Bk) (lg2 : Bool) (bd2 : Nat) (M : Bk) : Met l yX1_hasRowOf (ws_ yX1_hasRowOf cX1_hasRowOf 3 (some .boolean)) (rmN 2) (va_Pc [.ref (a 0), .ref (a2 0)] (pz D [(cI, .int)] (fun H => BkAt D cI a lg bd L H ∧ BkAt D cI a2 lg2 bd2 M H))) (Pq (some (.int (bI (alB L M))))) 0 0 (fun _ => False) := by
  refine m_start (by decide) (Nat.le_of_ble_eq_true rfl) ?_
  intro p e s m below meth c hx hb hr hG hown hlocks hml hB ls hl
  have hl : lv_has ls 3 [(0, .ref (a 0)), (1, .ref (a2 0))] := hl
  obtain ⟨⟨hB1, hB2⟩, hK⟩ := hB
  obtain ⟨k, v, hP, hRp⟩ := id hB1
  have hlen := hRp.1
  have hlen2 := hB2.len
  refine lv_aload_n hx hb dX1_hasRowOf_0 rfl (lv_at hl 0 rfl) ?_
  refine gf_X1_33 hx hb hG hown hK hP 0 rfl rfl dX1_hasRowOf_1 ?_
  refine lv_aload_n hx hb dX1_hasRowOf_4 rfl (lv_at hl 1 rfl) ?_
  refine gf_X1_33 hx hb hG hown hK hB2.obj 0 rfl rfl dX1_hasRowOf_5 ?_
  refine x_cmp_eq (tgt := 13) hx hb dX1_hasRowOf_8 (by decide) (by omega) (by omega) (fun c0 => ?_) (fun c0 => ?_)
  · refine lv_iconst (v := nI 0) hx hb dX1_hasRowOf_13 (by decide) ?_
    refine lv_istore_n (lv' := [(2, .int (nI (0))), (0, .ref (a 0)), (1, .ref (a2 0))]) hx hb dX1_hasRowOf_14 rfl hl (by decide) rfl (fun ls hl => ?_)
    suffices KK : ∀ (n i : Nat), L.length < i + n → i ≤ L.length → allB (rowP L M) i = true → ∀ ls : Array Slot, lv_has ls 3 [(2, .int (nI (i))), (0, .ref (a 0)), (1, .ref (a2 0))] → W p l e (rmN 2) s m [.ref (a 0), .ref (a2 0)].toArray below meth c s.heap [] 0 0 (MQ below (Pq (some (.int (bI (alB L M))))) [.ref (a 0), .ref (a2 0)].toArray s 0 0 (fun _ => False)) (F0 m 15 ls []) from KK (L.length + 1) 0 (by omega) (by omega) rfl ls hl
    intro n
    induction n with
    | zero => intro i h1 h2; omega
    | succ n ih =>
      intro i h1 h2 h3 ls hl
      refine lv_iload_n hx hb dX1_hasRowOf_15 rfl (lv_at hl 0 rfl) ?_
      refine lv_aload_n hx hb dX1_hasRowOf_16 rfl (lv_at hl 1 rfl) ?_
      refine gf_X1_33 hx hb hG hown hK hP 0 rfl rfl dX1_hasRowOf_17 ?_
      refine x_cmp_ge (tgt := 59) hx hb dX1_hasRowOf_20 (by decide) (by omega) (by omega) (fun c1 => ?_) (fun c1 => ?_)
      · refine lv_iconst (v := nI 1) hx hb dX1_hasRowOf_59 (by decide) ?_
        exact e_z (by have ei : i = L.length := (by omega); unfold alB; rw [decide_eq_true c0, ← ei, h3]; rfl) hx hb hr hlocks dX1_hasRowOf_60
      · refine lv_aload_n hx hb dX1_hasRowOf_23 rfl (lv_at hl 1 rfl) ?_
        refine gf_X1_9 hx hb hG hown hK hP 0 rfl rfl dX1_hasRowOf_24 ?_
        refine lv_iload_n hx hb dX1_hasRowOf_27 rfl (lv_at hl 0 rfl) ?_
        refine x_iald hx hb hK hP 1 0 rfl rfl (by omega) (by decide) dX1_hasRowOf_28 ?_
        rw [(hRp.2 (i) (by omega)).1]
        refine lv_aload_n hx hb dX1_hasRowOf_29 rfl (lv_at hl 2 rfl) ?_
        refine lv_iload_n hx hb dX1_hasRowOf_30 rfl (lv_at hl 0 rfl) ?_
        refine k1_V hx hb hml hown hG cs_X1_64 (c_keyOn l D cI a2 lg2 bd2 M (i) (by omega)) (by decide) (pzV hK rfl hB2.rc hB2) rfl hl.1 rfl (Nat.le_of_ble_eq_true rfl) dX1_hasRowOf_31 ⟨Nat.zero_le _, Nat.zero_le _⟩ rfl ?_
        refine lv_icmp_ne (tgt := 51) hx hb dX1_hasRowOf_34 (by decide) (fun c2 => ?_) (fun c2 => ?_)
        · refine lv_iconst (v := nI 0) hx hb dX1_hasRowOf_51 (by decide) ?_
          exact e_z (by unfold alB; rw [allB_no (f := rowP L M) (i := i) (by unfold rowP; rw [decide_eq_false c2]; rfl) (by omega), Bool.and_false]; rfl) hx hb hr hlocks dX1_hasRowOf_52
        · refine lv_aload_n hx hb dX1_hasRowOf_37 rfl (lv_at hl 1 rfl) ?_
          refine gf_X1_15 hx hb hG hown hK hP 0 rfl rfl dX1_hasRowOf_38 ?_
          refine lv_iload_n hx hb dX1_hasRowOf_41 rfl (lv_at hl 0 rfl) ?_
          refine x_iald hx hb hK hP 2 0 rfl rfl (by omega) (by decide) dX1_hasRowOf_42 ?_
          rw [(hRp.2 (i) (by omega)).2]
          refine lv_aload_n hx hb dX1_hasRowOf_43 rfl (lv_at hl 2 rfl) ?_
          refine lv_iload_n hx hb dX1_hasRowOf_44 rfl (lv_at hl 0 rfl) ?_
          refine k1_V hx hb hml hown hG cs_X1_67 (c_valueOn l D cI a2 lg2 bd2 M (i) (by omega)) (by decide) (pzV hK rfl hB2.rc hB2) rfl hl.1 rfl (Nat.le_of_ble_eq_true rfl) dX1_hasRowOf_45 ⟨Nat.zero_le _, Nat.zero_le _⟩ rfl ?_
          refine lv_icmp_eq (tgt := 53) hx hb dX1_hasRowOf_48 (by decide) (fun c3 => ?_) (fun c3 => ?_)
          · refine x_iinc (k := 0) (lv' := [(2, .int (nI (i + 1))), (0, .ref (a 0)), (1, .ref (a2 0))]) hx hb dX1_hasRowOf_53 hl rfl (by decide) rfl (fun ls hl => ?_)
            refine lv_goto (tgt := 15) hx hb dX1_hasRowOf_56 (by decide) ?_
            exact ih (i + 1) (by omega) (by omega) (by rw [allB, h3]; unfold rowP; rw [decide_eq_true (by first | exact c2 | exact Decidable.of_not_not c2), decide_eq_true c3]; rfl) ls (lv_sub hl [0, 1, 2] rfl)
          · refine lv_iconst (v := nI 0) hx hb dX1_hasRowOf_51 (by decide) ?_
            exact e_z (by unfold alB; rw [allB_no (f := rowP L M) (i := i) (by unfold rowP; rw [decide_eq_false c3, Bool.and_false]) (by omega), Bool.and_false]; rfl) hx hb hr hlocks dX1_hasRowOf_52
  · refine lv_iconst (v := nI 0) hx hb dX1_hasRowOf_11 (by decide) ?_
    exact e_z (by unfold alB; rw [decide_eq_false c0]; rfl) hx hb hr hlocks dX1_hasRowOf_12
set_option maxHeartbeats 4000000 in
set_option maxRecDepth 100000 in
/-- all pairs of the other book are put into this one -/
theorem c_storeAllOf (l : Launch) (D : va_G) (cI : ClassId) (a a2 : Nat → Nat) (lg : Bool) (bd : Nat) (L : Bk) (lg2 : Bool) (bd2 : Nat) (M : Bk) (N : Nat) (hdis : ∀ i, i < 3 → ¬ Ao a 6 (a2 i)) (hok : ∀ i, i < M.length → ND (stF lg bd L M i) ∧ (fx (stF lg bd L M i) (kf M i) = none → (stF lg bd L M i).length < 200)) (hbd : bd ≤ 200) (hN : N + 200 < 2 ^ 31) (hap : Ap a 6) : Met l yX1_storeAllOf (ws_ yX1_storeAllOf cX1_storeAllOf 3 none) (rmN 5) (va_Pc [.ref (a 0), .ref (a2 0)] (pz D [(cI, .int)] (fun H => BookAt D cI a lg bd L N H ∧ BkAt D cI a2 lg2 bd2 M H))) (Wq none (fun H => BookAt D cI a lg bd (stF lg bd L M M.length) (N + M.length) H) (Ao a 6)) 0 0 (Ao a 6) := by
  refine m_start (by decide) (Nat.le_of_ble_eq_true rfl) ?_
  intro p e s m below meth c hx hb hr hG hown hlocks hml hB ls hl
  have hl : lv_has ls 3 [(0, .ref (a 0)), (1, .ref (a2 0))] := hl
  obtain ⟨⟨hBk, hB2⟩, hK⟩ := hB
  have hlen2 := hB2.len
  have hS : va_S (Ao a 6) s.heap s.heap [] := va_S.rf
  refine lv_iconst (v := nI 0) hx hb dX1_storeAllOf_0 (by decide) ?_
  refine lv_istore_n (lv' := [(2, .int (nI (0))), (0, .ref (a 0)), (1, .ref (a2 0))]) hx hb dX1_storeAllOf_1 rfl hl (by decide) rfl (fun ls hl => ?_)
  suffices KK : ∀ (n i : Nat), M.length < i + n → i ≤ M.length → ∀ (H : Heap) (locs : List Loc), BookAt D cI a lg bd (stF lg bd L M i) (N + i) H → BkAt D cI a2 lg2 bd2 M H → va_S (Ao a 6) s.heap H locs → ∀ ls : Array Slot, lv_has ls 3 [(2, .int (nI (i))), (0, .ref (a 0)), (1, .ref (a2 0))] → W p l e (rmN 5) s m [.ref (a 0), .ref (a2 0)].toArray below meth c H locs 0 0 (MQ below (Wq none (fun H => BookAt D cI a lg bd (stF lg bd L M M.length) (N + M.length) H) (Ao a 6)) [.ref (a 0), .ref (a2 0)].toArray s 0 0 (Ao a 6)) (F0 m 2 ls []) from KK (M.length + 1) 0 (by omega) (by omega) s.heap [] hBk hB2 hS ls hl
  clear hBk hB2 hS hl
  intro n
  induction n with
  | zero => intro i h1 h2; omega
  | succ n ih =>
    intro i h1 h2 H locs hBk hB2 hS ls hl
    refine lv_iload_n hx hb dX1_storeAllOf_2 rfl (lv_at hl 0 rfl) ?_
    refine lv_aload_n hx hb dX1_storeAllOf_3 rfl (lv_at hl 2 rfl) ?_
    refine gf_X1_33 hx hb hG hown hK hB2.obj 0 rfl rfl dX1_storeAllOf_4 ?_
    refine x_cmp_ge (tgt := 31) hx hb dX1_storeAllOf_7 (by decide) (by omega) (by omega) (fun c1 => ?_) (fun c1 => ?_)
    · have ei : i = M.length := by omega
      subst ei
      exact w_v (PB := fun H => BookAt D cI a lg bd (stF lg bd L M M.length) (N + M.length) H) hBk hS hx hb hr hlocks dX1_storeAllOf_31
    · cases hf : fx (stF lg bd L M i) (kf M i) with
      | none =>
        refine lv_aload_n hx hb dX1_storeAllOf_10 rfl (lv_at hl 1 rfl) ?_
        refine lv_aload_n hx hb dX1_storeAllOf_11 rfl (lv_at hl 2 rfl) ?_
        refine lv_iload_n hx hb dX1_storeAllOf_12 rfl (lv_at hl 0 rfl) ?_
        refine k1_V hx hb hml hown hG cs_X1_64 (c_keyOn l D cI a2 lg2 bd2 M (i) (by omega)) (by decide) (pzV hK rfl hB2.rc hB2) rfl hl.1 rfl (Nat.le_of_ble_eq_true rfl) dX1_storeAllOf_13 ⟨Nat.zero_le _, Nat.zero_le _⟩ rfl ?_
        refine lv_aload_n hx hb dX1_storeAllOf_16 rfl (lv_at hl 2 rfl) ?_
        refine lv_iload_n hx hb dX1_storeAllOf_17 rfl (lv_at hl 0 rfl) ?_
        refine k1_V hx hb hml hown hG cs_X1_67 (c_valueOn l D cI a2 lg2 bd2 M (i) (by omega)) (by decide) (pzV hK rfl hB2.rc hB2) rfl hl.1 rfl (Nat.le_of_ble_eq_true rfl) dX1_storeAllOf_18 ⟨Nat.zero_le _, Nat.zero_le _⟩ rfl ?_
        refine k2_V hx hb hml hown hG cs_X1_70 (c_store_no l D cI a lg bd (stF lg bd L M i) (N + i) (kf M i) (vf M i) hf ((hok i (by omega)).2 hf) (hok i (by omega)).1 hbd (by omega) hap) (by decide) (pzV hK rfl hBk.1.rc hBk) rfl hl.1 rfl (Nat.le_of_ble_eq_true rfl) dX1_storeAllOf_21 ⟨Nat.zero_le _, Nat.zero_le _⟩ rfl hS (fun q h => h) (fun H3 locs hB3 hz hk hS => ?_)
        refine lv_pop hx hb dX1_storeAllOf_24 rfl ?_
        refine x_iinc (k := 0) (lv' := [(2, .int (nI (i + 1))), (0, .ref (a 0)), (1, .ref (a2 0))]) hx hb dX1_storeAllOf_25 hl rfl (by decide) rfl (fun ls hl => ?_)
        refine lv_goto (tgt := 2) hx hb dX1_storeAllOf_28 (by decide) ?_
        exact ih (i + 1) (by omega) (by omega) H3 locs hB3 (hB2.kept (fun q hq => hk _ (hB2.lt hq) (hdis q hq))) hS ls (lv_sub hl [0, 1, 2] rfl)
      | some j =>
        refine lv_aload_n hx hb dX1_storeAllOf_10 rfl (lv_at hl 1 rfl) ?_
        refine lv_aload_n hx hb dX1_storeAllOf_11 rfl (lv_at hl 2 rfl) ?_
        refine lv_iload_n hx hb dX1_storeAllOf_12 rfl (lv_at hl 0 rfl) ?_
        refine k1_V hx hb hml hown hG cs_X1_64 (c_keyOn l D cI a2 lg2 bd2 M (i) (by omega)) (by decide) (pzV hK rfl hB2.rc hB2) rfl hl.1 rfl (Nat.le_of_ble_eq_true rfl) dX1_storeAllOf_13 ⟨Nat.zero_le _, Nat.zero_le _⟩ rfl ?_
        refine lv_aload_n hx hb dX1_storeAllOf_16 rfl (lv_at hl 2 rfl) ?_
        refine lv_iload_n hx hb dX1_storeAllOf_17 rfl (lv_at hl 0 rfl) ?_
        refine k1_V hx hb hml hown hG cs_X1_67 (c_valueOn l D cI a2 lg2 bd2 M (i) (by omega)) (by decide) (pzV hK rfl hB2.rc hB2) rfl hl.1 rfl (Nat.le_of_ble_eq_true rfl) dX1_storeAllOf_18 ⟨Nat.zero_le _, Nat.zero_le _⟩ rfl ?_
        refine k2_V hx hb hml hown hG cs_X1_70 (c_store_at l D cI a lg bd (stF lg bd L M i) (N + i) (kf M i) (vf M i) j hf (hok i (by omega)).1 hbd (by omega) hap) (by decide) (pzV hK rfl hBk.1.rc hBk) rfl hl.1 rfl (Nat.le_of_ble_eq_true rfl) dX1_storeAllOf_21 ⟨Nat.zero_le _, Nat.zero_le _⟩ rfl hS (fun q h => h) (fun H3 locs hB3 hz hk hS => ?_)
        refine lv_pop hx hb dX1_storeAllOf_24 rfl ?_
        refine x_iinc (k := 0) (lv' := [(2, .int (nI (i + 1))), (0, .ref (a 0)), (1, .ref (a2 0))]) hx hb dX1_storeAllOf_25 hl rfl (by decide) rfl (fun ls hl => ?_)
        refine lv_goto (tgt := 2) hx hb dX1_storeAllOf_28 (by decide) ?_
        exact ih (i + 1) (by omega) (by omega) H3 locs hB3 (hB2.kept (fun q hq => hk _ (hB2.lt hq) (hdis q hq))) hS ls (lv_sub hl [0, 1, 2] rfl)
theorem take_step {M : Bk} {i : Nat} (hi : i < M.length) : M.take (i + 1) = M.take i ++ [(kf M i, vf M i)] := by
  have e : M[i] = (kf M i, vf M i) := by simp [kf, vf, hi]
  rw [← e]
  first | exact List.take_succ_eq_append_getElem hi | exact (List.take_append_getElem hi).symm | simp
theorem kf_take {M : Bk} {i j : Nat} (hj : j < i) : kf (M.take i) j = kf M j := by simp [kf, List.getElem?_take, hj]
theorem fx_take {M : Bk} (h : ND M) {i : Nat} (hi : i < M.length) : fx (M.take i) (kf M i) = none := fx_no (fun j hj => by
  rw [List.length_take] at hj
  rw [kf_take (by omega)]
  exact h j i (by omega) hi)
theorem ND_take {M : Bk} (h : ND M) (i : Nat) : ND (M.take i) := fun p q hpq hq => by
  rw [List.length_take] at hq
  rw [kf_take (by omega), kf_take (by omega)]
  exact h p q hpq (by omega)
theorem ent_plain (bd : Nat) (L : Bk) (x y : Int32) : ent false bd L x y = L ++ [(x, y)] := by unfold ent; simp
set_option maxHeartbeats 4000000 in
set_option maxRecDepth 100000 in
/-- this book becomes a copy of the other -/
theorem c_becomeCopyOf (l : Launch) (D : va_G) (cI : ClassId) (a a2 : Nat → Nat) (bd : Nat) (L : Bk) (lg2 : Bool) (bd2 : Nat) (M : Bk) (N : Nat) (hdis : ∀ i, i < 3 → ¬ Ao a 6 (a2 i)) (hND : ND M) (hbd : bd ≤ 200) (hN : N + 200 < 2 ^ 31) (hap : Ap a 6) : Met l yX1_becomeCopyOf (ws_ yX1_becomeCopyOf cX1_becomeCopyOf 3 none) (rmN 4) (va_Pc [.ref (a 0), .ref (a2 0)] (pz D [(cI, .int)] (fun H => BookAt D cI a false bd L N H ∧ BkAt D cI a2 lg2 bd2 M H))) (Wq none (fun H => BookAt D cI a false bd M (N + M.length) H) (Ao a 6)) 0 0 (Ao a 6) := by
  refine m_start (by decide) (Nat.le_of_ble_eq_true rfl) ?_
  intro p e s m below meth c hx hb hr hG hown hlocks hml hB ls hl
  have hl : lv_has ls 3 [(0, .ref (a 0)), (1, .ref (a2 0))] := hl
  obtain ⟨⟨hBk, hB2⟩, hK⟩ := hB
  have hlen2 := hB2.len
  have hS : va_S (Ao a 6) s.heap s.heap [] := va_S.rf
  refine lv_aload_n hx hb dX1_becomeCopyOf_0 rfl (lv_at hl 0 rfl) ?_
  refine k2_V hx hb hml hown hG cs_X1_74 (c_empty l D cI a false bd L N hap) (by decide) (pzV hK rfl hBk.1.rc hBk) rfl hl.1 rfl (Nat.le_of_ble_eq_true rfl) dX1_becomeCopyOf_1 ⟨Nat.zero_le _, Nat.zero_le _⟩ rfl hS (fun q h => h) (fun H2 locs2 hB3 hz hk hS => ?_)
  have hB2 := hB2.kept (H1 := H2) (fun q hq => hk _ (hB2.lt hq) (hdis q hq))
  refine lv_iconst (v := nI 0) hx hb dX1_becomeCopyOf_4 (by decide) ?_
  refine lv_istore_n (lv' := [(2, .int (nI (0))), (0, .ref (a 0)), (1, .ref (a2 0))]) hx hb dX1_becomeCopyOf_5 rfl hl (by decide) rfl (fun ls hl => ?_)
  suffices KK : ∀ (n i : Nat), M.length < i + n → i ≤ M.length → ∀ (H : Heap) (locs : List Loc), BookAt D cI a false bd (M.take i) (N + i) H → BkAt D cI a2 lg2 bd2 M H → va_S (Ao a 6) s.heap H locs → ∀ ls : Array Slot, lv_has ls 3 [(2, .int (nI (i))), (0, .ref (a 0)), (1, .ref (a2 0))] → W p l e (rmN 4) s m [.ref (a 0), .ref (a2 0)].toArray below meth c H locs 0 0 (MQ below (Wq none (fun H => BookAt D cI a false bd M (N + M.length) H) (Ao a 6)) [.ref (a 0), .ref (a2 0)].toArray s 0 0 (Ao a 6)) (F0 m 6 ls []) from KK (M.length + 1) 0 (by omega) (by omega) H2 locs2 hB3 hB2 hS ls hl
  clear hBk hB2 hB3 hS hl hz hk
  intro n
  induction n with
  | zero => intro i h1 h2; omega
  | succ n ih =>
    intro i h1 h2 H locs hBk hB2 hS ls hl
    refine lv_iload_n hx hb dX1_becomeCopyOf_6 rfl (lv_at hl 0 rfl) ?_
    refine lv_aload_n hx hb dX1_becomeCopyOf_7 rfl (lv_at hl 2 rfl) ?_
    refine gf_X1_33 hx hb hG hown hK hB2.obj 0 rfl rfl dX1_becomeCopyOf_8 ?_
    refine x_cmp_ge (tgt := 34) hx hb dX1_becomeCopyOf_11 (by decide) (by omega) (by omega) (fun c1 => ?_) (fun c1 => ?_)
    · have ei : i = M.length := by omega
      subst ei
      rw [List.take_length] at hBk
      exact w_v (PB := fun H => BookAt D cI a false bd M (N + M.length) H) hBk hS hx hb hr hlocks dX1_becomeCopyOf_34
    · refine lv_aload_n hx hb dX1_becomeCopyOf_14 rfl (lv_at hl 1 rfl) ?_
      refine lv_aload_n hx hb dX1_becomeCopyOf_15 rfl (lv_at hl 2 rfl) ?_
      refine lv_iload_n hx hb dX1_becomeCopyOf_16 rfl (lv_at hl 0 rfl) ?_
      refine k1_V hx hb hml hown hG cs_X1_64 (c_keyOn l D cI a2 lg2 bd2 M (i) (by omega)) (by decide) (pzV hK rfl hB2.rc hB2) rfl hl.1 rfl (Nat.le_of_ble_eq_true rfl) dX1_becomeCopyOf_17 ⟨Nat.zero_le _, Nat.zero_le _⟩ rfl ?_
      refine lv_aload_n hx hb dX1_becomeCopyOf_20 rfl (lv_at hl 2 rfl) ?_
      refine lv_iload_n hx hb dX1_becomeCopyOf_21 rfl (lv_at hl 0 rfl) ?_
      refine k1_V hx hb hml hown hG cs_X1_67 (c_valueOn l D cI a2 lg2 bd2 M (i) (by omega)) (by decide) (pzV hK rfl hB2.rc hB2) rfl hl.1 rfl (Nat.le_of_ble_eq_true rfl) dX1_becomeCopyOf_22 ⟨Nat.zero_le _, Nat.zero_le _⟩ rfl ?_
      have hi2 : (M.take i).length < 200 := by rw [List.length_take]; omega
      refine k2_V hx hb hml hown hG cs_X1_51 (c_enter l D cI a false bd (M.take i) (N + i) (kf M i) (vf M i) (ND_take hND i) (fx_take hND (by omega)) hi2 hbd (by omega) hap) (by decide) (pzV hK rfl hBk.1.rc hBk) rfl hl.1 rfl (Nat.le_of_ble_eq_true rfl) dX1_becomeCopyOf_25 ⟨Nat.zero_le _, Nat.zero_le _⟩ rfl hS (fun q h => h) (fun H3 locs hB3 hz hk hS => ?_)
      rw [ent_plain, ← take_step (by omega)] at hB3
      refine x_iinc (k := 0) (lv' := [(2, .int (nI (i + 1))), (0, .ref (a 0)), (1, .ref (a2 0))]) hx hb dX1_becomeCopyOf_28 hl rfl (by decide) rfl (fun ls hl => ?_)
      refine lv_goto (tgt := 6) hx hb dX1_becomeCopyOf_31 (by decide) ?_
      exact ih (i + 1) (by omega) (by omega) H3 locs hB3 (hB2.kept (fun q hq => hk _ (hB2.lt hq) (hdis q hq))) hS ls (lv_sub hl [0, 1, 2] rfl)
def tb (τ : Nat → Int32) (i : Nat) : Int32 := if i = 0 then -1 else τ (i - 1)
theorem tb_lt {τ : Nat → Int32} {n i : Nat} (h1 : ∀ i j, i < j → j < n → τ i < τ j) (h2 : ∀ j, j < n → 0 ≤ τ j) (hi : i < n) : tb τ i < τ i := by
  unfold tb
  split
  · have := h2 i hi
    rw [i_le] at this
    rw [i_lt]
    have e : (-1 : Int32).toInt = -1 := by decide
    have e0 : (0 : Int32).toInt = 0 := by decide
    omega
  · exact h1 (i - 1) i (by omega) hi
set_option maxHeartbeats 4000000 in
set_option maxRecDepth 100000 in
/-- the record tells of its book -/
theorem c_tellOf (l : Launch) (D : va_G) (cI : ClassId) (a : Nat → Nat) (lg : Bool) (bd : Nat) (L : Bk) (R : Bk) (now N : Nat) (hND : ND L) (hT : Tq L R now N) : Met l yX0_tellOf (ws_ yX0_tellOf cX0_tellOf 5 (some .boolean)) (rmN 2) (va_Pc [.ref (a 3), .ref (a 0)] (pz D [(cI, .int)] (fun H => BkAt D cI a lg bd L H ∧ ArAt D cI (rec_ a) R now H))) (Pq (some (.int (bI true)))) 0 0 (fun _ => False) := by
  refine m_start (by decide) (Nat.le_of_ble_eq_true rfl) ?_
  intro p e s m below meth c hx hb hr hG hown hlocks hml hB ls hl
  have hl : lv_has ls 5 [(0, .ref (a 3)), (1, .ref (a 0))] := hl
  obtain ⟨⟨hB0, hA0⟩, hK⟩ := hB
  have hlen := hB0.len
  obtain ⟨rk, rt, hP2, hRq⟩ := id hA0
  have hRl := hT.len
  obtain ⟨hNR, τ, hfd, hinc, hpos⟩ := hT.found hND
  refine lv_aload_n hx hb dX0_tellOf_0 rfl (lv_at hl 1 rfl) ?_
  refine gf_X0_29 hx hb hG hown hK hB0.obj 0 rfl rfl dX0_tellOf_1 ?_
  refine lv_aload_n hx hb dX0_tellOf_4 rfl (lv_at hl 0 rfl) ?_
  refine gf_X0_18 hx hb hG hown hK hP2 0 rfl rfl dX0_tellOf_5 ?_
  refine x_cmp_eq (tgt := 13) hx hb dX0_tellOf_8 (by decide) (by omega) (by omega) (fun c0 => ?_) (fun c0 => ?_)
  · refine lv_iconst (v := (-1)) hx hb dX0_tellOf_13 (by decide) ?_
    refine lv_istore_n (lv' := [(2, .int ((-1))), (0, .ref (a 3)), (1, .ref (a 0))]) hx hb dX0_tellOf_14 rfl hl (by decide) rfl (fun ls hl => ?_)
    refine lv_iconst (v := nI 0) hx hb dX0_tellOf_15 (by decide) ?_
    refine lv_istore_n (lv' := [(3, .int (nI (0))), (2, .int ((-1))), (0, .ref (a 3)), (1, .ref (a 0))]) hx hb dX0_tellOf_16 rfl hl (by decide) rfl (fun ls hl => ?_)
    suffices KK : ∀ (n i : Nat), L.length < i + n → i ≤ L.length → ∀ ls : Array Slot, lv_has ls 5 [(3, .int (nI (i))), (2, .int (tb τ i)), (0, .ref (a 3)), (1, .ref (a 0))] → W p l e (rmN 2) s m [.ref (a 3), .ref (a 0)].toArray below meth c s.heap [] 0 0 (MQ below (Pq (some (.int (bI true)))) [.ref (a 3), .ref (a 0)].toArray s 0 0 (fun _ => False)) (F0 m 17 ls []) from KK (L.length + 1) 0 (by omega) (by omega) ls hl
    clear hl
    intro n
    induction n with
    | zero => intro i h1 h2; omega
    | succ n ih =>
      intro i h1 h2 ls hl
      refine lv_iload_n hx hb dX0_tellOf_17 rfl (lv_at hl 0 rfl) ?_
      refine lv_aload_n hx hb dX0_tellOf_18 rfl (lv_at hl 3 rfl) ?_
      refine gf_X0_29 hx hb hG hown hK hB0.obj 0 rfl rfl dX0_tellOf_19 ?_
      refine x_cmp_ge (tgt := 69) hx hb dX0_tellOf_22 (by decide) (by omega) (by omega) (fun c1 => ?_) (fun c1 => ?_)
      · refine lv_iconst (v := nI 1) hx hb dX0_tellOf_69 (by decide) ?_
        exact e_z (by rfl) hx hb hr hlocks dX0_tellOf_70
      · obtain ⟨j, hj, hv⟩ := hfd i (by omega)
        have hjR := (fx_some hj).1
        refine lv_aload_n hx hb dX0_tellOf_25 rfl (lv_at hl 2 rfl) ?_
        refine lv_aload_n hx hb dX0_tellOf_26 rfl (lv_at hl 3 rfl) ?_
        refine lv_iload_n hx hb dX0_tellOf_27 rfl (lv_at hl 0 rfl) ?_
        refine k1_V hx hb hml hown hG cs_X0_32 (c_keyOn l D cI a lg bd L i (by omega)) (by decide) (pzV hK rfl hB0.rc hB0) rfl hl.1 rfl (Nat.le_of_ble_eq_true rfl) dX0_tellOf_28 ⟨Nat.zero_le _, Nat.zero_le _⟩ rfl ?_
        refine k1_V hx hb hml hown hG cs_X0_25 (c_indexOfKey_at l D cI (rec_ a) R now (kf L i) hj) (by decide) (pzV hK rfl hA0.rc hA0) rfl hl.1 rfl (Nat.le_of_ble_eq_true rfl) dX0_tellOf_31 ⟨Nat.zero_le _, Nat.zero_le _⟩ rfl ?_
        refine lv_istore (lv' := [(4, .int (nI (j))), (3, .int (nI (i))), (2, .int (tb τ i)), (0, .ref (a 3)), (1, .ref (a 0))]) hx hb dX0_tellOf_34 hl (by decide) rfl (fun ls hl => ?_)
        refine lv_iload hx hb dX0_tellOf_36 (lv_at hl 0 rfl) ?_
        refine lv_iconst (v := (-1)) hx hb dX0_tellOf_38 (by decide) ?_
        refine lv_icmp_eq (tgt := 53) hx hb dX0_tellOf_39 (by decide) (fun c2 => ?_) (fun c2 => ?_)
        · exact absurd c2 (m1_ne j (by omega))
        · refine lv_aload_n hx hb dX0_tellOf_42 rfl (lv_at hl 3 rfl) ?_
          refine gf_X0_15 hx hb hG hown hK hP2 0 rfl rfl dX0_tellOf_43 ?_
          refine lv_iload hx hb dX0_tellOf_46 (lv_at hl 0 rfl) ?_
          refine x_iald hx hb hK hP2 2 0 rfl rfl (by omega) (by decide) dX0_tellOf_48 ?_
          rw [(hRq.2 j (by omega)).2, hv]
          refine lv_iload_n hx hb dX0_tellOf_49 rfl (lv_at hl 2 rfl) ?_
          refine lv_icmp_gt (tgt := 55) hx hb dX0_tellOf_50 (by decide) (fun c3 => ?_) (fun c3 => ?_)
          · refine lv_aload_n hx hb dX0_tellOf_55 rfl (lv_at hl 3 rfl) ?_
            refine gf_X0_15 hx hb hG hown hK hP2 0 rfl rfl dX0_tellOf_56 ?_
            refine lv_iload hx hb dX0_tellOf_59 (lv_at hl 0 rfl) ?_
            refine x_iald hx hb hK hP2 2 0 rfl rfl (by omega) (by decide) dX0_tellOf_61 ?_
            rw [(hRq.2 j (by omega)).2, hv]
            refine lv_istore_n (lv' := [(2, .int (τ i)), (4, .int (nI (j))), (3, .int (nI (i))), (0, .ref (a 3)), (1, .ref (a 0))]) hx hb dX0_tellOf_62 rfl hl (by decide) rfl (fun ls hl => ?_)
            refine x_iinc (k := 2) (lv' := [(3, .int (nI (i + 1))), (2, .int (τ i)), (4, .int (nI (j))), (0, .ref (a 3)), (1, .ref (a 0))]) hx hb dX0_tellOf_63 hl rfl (by decide) rfl (fun ls hl => ?_)
            refine lv_goto (tgt := 17) hx hb dX0_tellOf_66 (by decide) ?_
            exact ih (i + 1) (by omega) (by omega) ls (lv_sub hl [0, 1, 3, 4] rfl)
          · exact absurd (tb_lt hinc hpos (by omega)) c3
  · omega
